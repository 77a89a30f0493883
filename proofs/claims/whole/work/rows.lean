section
-- ===== PART A: goes FIRST, ahead of the names: the tables' words, and 'selects' of the private methods out of them =====
/-- a private method of a class that the tables say can be made, by its rows of tables_1 -/
def lw_okq (q : MethodName × Nat) : Prop := (q.1.cls ≠ "java/lang/invoke/MethodHandle" ∧ q.1.cls ≠ "java/lang/invoke/VarHandle") ∧ Cond.instantiable q.1.cls q.2 ∈ tables_1 ∧ Cond.privateMethod q.1 ∈ tables_1 ∧ Cond.instanceMethod q.1 ∈ tables_1
theorem lw_p0 : lw_okq (⟨"StickRests$History", "placeOf", "(I)I"⟩, 3) := ⟨⟨by decide +kernel, by decide +kernel⟩, List.mem_of_getElem? (i := 149) (by decide +kernel), List.mem_of_getElem? (i := 196) (by decide +kernel), List.mem_of_getElem? (i := 197) (by decide +kernel)⟩
theorem lw_p1 : lw_okq (⟨"StickRests", "takeAlike", "(III)I"⟩, 5) := ⟨⟨by decide +kernel, by decide +kernel⟩, List.mem_of_getElem? (i := 11) (by decide +kernel), List.mem_of_getElem? (i := 224) (by decide +kernel), List.mem_of_getElem? (i := 225) (by decide +kernel)⟩
theorem lw_p2 : lw_okq (⟨"StickRests$Stick", "farthestOff", "(II)I"⟩, 17) := ⟨⟨by decide +kernel, by decide +kernel⟩, List.mem_of_getElem? (i := 19) (by decide +kernel), List.mem_of_getElem? (i := 243) (by decide +kernel), List.mem_of_getElem? (i := 244) (by decide +kernel)⟩
theorem lw_p3 : lw_okq (⟨"StickRests$Stick", "stillWith", "(II)I"⟩, 17) := ⟨⟨by decide +kernel, by decide +kernel⟩, List.mem_of_getElem? (i := 19) (by decide +kernel), List.mem_of_getElem? (i := 257) (by decide +kernel), List.mem_of_getElem? (i := 258) (by decide +kernel)⟩
theorem lw_p4 : lw_okq (⟨"StickRests$Stick", "leanOf", "(I)I"⟩, 17) := ⟨⟨by decide +kernel, by decide +kernel⟩, List.mem_of_getElem? (i := 19) (by decide +kernel), List.mem_of_getElem? (i := 268) (by decide +kernel), List.mem_of_getElem? (i := 269) (by decide +kernel)⟩
theorem lw_p5 : lw_okq (⟨"StickRests$Stick", "comeToRest", "(II)V"⟩, 17) := ⟨⟨by decide +kernel, by decide +kernel⟩, List.mem_of_getElem? (i := 19) (by decide +kernel), List.mem_of_getElem? (i := 282) (by decide +kernel), List.mem_of_getElem? (i := 283) (by decide +kernel)⟩
theorem lw_p6 : lw_okq (⟨"StickRests$Stick", "tellsSomething", "()Z"⟩, 17) := ⟨⟨by decide +kernel, by decide +kernel⟩, List.mem_of_getElem? (i := 19) (by decide +kernel), List.mem_of_getElem? (i := 286) (by decide +kernel), List.mem_of_getElem? (i := 287) (by decide +kernel)⟩
theorem lw_p7 : lw_okq (⟨"StickRests$Stick", "fitZone", "(I)V"⟩, 17) := ⟨⟨by decide +kernel, by decide +kernel⟩, List.mem_of_getElem? (i := 19) (by decide +kernel), List.mem_of_getElem? (i := 290) (by decide +kernel), List.mem_of_getElem? (i := 291) (by decide +kernel)⟩
theorem lw_p8 : lw_okq (⟨"StickRests$Stick", "driftTo", "(II)V"⟩, 17) := ⟨⟨by decide +kernel, by decide +kernel⟩, List.mem_of_getElem? (i := 19) (by decide +kernel), List.mem_of_getElem? (i := 294) (by decide +kernel), List.mem_of_getElem? (i := 295) (by decide +kernel)⟩
theorem lw_p9 : lw_okq (⟨"StickRests$Stick", "tell", "(I)V"⟩, 17) := ⟨⟨by decide +kernel, by decide +kernel⟩, List.mem_of_getElem? (i := 19) (by decide +kernel), List.mem_of_getElem? (i := 298) (by decide +kernel), List.mem_of_getElem? (i := 299) (by decide +kernel)⟩
theorem lw_p10 : lw_okq (⟨"StickRests$Stick", "isDown", "(I)Z"⟩, 17) := ⟨⟨by decide +kernel, by decide +kernel⟩, List.mem_of_getElem? (i := 19) (by decide +kernel), List.mem_of_getElem? (i := 329) (by decide +kernel), List.mem_of_getElem? (i := 330) (by decide +kernel)⟩
theorem lw_p11 : lw_okq (⟨"StickRests$Stick", "about", "(IIII)I"⟩, 17) := ⟨⟨by decide +kernel, by decide +kernel⟩, List.mem_of_getElem? (i := 19) (by decide +kernel), List.mem_of_getElem? (i := 365) (by decide +kernel), List.mem_of_getElem? (i := 366) (by decide +kernel)⟩
theorem lw_p12 : lw_okq (⟨"StickRests$Pad", "next", "()C"⟩, 7) := ⟨⟨by decide +kernel, by decide +kernel⟩, List.mem_of_getElem? (i := 115) (by decide +kernel), List.mem_of_getElem? (i := 454) (by decide +kernel), List.mem_of_getElem? (i := 455) (by decide +kernel)⟩
theorem lw_p13 : lw_okq (⟨"StickRests$Pad", "readSamples", "()Z"⟩, 7) := ⟨⟨by decide +kernel, by decide +kernel⟩, List.mem_of_getElem? (i := 115) (by decide +kernel), List.mem_of_getElem? (i := 458) (by decide +kernel), List.mem_of_getElem? (i := 459) (by decide +kernel)⟩
theorem lw_p14 : lw_okq (⟨"StickRests$Pad", "readNumber", "()I"⟩, 7) := ⟨⟨by decide +kernel, by decide +kernel⟩, List.mem_of_getElem? (i := 115) (by decide +kernel), List.mem_of_getElem? (i := 462) (by decide +kernel), List.mem_of_getElem? (i := 463) (by decide +kernel)⟩
theorem lw_p15 : lw_okq (⟨"StickRests$Pad", "readDigit", "()I"⟩, 7) := ⟨⟨by decide +kernel, by decide +kernel⟩, List.mem_of_getElem? (i := 115) (by decide +kernel), List.mem_of_getElem? (i := 466) (by decide +kernel), List.mem_of_getElem? (i := 467) (by decide +kernel)⟩
def lw_privs_1 : List (MethodName × Nat) := [(⟨"StickRests$History", "placeOf", "(I)I"⟩, 3), (⟨"StickRests", "takeAlike", "(III)I"⟩, 5), (⟨"StickRests$Stick", "farthestOff", "(II)I"⟩, 17), (⟨"StickRests$Stick", "stillWith", "(II)I"⟩, 17), (⟨"StickRests$Stick", "leanOf", "(I)I"⟩, 17), (⟨"StickRests$Stick", "comeToRest", "(II)V"⟩, 17), (⟨"StickRests$Stick", "tellsSomething", "()Z"⟩, 17), (⟨"StickRests$Stick", "fitZone", "(I)V"⟩, 17), (⟨"StickRests$Stick", "driftTo", "(II)V"⟩, 17), (⟨"StickRests$Stick", "tell", "(I)V"⟩, 17), (⟨"StickRests$Stick", "isDown", "(I)Z"⟩, 17), (⟨"StickRests$Stick", "about", "(IIII)I"⟩, 17), (⟨"StickRests$Pad", "next", "()C"⟩, 7), (⟨"StickRests$Pad", "readSamples", "()Z"⟩, 7), (⟨"StickRests$Pad", "readNumber", "()I"⟩, 7), (⟨"StickRests$Pad", "readDigit", "()I"⟩, 7)]
theorem lw_r1 : ∀ q ∈ lw_privs_1, lw_okq q := List.forall_mem_cons.mpr ⟨lw_p0, List.forall_mem_cons.mpr ⟨lw_p1, List.forall_mem_cons.mpr ⟨lw_p2, List.forall_mem_cons.mpr ⟨lw_p3, List.forall_mem_cons.mpr ⟨lw_p4, List.forall_mem_cons.mpr ⟨lw_p5, List.forall_mem_cons.mpr ⟨lw_p6, List.forall_mem_cons.mpr ⟨lw_p7, List.forall_mem_cons.mpr ⟨lw_p8, List.forall_mem_cons.mpr ⟨lw_p9, List.forall_mem_cons.mpr ⟨lw_p10, List.forall_mem_cons.mpr ⟨lw_p11, List.forall_mem_cons.mpr ⟨lw_p12, List.forall_mem_cons.mpr ⟨lw_p13, List.forall_mem_cons.mpr ⟨lw_p14, List.forall_mem_cons.mpr ⟨lw_p15, fun _ h => absurd h List.not_mem_nil⟩⟩⟩⟩⟩⟩⟩⟩⟩⟩⟩⟩⟩⟩⟩⟩
theorem lw_p16 : lw_okq (⟨"StickRests", "carryOutOrders", "()I"⟩, 5) := ⟨⟨by decide +kernel, by decide +kernel⟩, List.mem_of_getElem? (i := 11) (by decide +kernel), List.mem_of_getElem? (i := 478) (by decide +kernel), List.mem_of_getElem? (i := 479) (by decide +kernel)⟩
theorem lw_p17 : lw_okq (⟨"StickRests", "takeFromPad", "()I"⟩, 5) := ⟨⟨by decide +kernel, by decide +kernel⟩, List.mem_of_getElem? (i := 11) (by decide +kernel), List.mem_of_getElem? (i := 484) (by decide +kernel), List.mem_of_getElem? (i := 485) (by decide +kernel)⟩
theorem lw_p18 : lw_okq (⟨"StickRests", "moveButtonFromPad", "()I"⟩, 5) := ⟨⟨by decide +kernel, by decide +kernel⟩, List.mem_of_getElem? (i := 11) (by decide +kernel), List.mem_of_getElem? (i := 488) (by decide +kernel), List.mem_of_getElem? (i := 489) (by decide +kernel)⟩
theorem lw_p19 : lw_okq (⟨"StickRestsModel", "remembers", "()V"⟩, 7) := ⟨⟨by decide +kernel, by decide +kernel⟩, List.mem_of_getElem? (i := 509) (by decide +kernel), List.mem_of_getElem? (i := 551) (by decide +kernel), List.mem_of_getElem? (i := 552) (by decide +kernel)⟩
theorem lw_p20 : lw_okq (⟨"StickRestsModel", "whyNot", "(III)I"⟩, 7) := ⟨⟨by decide +kernel, by decide +kernel⟩, List.mem_of_getElem? (i := 509) (by decide +kernel), List.mem_of_getElem? (i := 559) (by decide +kernel), List.mem_of_getElem? (i := 560) (by decide +kernel)⟩
theorem lw_p21 : lw_okq (⟨"StickRestsModel", "samples", "(III)V"⟩, 7) := ⟨⟨by decide +kernel, by decide +kernel⟩, List.mem_of_getElem? (i := 509) (by decide +kernel), List.mem_of_getElem? (i := 566) (by decide +kernel), List.mem_of_getElem? (i := 567) (by decide +kernel)⟩
theorem lw_p22 : lw_okq (⟨"StickRestsModel", "far", "(III)I"⟩, 7) := ⟨⟨by decide +kernel, by decide +kernel⟩, List.mem_of_getElem? (i := 509) (by decide +kernel), List.mem_of_getElem? (i := 573) (by decide +kernel), List.mem_of_getElem? (i := 574) (by decide +kernel)⟩
theorem lw_p23 : lw_okq (⟨"StickRestsModel", "off", "(III)I"⟩, 7) := ⟨⟨by decide +kernel, by decide +kernel⟩, List.mem_of_getElem? (i := 509) (by decide +kernel), List.mem_of_getElem? (i := 577) (by decide +kernel), List.mem_of_getElem? (i := 578) (by decide +kernel)⟩
theorem lw_p24 : lw_okq (⟨"StickRestsModel", "rests", "(III)V"⟩, 7) := ⟨⟨by decide +kernel, by decide +kernel⟩, List.mem_of_getElem? (i := 509) (by decide +kernel), List.mem_of_getElem? (i := 584) (by decide +kernel), List.mem_of_getElem? (i := 585) (by decide +kernel)⟩
theorem lw_p25 : lw_okq (⟨"StickRestsModel", "isTelling", "(I)Z"⟩, 7) := ⟨⟨by decide +kernel, by decide +kernel⟩, List.mem_of_getElem? (i := 509) (by decide +kernel), List.mem_of_getElem? (i := 588) (by decide +kernel), List.mem_of_getElem? (i := 589) (by decide +kernel)⟩
theorem lw_p26 : lw_okq (⟨"StickRestsModel", "learns", "(III)V"⟩, 7) := ⟨⟨by decide +kernel, by decide +kernel⟩, List.mem_of_getElem? (i := 509) (by decide +kernel), List.mem_of_getElem? (i := 592) (by decide +kernel), List.mem_of_getElem? (i := 593) (by decide +kernel)⟩
theorem lw_p27 : lw_okq (⟨"StickRestsModel", "tells", "(III)V"⟩, 7) := ⟨⟨by decide +kernel, by decide +kernel⟩, List.mem_of_getElem? (i := 509) (by decide +kernel), List.mem_of_getElem? (i := 596) (by decide +kernel), List.mem_of_getElem? (i := 597) (by decide +kernel)⟩
theorem lw_p28 : lw_okq (⟨"StickRestsModel", "axis", "(II)I"⟩, 7) := ⟨⟨by decide +kernel, by decide +kernel⟩, List.mem_of_getElem? (i := 509) (by decide +kernel), List.mem_of_getElem? (i := 600) (by decide +kernel), List.mem_of_getElem? (i := 601) (by decide +kernel)⟩
theorem lw_p29 : lw_okq (⟨"StickRestsModel", "counts", "(I)V"⟩, 7) := ⟨⟨by decide +kernel, by decide +kernel⟩, List.mem_of_getElem? (i := 509) (by decide +kernel), List.mem_of_getElem? (i := 604) (by decide +kernel), List.mem_of_getElem? (i := 605) (by decide +kernel)⟩
theorem lw_p30 : lw_okq (⟨"StickRestsModel", "told", "(I)I"⟩, 7) := ⟨⟨by decide +kernel, by decide +kernel⟩, List.mem_of_getElem? (i := 509) (by decide +kernel), List.mem_of_getElem? (i := 611) (by decide +kernel), List.mem_of_getElem? (i := 612) (by decide +kernel)⟩
theorem lw_p31 : lw_okq (⟨"StickRestsModel", "whyNotPress", "(IZ)I"⟩, 7) := ⟨⟨by decide +kernel, by decide +kernel⟩, List.mem_of_getElem? (i := 509) (by decide +kernel), List.mem_of_getElem? (i := 623) (by decide +kernel), List.mem_of_getElem? (i := 624) (by decide +kernel)⟩
def lw_privs_2 : List (MethodName × Nat) := [(⟨"StickRests", "carryOutOrders", "()I"⟩, 5), (⟨"StickRests", "takeFromPad", "()I"⟩, 5), (⟨"StickRests", "moveButtonFromPad", "()I"⟩, 5), (⟨"StickRestsModel", "remembers", "()V"⟩, 7), (⟨"StickRestsModel", "whyNot", "(III)I"⟩, 7), (⟨"StickRestsModel", "samples", "(III)V"⟩, 7), (⟨"StickRestsModel", "far", "(III)I"⟩, 7), (⟨"StickRestsModel", "off", "(III)I"⟩, 7), (⟨"StickRestsModel", "rests", "(III)V"⟩, 7), (⟨"StickRestsModel", "isTelling", "(I)Z"⟩, 7), (⟨"StickRestsModel", "learns", "(III)V"⟩, 7), (⟨"StickRestsModel", "tells", "(III)V"⟩, 7), (⟨"StickRestsModel", "axis", "(II)I"⟩, 7), (⟨"StickRestsModel", "counts", "(I)V"⟩, 7), (⟨"StickRestsModel", "told", "(I)I"⟩, 7), (⟨"StickRestsModel", "whyNotPress", "(IZ)I"⟩, 7)]
theorem lw_r2 : ∀ q ∈ lw_privs_2, lw_okq q := List.forall_mem_cons.mpr ⟨lw_p16, List.forall_mem_cons.mpr ⟨lw_p17, List.forall_mem_cons.mpr ⟨lw_p18, List.forall_mem_cons.mpr ⟨lw_p19, List.forall_mem_cons.mpr ⟨lw_p20, List.forall_mem_cons.mpr ⟨lw_p21, List.forall_mem_cons.mpr ⟨lw_p22, List.forall_mem_cons.mpr ⟨lw_p23, List.forall_mem_cons.mpr ⟨lw_p24, List.forall_mem_cons.mpr ⟨lw_p25, List.forall_mem_cons.mpr ⟨lw_p26, List.forall_mem_cons.mpr ⟨lw_p27, List.forall_mem_cons.mpr ⟨lw_p28, List.forall_mem_cons.mpr ⟨lw_p29, List.forall_mem_cons.mpr ⟨lw_p30, List.forall_mem_cons.mpr ⟨lw_p31, fun _ h => absurd h List.not_mem_nil⟩⟩⟩⟩⟩⟩⟩⟩⟩⟩⟩⟩⟩⟩⟩⟩
theorem lw_p32 : lw_okq (⟨"StickRestsModel", "isDown", "(I)Z"⟩, 7) := ⟨⟨by decide +kernel, by decide +kernel⟩, List.mem_of_getElem? (i := 509) (by decide +kernel), List.mem_of_getElem? (i := 627) (by decide +kernel), List.mem_of_getElem? (i := 628) (by decide +kernel)⟩
theorem lw_p33 : lw_okq (⟨"StickRestsModel", "presses", "(I)I"⟩, 7) := ⟨⟨by decide +kernel, by decide +kernel⟩, List.mem_of_getElem? (i := 509) (by decide +kernel), List.mem_of_getElem? (i := 631) (by decide +kernel), List.mem_of_getElem? (i := 632) (by decide +kernel)⟩
theorem lw_p34 : lw_okq (⟨"StickRestsModel", "letsUp", "(I)I"⟩, 7) := ⟨⟨by decide +kernel, by decide +kernel⟩, List.mem_of_getElem? (i := 509) (by decide +kernel), List.mem_of_getElem? (i := 639) (by decide +kernel), List.mem_of_getElem? (i := 640) (by decide +kernel)⟩
theorem lw_p35 : lw_okq (⟨"StickRestsModel", "copies", "()V"⟩, 7) := ⟨⟨by decide +kernel, by decide +kernel⟩, List.mem_of_getElem? (i := 509) (by decide +kernel), List.mem_of_getElem? (i := 663) (by decide +kernel), List.mem_of_getElem? (i := 664) (by decide +kernel)⟩
theorem lw_p36 : lw_okq (⟨"StickRestsModel", "orderEnd", "(I)I"⟩, 7) := ⟨⟨by decide +kernel, by decide +kernel⟩, List.mem_of_getElem? (i := 509) (by decide +kernel), List.mem_of_getElem? (i := 692) (by decide +kernel), List.mem_of_getElem? (i := 693) (by decide +kernel)⟩
theorem lw_p37 : lw_okq (⟨"StickRestsModel", "signAt", "(I)I"⟩, 7) := ⟨⟨by decide +kernel, by decide +kernel⟩, List.mem_of_getElem? (i := 509) (by decide +kernel), List.mem_of_getElem? (i := 696) (by decide +kernel), List.mem_of_getElem? (i := 697) (by decide +kernel)⟩
theorem lw_p38 : lw_okq (⟨"StickRestsModel", "numberEnd", "(I)I"⟩, 7) := ⟨⟨by decide +kernel, by decide +kernel⟩, List.mem_of_getElem? (i := 509) (by decide +kernel), List.mem_of_getElem? (i := 700) (by decide +kernel), List.mem_of_getElem? (i := 701) (by decide +kernel)⟩
theorem lw_p39 : lw_okq (⟨"StickRestsModel", "digit", "(I)I"⟩, 7) := ⟨⟨by decide +kernel, by decide +kernel⟩, List.mem_of_getElem? (i := 509) (by decide +kernel), List.mem_of_getElem? (i := 704) (by decide +kernel), List.mem_of_getElem? (i := 705) (by decide +kernel)⟩
theorem lw_p40 : lw_okq (⟨"StickRestsModel", "behind", "(II)I"⟩, 7) := ⟨⟨by decide +kernel, by decide +kernel⟩, List.mem_of_getElem? (i := 509) (by decide +kernel), List.mem_of_getElem? (i := 708) (by decide +kernel), List.mem_of_getElem? (i := 709) (by decide +kernel)⟩
theorem lw_p41 : lw_okq (⟨"StickRestsModel", "ordersAt", "(I)I"⟩, 7) := ⟨⟨by decide +kernel, by decide +kernel⟩, List.mem_of_getElem? (i := 509) (by decide +kernel), List.mem_of_getElem? (i := 717) (by decide +kernel), List.mem_of_getElem? (i := 718) (by decide +kernel)⟩
theorem lw_p42 : lw_okq (⟨"StickRestsModel", "numberAt", "(I)I"⟩, 7) := ⟨⟨by decide +kernel, by decide +kernel⟩, List.mem_of_getElem? (i := 509) (by decide +kernel), List.mem_of_getElem? (i := 721) (by decide +kernel), List.mem_of_getElem? (i := 722) (by decide +kernel)⟩
theorem lw_p43 : lw_okq (⟨"StickRestsModel", "carries", "(I)I"⟩, 7) := ⟨⟨by decide +kernel, by decide +kernel⟩, List.mem_of_getElem? (i := 509) (by decide +kernel), List.mem_of_getElem? (i := 725) (by decide +kernel), List.mem_of_getElem? (i := 726) (by decide +kernel)⟩
def lw_privs_3 : List (MethodName × Nat) := [(⟨"StickRestsModel", "isDown", "(I)Z"⟩, 7), (⟨"StickRestsModel", "presses", "(I)I"⟩, 7), (⟨"StickRestsModel", "letsUp", "(I)I"⟩, 7), (⟨"StickRestsModel", "copies", "()V"⟩, 7), (⟨"StickRestsModel", "orderEnd", "(I)I"⟩, 7), (⟨"StickRestsModel", "signAt", "(I)I"⟩, 7), (⟨"StickRestsModel", "numberEnd", "(I)I"⟩, 7), (⟨"StickRestsModel", "digit", "(I)I"⟩, 7), (⟨"StickRestsModel", "behind", "(II)I"⟩, 7), (⟨"StickRestsModel", "ordersAt", "(I)I"⟩, 7), (⟨"StickRestsModel", "numberAt", "(I)I"⟩, 7), (⟨"StickRestsModel", "carries", "(I)I"⟩, 7)]
theorem lw_r3 : ∀ q ∈ lw_privs_3, lw_okq q := List.forall_mem_cons.mpr ⟨lw_p32, List.forall_mem_cons.mpr ⟨lw_p33, List.forall_mem_cons.mpr ⟨lw_p34, List.forall_mem_cons.mpr ⟨lw_p35, List.forall_mem_cons.mpr ⟨lw_p36, List.forall_mem_cons.mpr ⟨lw_p37, List.forall_mem_cons.mpr ⟨lw_p38, List.forall_mem_cons.mpr ⟨lw_p39, List.forall_mem_cons.mpr ⟨lw_p40, List.forall_mem_cons.mpr ⟨lw_p41, List.forall_mem_cons.mpr ⟨lw_p42, List.forall_mem_cons.mpr ⟨lw_p43, fun _ h => absurd h List.not_mem_nil⟩⟩⟩⟩⟩⟩⟩⟩⟩⟩⟩⟩
def lw_privs : List (MethodName × Nat) := lw_privs_1 ++ (lw_privs_2 ++ (lw_privs_3))
def lw_tbl : List Cond := k2_sels lw_privs ++ tables_1
theorem lw_privs_ok : ∀ q ∈ lw_privs, lw_okq q := by
  show ∀ q ∈ lw_privs_1 ++ (lw_privs_2 ++ (lw_privs_3)), lw_okq q
  exact List.forall_mem_append.mpr ⟨lw_r1, List.forall_mem_append.mpr ⟨lw_r2, lw_r3⟩⟩
end
section
/-! ===== BEGIN words of one list among another's, by their places ===== -/
theorem goodIn_r {big : List Cond} (ws : List Cond) (ps : List Nat) (hp : ws = ps.filterMap (fun i => big[i]?)) (h : ws.all goodWord = true) : GoodIn big ws := by
  intro w hw
  have h1 := List.all_eq_true.mp h w hw
  rw [hp] at hw
  obtain ⟨i, -, hi⟩ := List.mem_filterMap.mp hw
  have hm : w ∈ big := by first | exact List.mem_of_getElem? hi | exact List.getElem?_mem hi
  exact ⟨hm, good_of_word h1⟩
theorem goodIn_app {big a b : List Cond} (ha : GoodIn big a) (hb : GoodIn big b) : GoodIn big (a ++ b) := fun w h => (List.mem_append.mp h).elim (ha w) (hb w)
theorem goodIn_ca {big a b : List Cond} {c : Cond} (ha : GoodIn big (c :: a)) (hb : GoodIn big b) : GoodIn big (c :: (a ++ b)) := fun w h => (List.mem_cons.mp h).elim (fun e => ha w (List.mem_cons.mpr (Or.inl e))) (fun h => (List.mem_append.mp h).elim (fun h => ha w (List.mem_cons.mpr (Or.inr h))) (hb w))
theorem goodIn_sub {big ws : List Cond} (hm : ∀ w ∈ ws, w ∈ big) (h : ws.all goodWord = true) : GoodIn big ws := fun w hw => ⟨hm w hw, good_of_word (List.all_eq_true.mp h w hw)⟩
/-! ===== END ===== -/

/-! ===== BEGIN printed: names, fields, word lists, decode rows ===== -/
def RX0 : String := "StickRests$Directions"
def TX0 : u_T := fun k => match k with
  | 0 => ("StickRests$Directions", "byRank", "[I", true)
  | 1 => ("StickRests$Directions", "samplesIn", "[I", true)
  | 2 => ("StickRests$Directions", "longest", "[I", true)
  | 3 => ("StickRests$Directions", "unlike", "I", false)
  | 4 => ("StickRests$Directions", "latest", "I", false)
  | _ => ("StickRests$Directions", "run", "I", false)
def tyX0 : Nat → FieldType := fun k => match k with
  | 0 => .array .int
  | 1 => .array .int
  | 2 => .array .int
  | 3 => .int
  | 4 => .int
  | _ => .int
abbrev wsX00 : List Cond := u_ws RX0 TX0 6
theorem nmX0 : ∀ a, a < 6 → ∀ b, b < 6 → a ≠ b → (TX0 a).2.1 ≠ (TX0 b).2.1 := by decide +kernel
theorem tyX0_ok : ∀ k, k < 6 → parseFieldDescriptor (TX0 k).2.2.1 = some (tyX0 k) := by decide +kernel
abbrev cX0_init : ByteArray := prog_2_method_1_code
def yX0_init : MethodName := ⟨RX0, "<init>", "()V"⟩
abbrev cX0_becomeLike : ByteArray := prog_2_method_2_code
def yX0_becomeLike : MethodName := ⟨RX0, "becomeLike", "(LStickRests$Directions;)V"⟩
abbrev cX0_note : ByteArray := prog_2_method_3_code
def yX0_note : MethodName := ⟨RX0, "note", "(II)V"⟩
abbrev cX0_about : ByteArray := prog_2_method_4_code
def yX0_about : MethodName := ⟨RX0, "about", "(II)I"⟩
def RX1 : String := "StickRests$History"
def TX1 : u_T := fun k => match k with
  | 0 => ("StickRests$History", "states", "[LStickRests$Stick;", true)
  | 1 => ("StickRests$History", "oldest", "I", false)
  | _ => ("StickRests$History", "size", "I", false)
def tyX1 : Nat → FieldType := fun k => match k with
  | 0 => .array (.object "StickRests$Stick")
  | 1 => .int
  | _ => .int
abbrev wsX10 : List Cond := u_ws RX1 TX1 3
theorem nmX1 : ∀ a, a < 3 → ∀ b, b < 3 → a ≠ b → (TX1 a).2.1 ≠ (TX1 b).2.1 := by decide +kernel
theorem tyX1_ok : ∀ k, k < 3 → parseFieldDescriptor (TX1 k).2.2.1 = some (tyX1 k) := by decide +kernel
abbrev cX1_init : ByteArray := prog_3_method_1_code
def yX1_init : MethodName := ⟨RX1, "<init>", "()V"⟩
abbrev cX1_placeOf : ByteArray := prog_3_method_2_code
def yX1_placeOf : MethodName := ⟨RX1, "placeOf", "(I)I"⟩
abbrev cX1_keep : ByteArray := prog_3_method_3_code
def yX1_keep : MethodName := ⟨RX1, "keep", "(LStickRests$Stick;)V"⟩
abbrev cX1_takeBack : ByteArray := prog_3_method_4_code
def yX1_takeBack : MethodName := ⟨RX1, "takeBack", "(LStickRests$Stick;)I"⟩
def RX2 : String := "StickRests$Pad"
def TX2 : u_T := fun k => match k with
  | 0 => ("StickRests$Pad", "text", "[C", true)
  | 1 => ("StickRests$Pad", "length", "I", false)
  | 2 => ("StickRests$Pad", "place", "I", false)
  | 3 => ("StickRests$Pad", "kind", "C", false)
  | 4 => ("StickRests$Pad", "first", "I", false)
  | 5 => ("StickRests$Pad", "second", "I", false)
  | _ => ("StickRests$Pad", "times", "I", false)
def tyX2 : Nat → FieldType := fun k => match k with
  | 0 => .array .char
  | 1 => .int
  | 2 => .int
  | 3 => .char
  | 4 => .int
  | 5 => .int
  | _ => .int
abbrev wsX20 : List Cond := u_ws RX2 TX2 7
theorem nmX2 : ∀ a, a < 7 → ∀ b, b < 7 → a ≠ b → (TX2 a).2.1 ≠ (TX2 b).2.1 := by decide +kernel
theorem tyX2_ok : ∀ k, k < 7 → parseFieldDescriptor (TX2 k).2.2.1 = some (tyX2 k) := by decide +kernel
abbrev cX2_init : ByteArray := prog_4_method_1_code
def yX2_init : MethodName := ⟨RX2, "<init>", "()V"⟩
abbrev cX2_append : ByteArray := prog_4_method_2_code
def yX2_append : MethodName := ⟨RX2, "append", "(J)I"⟩
abbrev cX2_charactersIn : ByteArray := prog_4_method_3_code
def yX2_charactersIn : MethodName := ⟨RX2, "charactersIn", "(J)I"⟩
abbrev cX2_empty : ByteArray := prog_4_method_4_code
def yX2_empty : MethodName := ⟨RX2, "empty", "()I"⟩
abbrev cX2_firstFault : ByteArray := prog_4_method_5_code
def yX2_firstFault : MethodName := ⟨RX2, "firstFault", "()I"⟩
abbrev cX2_goToStart : ByteArray := prog_4_method_6_code
def yX2_goToStart : MethodName := ⟨RX2, "goToStart", "()V"⟩
abbrev cX2_skip : ByteArray := prog_4_method_7_code
def yX2_skip : MethodName := ⟨RX2, "skip", "(C)Z"⟩
abbrev cX2_next : ByteArray := prog_4_method_8_code
def yX2_next : MethodName := ⟨RX2, "next", "()C"⟩
abbrev cX2_readOrder : ByteArray := prog_4_method_9_code
def yX2_readOrder : MethodName := ⟨RX2, "readOrder", "()Z"⟩
abbrev cX2_readSamples : ByteArray := prog_4_method_10_code
def yX2_readSamples : MethodName := ⟨RX2, "readSamples", "()Z"⟩
abbrev cX2_readNumber : ByteArray := prog_4_method_11_code
def yX2_readNumber : MethodName := ⟨RX2, "readNumber", "()I"⟩
abbrev cX2_readDigit : ByteArray := prog_4_method_12_code
def yX2_readDigit : MethodName := ⟨RX2, "readDigit", "()I"⟩
def RX3 : String := "StickRests$Stick"
def TX3 : u_T := fun k => match k with
  | 0 => ("StickRests$Stick", "settings", "[I", true)
  | 1 => ("StickRests$Stick", "directions", "LStickRests$Directions;", true)
  | 2 => ("StickRests$Stick", "restX", "I", false)
  | 3 => ("StickRests$Stick", "restY", "I", false)
  | 4 => ("StickRests$Stick", "zone", "I", false)
  | 5 => ("StickRests$Stick", "tellX", "I", false)
  | 6 => ("StickRests$Stick", "tellY", "I", false)
  | 7 => ("StickRests$Stick", "latestX", "I", false)
  | 8 => ("StickRests$Stick", "latestY", "I", false)
  | 9 => ("StickRests$Stick", "still", "I", false)
  | 10 => ("StickRests$Stick", "shaking", "I", false)
  | 11 => ("StickRests$Stick", "samples", "I", false)
  | 12 => ("StickRests$Stick", "letGo", "I", false)
  | 13 => ("StickRests$Stick", "drifted", "I", false)
  | 14 => ("StickRests$Stick", "down", "I", false)
  | 15 => ("StickRests$Stick", "tellingSamples", "I", false)
  | _ => ("StickRests$Stick", "shakenInZone", "I", false)
def tyX3 : Nat → FieldType := fun k => match k with
  | 0 => .array .int
  | 1 => .object "StickRests$Directions"
  | 2 => .int
  | 3 => .int
  | 4 => .int
  | 5 => .int
  | 6 => .int
  | 7 => .int
  | 8 => .int
  | 9 => .int
  | 10 => .int
  | 11 => .int
  | 12 => .int
  | 13 => .int
  | 14 => .int
  | 15 => .int
  | _ => .int
abbrev wsX30 : List Cond := u_ws RX3 TX3 17
theorem nmX3 : ∀ a, a < 17 → ∀ b, b < 17 → a ≠ b → (TX3 a).2.1 ≠ (TX3 b).2.1 := by decide +kernel
theorem tyX3_ok : ∀ k, k < 17 → parseFieldDescriptor (TX3 k).2.2.1 = some (tyX3 k) := by decide +kernel
abbrev cX3_init : ByteArray := prog_5_method_1_code
def yX3_init : MethodName := ⟨RX3, "<init>", "()V"⟩
abbrev cX3_becomeLike : ByteArray := prog_5_method_2_code
def yX3_becomeLike : MethodName := ⟨RX3, "becomeLike", "(LStickRests$Stick;)V"⟩
abbrev cX3_changeSetting : ByteArray := prog_5_method_3_code
def yX3_changeSetting : MethodName := ⟨RX3, "changeSetting", "(II)I"⟩
abbrev cX3_toMiddle : ByteArray := prog_5_method_4_code
def yX3_toMiddle : MethodName := ⟨RX3, "toMiddle", "()I"⟩
abbrev cX3_refusalOfPress : ByteArray := prog_5_method_5_code
def yX3_refusalOfPress : MethodName := ⟨RX3, "refusalOfPress", "(I)I"⟩
abbrev cX3_refusalOfLetUp : ByteArray := prog_5_method_6_code
def yX3_refusalOfLetUp : MethodName := ⟨RX3, "refusalOfLetUp", "(I)I"⟩
abbrev cX3_isButton : ByteArray := prog_5_method_7_code
def yX3_isButton : MethodName := ⟨RX3, "isButton", "(I)Z"⟩
abbrev cX3_isDown : ByteArray := prog_5_method_8_code
def yX3_isDown : MethodName := ⟨RX3, "isDown", "(I)Z"⟩
abbrev cX3_pushDown : ByteArray := prog_5_method_9_code
def yX3_pushDown : MethodName := ⟨RX3, "pushDown", "(I)I"⟩
abbrev cX3_release : ByteArray := prog_5_method_10_code
def yX3_release : MethodName := ⟨RX3, "release", "(I)I"⟩
abbrev cX3_refusalOfSamples : ByteArray := prog_5_method_11_code
def yX3_refusalOfSamples : MethodName := ⟨RX3, "refusalOfSamples", "(III)I"⟩
abbrev cX3_restPlaceX : ByteArray := prog_5_method_12_code
def yX3_restPlaceX : MethodName := ⟨RX3, "restPlaceX", "()I"⟩
abbrev cX3_restPlaceY : ByteArray := prog_5_method_13_code
def yX3_restPlaceY : MethodName := ⟨RX3, "restPlaceY", "()I"⟩
abbrev cX3_isOffByNothing : ByteArray := prog_5_method_14_code
def yX3_isOffByNothing : MethodName := ⟨RX3, "isOffByNothing", "(II)Z"⟩
abbrev cX3_farthestOff : ByteArray := prog_5_method_15_code
def yX3_farthestOff : MethodName := ⟨RX3, "farthestOff", "(II)I"⟩
abbrev cX3_stillWith : ByteArray := prog_5_method_16_code
def yX3_stillWith : MethodName := ⟨RX3, "stillWith", "(II)I"⟩
abbrev cX3_wouldDrift : ByteArray := prog_5_method_17_code
def yX3_wouldDrift : MethodName := ⟨RX3, "wouldDrift", "(II)Z"⟩
abbrev cX3_tellingAt : ByteArray := prog_5_method_18_code
def yX3_tellingAt : MethodName := ⟨RX3, "tellingAt", "(II)I"⟩
abbrev cX3_leanOf : ByteArray := prog_5_method_19_code
def yX3_leanOf : MethodName := ⟨RX3, "leanOf", "(I)I"⟩
abbrev cX3_telling : ByteArray := prog_5_method_20_code
def yX3_telling : MethodName := ⟨RX3, "telling", "()I"⟩
abbrev cX3_tellsSomething : ByteArray := prog_5_method_21_code
def yX3_tellsSomething : MethodName := ⟨RX3, "tellsSomething", "()Z"⟩
abbrev cX3_take : ByteArray := prog_5_method_22_code
def yX3_take : MethodName := ⟨RX3, "take", "(II)V"⟩
abbrev cX3_tell : ByteArray := prog_5_method_23_code
def yX3_tell : MethodName := ⟨RX3, "tell", "(I)V"⟩
abbrev cX3_comeToRest : ByteArray := prog_5_method_24_code
def yX3_comeToRest : MethodName := ⟨RX3, "comeToRest", "(II)V"⟩
abbrev cX3_fitZone : ByteArray := prog_5_method_25_code
def yX3_fitZone : MethodName := ⟨RX3, "fitZone", "(I)V"⟩
abbrev cX3_driftTo : ByteArray := prog_5_method_26_code
def yX3_driftTo : MethodName := ⟨RX3, "driftTo", "(II)V"⟩
abbrev cX3_aboutX : ByteArray := prog_5_method_27_code
def yX3_aboutX : MethodName := ⟨RX3, "aboutX", "(I)I"⟩
abbrev cX3_aboutY : ByteArray := prog_5_method_28_code
def yX3_aboutY : MethodName := ⟨RX3, "aboutY", "(I)I"⟩
abbrev cX3_about : ByteArray := prog_5_method_29_code
def yX3_about : MethodName := ⟨RX3, "about", "(IIII)I"⟩
abbrev cX3_number : ByteArray := prog_5_method_30_code
def yX3_number : MethodName := ⟨RX3, "number", "(I)I"⟩
def RX4 : String := "StickRests"
def TX4 : u_T := fun k => match k with
  | 0 => ("StickRests", "stick", "LStickRests$Stick;", true)
  | 1 => ("StickRests", "trial", "LStickRests$Stick;", true)
  | 2 => ("StickRests", "pad", "LStickRests$Pad;", true)
  | 3 => ("StickRests", "history", "LStickRests$History;", true)
  | _ => ("StickRests", "slots", "[LStickRests$Stick;", true)
def tyX4 : Nat → FieldType := fun k => match k with
  | 0 => .object "StickRests$Stick"
  | 1 => .object "StickRests$Stick"
  | 2 => .object "StickRests$Pad"
  | 3 => .object "StickRests$History"
  | _ => .array (.object "StickRests$Stick")
abbrev wsX40 : List Cond := u_ws RX4 TX4 5
theorem nmX4 : ∀ a, a < 5 → ∀ b, b < 5 → a ≠ b → (TX4 a).2.1 ≠ (TX4 b).2.1 := by decide +kernel
theorem tyX4_ok : ∀ k, k < 5 → parseFieldDescriptor (TX4 k).2.2.1 = some (tyX4 k) := by decide +kernel
abbrev cX4_init : ByteArray := prog_1_method_1_code
def yX4_init : MethodName := ⟨RX4, "<init>", "()V"⟩
abbrev cX4_set : ByteArray := prog_1_method_2_code
def yX4_set : MethodName := ⟨RX4, "set", "(II)I"⟩
abbrev cX4_sample : ByteArray := prog_1_method_3_code
def yX4_sample : MethodName := ⟨RX4, "sample", "(II)I"⟩
abbrev cX4_hold : ByteArray := prog_1_method_4_code
def yX4_hold : MethodName := ⟨RX4, "hold", "(III)I"⟩
abbrev cX4_takeAlike : ByteArray := prog_1_method_5_code
def yX4_takeAlike : MethodName := ⟨RX4, "takeAlike", "(III)I"⟩
abbrev cX4_press : ByteArray := prog_1_method_6_code
def yX4_press : MethodName := ⟨RX4, "press", "(I)I"⟩
abbrev cX4_letUp : ByteArray := prog_1_method_7_code
def yX4_letUp : MethodName := ⟨RX4, "letUp", "(I)I"⟩
abbrev cX4_reset : ByteArray := prog_1_method_8_code
def yX4_reset : MethodName := ⟨RX4, "reset", "()I"⟩
abbrev cX4_of : ByteArray := prog_1_method_9_code
def yX4_of : MethodName := ⟨RX4, "of", "(II)I"⟩
abbrev cX4_direction : ByteArray := prog_1_method_10_code
def yX4_direction : MethodName := ⟨RX4, "direction", "(II)I"⟩
abbrev cX4_count : ByteArray := prog_1_method_11_code
def yX4_count : MethodName := ⟨RX4, "count", "(I)I"⟩
abbrev cX4_wouldTell : ByteArray := prog_1_method_12_code
def yX4_wouldTell : MethodName := ⟨RX4, "wouldTell", "(II)I"⟩
abbrev cX4_learnedIn : ByteArray := prog_1_method_13_code
def yX4_learnedIn : MethodName := ⟨RX4, "learnedIn", "(II)I"⟩
abbrev cX4_edge : ByteArray := prog_1_method_14_code
def yX4_edge : MethodName := ⟨RX4, "edge", "(II)I"⟩
abbrev cX4_driftsIn : ByteArray := prog_1_method_15_code
def yX4_driftsIn : MethodName := ⟨RX4, "driftsIn", "(II)I"⟩
abbrev cX4_put : ByteArray := prog_1_method_16_code
def yX4_put : MethodName := ⟨RX4, "put", "(J)I"⟩
abbrev cX4_wipe : ByteArray := prog_1_method_17_code
def yX4_wipe : MethodName := ⟨RX4, "wipe", "()I"⟩
abbrev cX4_fault : ByteArray := prog_1_method_18_code
def yX4_fault : MethodName := ⟨RX4, "fault", "()I"⟩
abbrev cX4_carryOut : ByteArray := prog_1_method_19_code
def yX4_carryOut : MethodName := ⟨RX4, "carryOut", "()I"⟩
abbrev cX4_carryOutOrders : ByteArray := prog_1_method_20_code
def yX4_carryOutOrders : MethodName := ⟨RX4, "carryOutOrders", "()I"⟩
abbrev cX4_takeFromPad : ByteArray := prog_1_method_21_code
def yX4_takeFromPad : MethodName := ⟨RX4, "takeFromPad", "()I"⟩
abbrev cX4_moveButtonFromPad : ByteArray := prog_1_method_22_code
def yX4_moveButtonFromPad : MethodName := ⟨RX4, "moveButtonFromPad", "()I"⟩
abbrev cX4_undo : ByteArray := prog_1_method_23_code
def yX4_undo : MethodName := ⟨RX4, "undo", "()I"⟩
abbrev cX4_save : ByteArray := prog_1_method_24_code
def yX4_save : MethodName := ⟨RX4, "save", "(I)I"⟩
abbrev cX4_restore : ByteArray := prog_1_method_25_code
def yX4_restore : MethodName := ⟨RX4, "restore", "(I)I"⟩
abbrev cX4_isSample : ByteArray := prog_1_method_26_code
def yX4_isSample : MethodName := ⟨RX4, "isSample", "(II)Z"⟩
abbrev cX4_packed : ByteArray := prog_1_method_27_code
def yX4_packed : MethodName := ⟨RX4, "packed", "(II)I"⟩
abbrev cX4_quotient : ByteArray := prog_1_method_28_code
def yX4_quotient : MethodName := ⟨RX4, "quotient", "(II)I"⟩
def RX5 : String := "StickRestsModel"
def TX5 : u_T := fun k => match k with
  | 0 => ("StickRestsModel", "s", "[I", true)
  | 1 => ("StickRestsModel", "past", "[I", true)
  | 2 => ("StickRestsModel", "known", "I", false)
  | 3 => ("StickRestsModel", "slots", "[I", true)
  | 4 => ("StickRestsModel", "isSaved", "[Z", true)
  | 5 => ("StickRestsModel", "pad", "[I", true)
  | _ => ("StickRestsModel", "length", "I", false)
def tyX5 : Nat → FieldType := fun k => match k with
  | 0 => .array .int
  | 1 => .array .int
  | 2 => .int
  | 3 => .array .int
  | 4 => .array .boolean
  | 5 => .array .int
  | _ => .int
abbrev wsX50 : List Cond := u_ws RX5 TX5 7
theorem nmX5 : ∀ a, a < 7 → ∀ b, b < 7 → a ≠ b → (TX5 a).2.1 ≠ (TX5 b).2.1 := by decide +kernel
theorem tyX5_ok : ∀ k, k < 7 → parseFieldDescriptor (TX5 k).2.2.1 = some (tyX5 k) := by decide +kernel
abbrev cX5_init : ByteArray := prog_7_method_1_code
def yX5_init : MethodName := ⟨RX5, "<init>", "()V"⟩
abbrev cX5_in : ByteArray := prog_7_method_3_code
def yX5_in : MethodName := ⟨RX5, "in", "(III)Z"⟩
abbrev cX5_size : ByteArray := prog_7_method_4_code
def yX5_size : MethodName := ⟨RX5, "size", "(I)I"⟩
abbrev cX5_greater : ByteArray := prog_7_method_5_code
def yX5_greater : MethodName := ⟨RX5, "greater", "(II)I"⟩
abbrev cX5_areRight : ByteArray := prog_7_method_6_code
def yX5_areRight : MethodName := ⟨RX5, "areRight", "(II)Z"⟩
abbrev cX5_remembers : ByteArray := prog_7_method_7_code
def yX5_remembers : MethodName := ⟨RX5, "remembers", "()V"⟩
abbrev cX5_copies : ByteArray := prog_7_method_8_code
def yX5_copies : MethodName := ⟨RX5, "copies", "()V"⟩
abbrev cX5_off : ByteArray := prog_7_method_9_code
def yX5_off : MethodName := ⟨RX5, "off", "(III)I"⟩
abbrev cX5_far : ByteArray := prog_7_method_10_code
def yX5_far : MethodName := ⟨RX5, "far", "(III)I"⟩
abbrev cX5_isTelling : ByteArray := prog_7_method_11_code
def yX5_isTelling : MethodName := ⟨RX5, "isTelling", "(I)Z"⟩
abbrev cX5_learns : ByteArray := prog_7_method_12_code
def yX5_learns : MethodName := ⟨RX5, "learns", "(III)V"⟩
abbrev cX5_rests : ByteArray := prog_7_method_13_code
def yX5_rests : MethodName := ⟨RX5, "rests", "(III)V"⟩
abbrev cX5_axis : ByteArray := prog_7_method_14_code
def yX5_axis : MethodName := ⟨RX5, "axis", "(II)I"⟩
abbrev cX5_tells : ByteArray := prog_7_method_15_code
def yX5_tells : MethodName := ⟨RX5, "tells", "(III)V"⟩
abbrev cX5_sign : ByteArray := prog_7_method_16_code
def yX5_sign : MethodName := ⟨RX5, "sign", "(I)I"⟩
abbrev cX5_counts : ByteArray := prog_7_method_17_code
def yX5_counts : MethodName := ⟨RX5, "counts", "(I)V"⟩
abbrev cX5_samples : ByteArray := prog_7_method_18_code
def yX5_samples : MethodName := ⟨RX5, "samples", "(III)V"⟩
abbrev cX5_told : ByteArray := prog_7_method_19_code
def yX5_told : MethodName := ⟨RX5, "told", "(I)I"⟩
abbrev cX5_lowOf : ByteArray := prog_7_method_20_code
def yX5_lowOf : MethodName := ⟨RX5, "lowOf", "(I)I"⟩
abbrev cX5_highOf : ByteArray := prog_7_method_21_code
def yX5_highOf : MethodName := ⟨RX5, "highOf", "(I)I"⟩
abbrev cX5_set : ByteArray := prog_7_method_22_code
def yX5_set : MethodName := ⟨RX5, "set", "(II)I"⟩
abbrev cX5_whyNot : ByteArray := prog_7_method_23_code
def yX5_whyNot : MethodName := ⟨RX5, "whyNot", "(III)I"⟩
abbrev cX5_sample : ByteArray := prog_7_method_24_code
def yX5_sample : MethodName := ⟨RX5, "sample", "(II)I"⟩
abbrev cX5_hold : ByteArray := prog_7_method_25_code
def yX5_hold : MethodName := ⟨RX5, "hold", "(III)I"⟩
abbrev cX5_isDown : ByteArray := prog_7_method_26_code
def yX5_isDown : MethodName := ⟨RX5, "isDown", "(I)Z"⟩
abbrev cX5_whyNotPress : ByteArray := prog_7_method_27_code
def yX5_whyNotPress : MethodName := ⟨RX5, "whyNotPress", "(IZ)I"⟩
abbrev cX5_presses : ByteArray := prog_7_method_28_code
def yX5_presses : MethodName := ⟨RX5, "presses", "(I)I"⟩
abbrev cX5_letsUp : ByteArray := prog_7_method_29_code
def yX5_letsUp : MethodName := ⟨RX5, "letsUp", "(I)I"⟩
abbrev cX5_press : ByteArray := prog_7_method_30_code
def yX5_press : MethodName := ⟨RX5, "press", "(I)I"⟩
abbrev cX5_letUp : ByteArray := prog_7_method_31_code
def yX5_letUp : MethodName := ⟨RX5, "letUp", "(I)I"⟩
abbrev cX5_reset : ByteArray := prog_7_method_32_code
def yX5_reset : MethodName := ⟨RX5, "reset", "()I"⟩
abbrev cX5_of : ByteArray := prog_7_method_33_code
def yX5_of : MethodName := ⟨RX5, "of", "(II)I"⟩
abbrev cX5_direction : ByteArray := prog_7_method_34_code
def yX5_direction : MethodName := ⟨RX5, "direction", "(II)I"⟩
abbrev cX5_count : ByteArray := prog_7_method_35_code
def yX5_count : MethodName := ⟨RX5, "count", "(I)I"⟩
abbrev cX5_wouldTell : ByteArray := prog_7_method_36_code
def yX5_wouldTell : MethodName := ⟨RX5, "wouldTell", "(II)I"⟩
abbrev cX5_learnedIn : ByteArray := prog_7_method_37_code
def yX5_learnedIn : MethodName := ⟨RX5, "learnedIn", "(II)I"⟩
abbrev cX5_edge : ByteArray := prog_7_method_38_code
def yX5_edge : MethodName := ⟨RX5, "edge", "(II)I"⟩
abbrev cX5_driftsIn : ByteArray := prog_7_method_39_code
def yX5_driftsIn : MethodName := ⟨RX5, "driftsIn", "(II)I"⟩
abbrev cX5_put : ByteArray := prog_7_method_40_code
def yX5_put : MethodName := ⟨RX5, "put", "(J)I"⟩
abbrev cX5_wipe : ByteArray := prog_7_method_41_code
def yX5_wipe : MethodName := ⟨RX5, "wipe", "()I"⟩
abbrev cX5_signAt : ByteArray := prog_7_method_42_code
def yX5_signAt : MethodName := ⟨RX5, "signAt", "(I)I"⟩
abbrev cX5_digit : ByteArray := prog_7_method_43_code
def yX5_digit : MethodName := ⟨RX5, "digit", "(I)I"⟩
abbrev cX5_numberEnd : ByteArray := prog_7_method_44_code
def yX5_numberEnd : MethodName := ⟨RX5, "numberEnd", "(I)I"⟩
abbrev cX5_numberAt : ByteArray := prog_7_method_45_code
def yX5_numberAt : MethodName := ⟨RX5, "numberAt", "(I)I"⟩
abbrev cX5_behind : ByteArray := prog_7_method_46_code
def yX5_behind : MethodName := ⟨RX5, "behind", "(II)I"⟩
abbrev cX5_orderEnd : ByteArray := prog_7_method_47_code
def yX5_orderEnd : MethodName := ⟨RX5, "orderEnd", "(I)I"⟩
abbrev cX5_fault : ByteArray := prog_7_method_48_code
def yX5_fault : MethodName := ⟨RX5, "fault", "()I"⟩
abbrev cX5_carries : ByteArray := prog_7_method_49_code
def yX5_carries : MethodName := ⟨RX5, "carries", "(I)I"⟩
abbrev cX5_ordersAt : ByteArray := prog_7_method_50_code
def yX5_ordersAt : MethodName := ⟨RX5, "ordersAt", "(I)I"⟩
abbrev cX5_carryOut : ByteArray := prog_7_method_51_code
def yX5_carryOut : MethodName := ⟨RX5, "carryOut", "()I"⟩
abbrev cX5_undo : ByteArray := prog_7_method_52_code
def yX5_undo : MethodName := ⟨RX5, "undo", "()I"⟩
abbrev cX5_save : ByteArray := prog_7_method_53_code
def yX5_save : MethodName := ⟨RX5, "save", "(I)I"⟩
abbrev cX5_restore : ByteArray := prog_7_method_54_code
def yX5_restore : MethodName := ⟨RX5, "restore", "(I)I"⟩
def RJx8e188 : String := "java/lang/Cloneable"
def TJx8e188 : u_T := fun k => match k with
  | _ => ("", "", "", false)
def tyJx8e188 : Nat → FieldType := fun k => match k with
  | _ => .int
abbrev wsJx8e1880 : List Cond := u_ws RJx8e188 TJx8e188 0
theorem nmJx8e188 : ∀ a, a < 0 → ∀ b, b < 0 → a ≠ b → (TJx8e188 a).2.1 ≠ (TJx8e188 b).2.1 := by decide +kernel
theorem tyJx8e188_ok : ∀ k, k < 0 → parseFieldDescriptor (TJx8e188 k).2.2.1 = some (tyJx8e188 k) := by decide +kernel
def RJ6 : String := "java/lang/Integer"
def TJ6 : u_T := fun k => match k with
  | _ => ("", "", "", false)
def tyJ6 : Nat → FieldType := fun k => match k with
  | _ => .int
abbrev wsJ60 : List Cond := u_ws RJ6 TJ6 0
theorem nmJ6 : ∀ a, a < 0 → ∀ b, b < 0 → a ≠ b → (TJ6 a).2.1 ≠ (TJ6 b).2.1 := by decide +kernel
theorem tyJ6_ok : ∀ k, k < 0 → parseFieldDescriptor (TJ6 k).2.2.1 = some (tyJ6 k) := by decide +kernel
abbrev cJ6_compare_7cf53 : ByteArray := prog_9_method_40_code
def yJ6_compare_7cf53 : MethodName := ⟨RJ6, "compare", "(II)I"⟩
def RJ9 : String := "java/lang/Math"
def TJ9 : u_T := fun k => match k with
  | _ => ("", "", "", false)
def tyJ9 : Nat → FieldType := fun k => match k with
  | _ => .int
abbrev wsJ90 : List Cond := u_ws RJ9 TJ9 0
theorem nmJ9 : ∀ a, a < 0 → ∀ b, b < 0 → a ≠ b → (TJ9 a).2.1 ≠ (TJ9 b).2.1 := by decide +kernel
theorem tyJ9_ok : ∀ k, k < 0 → parseFieldDescriptor (TJ9 k).2.2.1 = some (tyJ9 k) := by decide +kernel
abbrev cJ9_floorMod_7cf53 : ByteArray := prog_10_method_50_code
def yJ9_floorMod_7cf53 : MethodName := ⟨RJ9, "floorMod", "(II)I"⟩
abbrev cJ9_abs_0f7a4 : ByteArray := prog_10_method_59_code
def yJ9_abs_0f7a4 : MethodName := ⟨RJ9, "abs", "(I)I"⟩
abbrev cJ9_max_7cf53 : ByteArray := prog_10_method_65_code
def yJ9_max_7cf53 : MethodName := ⟨RJ9, "max", "(II)I"⟩
abbrev cJ9_min_7cf53 : ByteArray := prog_10_method_69_code
def yJ9_min_7cf53 : MethodName := ⟨RJ9, "min", "(II)I"⟩
def RJ10 : String := "java/lang/System"
def TJ10 : u_T := fun k => match k with
  | _ => ("", "", "", false)
def tyJ10 : Nat → FieldType := fun k => match k with
  | _ => .int
abbrev wsJ100 : List Cond := u_ws RJ10 TJ10 0
theorem nmJ10 : ∀ a, a < 0 → ∀ b, b < 0 → a ≠ b → (TJ10 a).2.1 ≠ (TJ10 b).2.1 := by decide +kernel
theorem tyJ10_ok : ∀ k, k < 0 → parseFieldDescriptor (TJ10 k).2.2.1 = some (tyJ10 k) := by decide +kernel
def RL : String := "StickRestsLaw"
abbrev cL_law : ByteArray := code
def yL_law : MethodName := ⟨RL, "law", "([I)Z"⟩
def wsL_law_r1 : List Cond := [Cond.classLink RL 7 RX4, Cond.instantiable RX4 5, Cond.initialized RX4, Cond.classLink RL 10 RX5, Cond.instantiable RX5 7, Cond.initialized RX5, Cond.constantLong RL 69 (4294967295), Cond.methodLink RL 9 yX4_init, Cond.instanceMethod yX4_init, Cond.code yX4_init cX4_init 1 none, Cond.methodLink RX4 1 objectInit, Cond.instanceMethod objectInit, Cond.code objectInit ⟨#[0xb1]⟩ 1 none, Cond.classLink RX4 7 RX3, Cond.instantiable RX3 17, Cond.initialized RX3, Cond.fieldLink RX4 10 "StickRests" "stick" "LStickRests$Stick;", Cond.fieldLink RX4 16 "StickRests" "trial" "LStickRests$Stick;", Cond.classLink RX4 19 RX2, Cond.instantiable RX2 7, Cond.initialized RX2, Cond.fieldLink RX4 22 "StickRests" "pad" "LStickRests$Pad;", Cond.classLink RX4 26 RX1, Cond.instantiable RX1 3]
def wsL_law_r2 : List Cond := [Cond.initialized RX1, Cond.fieldLink RX4 29 "StickRests" "history" "LStickRests$History;", Cond.fieldLink RX4 33 "StickRests" "slots" "[LStickRests$Stick;", Cond.methodLink RX4 9 yX3_init, Cond.instanceMethod yX3_init, Cond.code yX3_init cX3_init 1 none, Cond.methodLink RX3 3 objectInit, Cond.methodLink RX3 13 ⟨"[I", "clone", "()Ljava/lang/Object;"⟩, Cond.sameMethod "[I" "java/lang/Object" "clone" "()Ljava/lang/Object;", Cond.native ⟨"java/lang/Object", "clone", "()Ljava/lang/Object;"⟩, Cond.instanceMethod ⟨"java/lang/Object", "clone", "()Ljava/lang/Object;"⟩, Cond.selects "[I" ⟨"[I", "clone", "()Ljava/lang/Object;"⟩ ⟨"java/lang/Object", "clone", "()Ljava/lang/Object;"⟩, Cond.classLink RX3 14 "[I", Cond.fieldLink RX3 18 "StickRests$Stick" "settings" "[I", Cond.classLink RX3 23 RX0, Cond.instantiable RX0 6, Cond.initialized RX0, Cond.fieldLink RX3 26 "StickRests$Stick" "directions" "LStickRests$Directions;", Cond.fieldLink RX3 30 "StickRests$Stick" "restX" "I", Cond.fieldLink RX3 34 "StickRests$Stick" "restY" "I", Cond.fieldLink RX3 37 "StickRests$Stick" "zone" "I", Cond.methodLink RX3 25 yX0_init, Cond.instanceMethod yX0_init, Cond.code yX0_init cX0_init 1 none]
def wsL_law_r3 : List Cond := [Cond.methodLink RX0 3 objectInit, Cond.arrayClass .int, Cond.fieldLink RX0 9 "StickRests$Directions" "byRank" "[I", Cond.fieldLink RX0 15 "StickRests$Directions" "samplesIn" "[I", Cond.fieldLink RX0 18 "StickRests$Directions" "longest" "[I", Cond.fieldLink RX0 21 "StickRests$Directions" "latest" "I", Cond.methodLink RX4 21 yX2_init, Cond.instanceMethod yX2_init, Cond.code yX2_init cX2_init 1 none, Cond.methodLink RX2 3 objectInit, Cond.arrayClass .char, Cond.fieldLink RX2 9 "StickRests$Pad" "text" "[C", Cond.methodLink RX4 28 yX1_init, Cond.instanceMethod yX1_init, Cond.code yX1_init cX1_init 1 none, Cond.methodLink RX1 3 objectInit, Cond.classLink RX1 9 RX3, Cond.fieldLink RX1 11 "StickRests$History" "states" "[LStickRests$Stick;", Cond.methodLink RL 12 yX5_init, Cond.instanceMethod yX5_init, Cond.code yX5_init cX5_init 1 none, Cond.methodLink RX5 1 objectInit, Cond.fieldLink RX5 7 "StickRestsModel" "s" "[I", Cond.fieldLink RX5 13 "StickRestsModel" "past" "[I"]
def wsL_law_r4 : List Cond := [Cond.fieldLink RX5 16 "StickRestsModel" "slots" "[I", Cond.arrayClass .boolean, Cond.fieldLink RX5 19 "StickRestsModel" "isSaved" "[Z", Cond.fieldLink RX5 23 "StickRestsModel" "pad" "[I", Cond.methodLink RL 13 yX4_set, Cond.instanceMethod yX4_set, Cond.selects RX4 yX4_set yX4_set, Cond.code yX4_set cX4_set 3 (some .int), Cond.fieldLink RX4 37 "StickRests" "LEAST" "[I", Cond.fieldLink RX4 41 "StickRests" "MOST" "[I", Cond.methodLink RX4 44 yX1_keep, Cond.instanceMethod yX1_keep, Cond.selects RX1 yX1_keep yX1_keep, Cond.code yX1_keep cX1_keep 4 none, Cond.fieldLink RX1 27 "StickRests$History" "size" "I", Cond.fieldLink RX1 17 "StickRests$History" "oldest" "I", Cond.methodLink RX1 30 yX1_placeOf, Cond.instanceMethod yX1_placeOf, Cond.selects RX1 yX1_placeOf yX1_placeOf, Cond.code yX1_placeOf cX1_placeOf 2 (some .int), Cond.methodLink RX1 21 yJ9_floorMod_7cf53, Cond.static yJ9_floorMod_7cf53, Cond.initialized RJ9, Cond.code yJ9_floorMod_7cf53 cJ9_floorMod_7cf53 3 (some .int)]
def wsL_law_r5 : List Cond := [Cond.methodLink RX1 34 yX3_init, Cond.methodLink RX1 35 yX3_becomeLike, Cond.instanceMethod yX3_becomeLike, Cond.selects RX3 yX3_becomeLike yX3_becomeLike, Cond.code yX3_becomeLike cX3_becomeLike 2 none, Cond.methodLink RX3 40 arraycopyName, Cond.native arraycopyName, Cond.static arraycopyName, Cond.initialized "java/lang/System", Cond.fieldLink RX3 50 "StickRests$Stick" "tellX" "I", Cond.fieldLink RX3 53 "StickRests$Stick" "tellY" "I", Cond.fieldLink RX3 56 "StickRests$Stick" "latestX" "I", Cond.fieldLink RX3 59 "StickRests$Stick" "latestY" "I", Cond.fieldLink RX3 62 "StickRests$Stick" "still" "I", Cond.fieldLink RX3 65 "StickRests$Stick" "shaking" "I", Cond.fieldLink RX3 68 "StickRests$Stick" "samples" "I", Cond.fieldLink RX3 71 "StickRests$Stick" "letGo" "I", Cond.fieldLink RX3 74 "StickRests$Stick" "drifted" "I", Cond.fieldLink RX3 77 "StickRests$Stick" "down" "I", Cond.fieldLink RX3 80 "StickRests$Stick" "tellingSamples" "I", Cond.fieldLink RX3 83 "StickRests$Stick" "shakenInZone" "I", Cond.methodLink RX3 46 yX0_becomeLike, Cond.instanceMethod yX0_becomeLike, Cond.selects RX0 yX0_becomeLike yX0_becomeLike]
def wsL_law_r6 : List Cond := [Cond.code yX0_becomeLike cX0_becomeLike 2 none, Cond.methodLink RX0 25 arraycopyName, Cond.fieldLink RX0 31 "StickRests$Directions" "unlike" "I", Cond.fieldLink RX0 34 "StickRests$Directions" "run" "I", Cond.methodLink RX4 48 yX3_changeSetting, Cond.instanceMethod yX3_changeSetting, Cond.selects RX3 yX3_changeSetting yX3_changeSetting, Cond.code yX3_changeSetting cX3_changeSetting 4 (some .int), Cond.methodLink RL 17 yX5_set, Cond.instanceMethod yX5_set, Cond.selects RX5 yX5_set yX5_set, Cond.code yX5_set cX5_set 4 (some .int), Cond.methodLink RX5 26 yX5_in, Cond.static yX5_in, Cond.code yX5_in cX5_in 3 (some .boolean), Cond.methodLink RX5 73 yX5_lowOf, Cond.static yX5_lowOf, Cond.code yX5_lowOf cX5_lowOf 1 (some .int), Cond.methodLink RX5 76 yX5_highOf, Cond.static yX5_highOf, Cond.code yX5_highOf cX5_highOf 1 (some .int), Cond.methodLink RX5 79 yX5_remembers, Cond.instanceMethod yX5_remembers, Cond.selects RX5 yX5_remembers yX5_remembers]
def wsL_law_r7 : List Cond := [Cond.code yX5_remembers cX5_remembers 2 none, Cond.fieldLink RX5 30 "StickRestsModel" "known" "I", Cond.methodLink RL 18 yX4_sample, Cond.instanceMethod yX4_sample, Cond.selects RX4 yX4_sample yX4_sample, Cond.code yX4_sample cX4_sample 3 (some .int), Cond.methodLink RX4 52 yX4_takeAlike, Cond.instanceMethod yX4_takeAlike, Cond.selects RX4 yX4_takeAlike yX4_takeAlike, Cond.code yX4_takeAlike cX4_takeAlike 6 (some .int), Cond.methodLink RX4 56 yX3_refusalOfSamples, Cond.instanceMethod yX3_refusalOfSamples, Cond.selects RX3 yX3_refusalOfSamples yX3_refusalOfSamples, Cond.code yX3_refusalOfSamples cX3_refusalOfSamples 4 (some .int), Cond.static yX4_isSample, Cond.code yX4_isSample cX4_isSample 2 (some .boolean), Cond.methodLink RX4 59 yX3_take, Cond.instanceMethod yX3_take, Cond.selects RX3 yX3_take yX3_take, Cond.code yX3_take cX3_take 6 none, Cond.methodLink RX3 135 yX3_tellingAt, Cond.instanceMethod yX3_tellingAt, Cond.selects RX3 yX3_tellingAt yX3_tellingAt, Cond.code yX3_tellingAt cX3_tellingAt 7 (some .int)]
def wsL_law_r8 : List Cond := [Cond.methodLink RX3 86 Lib.Math.abs.name, Cond.static Lib.Math.abs.name, Cond.initialized "java/lang/Math", Cond.code Lib.Math.abs.name Lib.Math.abs.code 1 (some .int), Cond.methodLink RX3 114 yX3_farthestOff, Cond.instanceMethod yX3_farthestOff, Cond.selects RX3 yX3_farthestOff yX3_farthestOff, Cond.code yX3_farthestOff cX3_farthestOff 3 (some .int), Cond.methodLink RX3 110 Lib.Math.max.name, Cond.static Lib.Math.max.name, Cond.code Lib.Math.max.name Lib.Math.max.code 2 (some .int), Cond.methodLink RX3 120 yX3_wouldDrift, Cond.instanceMethod yX3_wouldDrift, Cond.selects RX3 yX3_wouldDrift yX3_wouldDrift, Cond.code yX3_wouldDrift cX3_wouldDrift 4 (some .boolean), Cond.methodLink RX3 117 yX3_stillWith, Cond.instanceMethod yX3_stillWith, Cond.selects RX3 yX3_stillWith yX3_stillWith, Cond.code yX3_stillWith cX3_stillWith 4 (some .int), Cond.static yX4_packed, Cond.code yX4_packed cX4_packed 2 (some .int), Cond.methodLink RX3 103 yX3_restPlaceX, Cond.instanceMethod yX3_restPlaceX, Cond.selects RX3 yX3_restPlaceX yX3_restPlaceX]
def wsL_law_r9 : List Cond := [Cond.code yX3_restPlaceX cX3_restPlaceX 1 (some .int), Cond.methodLink RX3 126 yX3_leanOf, Cond.instanceMethod yX3_leanOf, Cond.selects RX3 yX3_leanOf yX3_leanOf, Cond.code yX3_leanOf cX3_leanOf 4 (some .int), Cond.methodLink RX3 132 Lib.Math.min.name, Cond.static Lib.Math.min.name, Cond.code Lib.Math.min.name Lib.Math.min.code 2 (some .int), Cond.static yX4_quotient, Cond.code yX4_quotient cX4_quotient 2 (some .int), Cond.methodLink RX3 107 yX3_restPlaceY, Cond.instanceMethod yX3_restPlaceY, Cond.selects RX3 yX3_restPlaceY yX3_restPlaceY, Cond.code yX3_restPlaceY cX3_restPlaceY 1 (some .int), Cond.methodLink RX3 138 yX3_comeToRest, Cond.instanceMethod yX3_comeToRest, Cond.selects RX3 yX3_comeToRest yX3_comeToRest, Cond.code yX3_comeToRest cX3_comeToRest 3 none, Cond.methodLink RX3 149 yX3_tellsSomething, Cond.instanceMethod yX3_tellsSomething, Cond.selects RX3 yX3_tellsSomething yX3_tellsSomething, Cond.code yX3_tellsSomething cX3_tellsSomething 1 (some .boolean), Cond.methodLink RX3 161 yX3_fitZone, Cond.instanceMethod yX3_fitZone]
def wsL_law_r10 : List Cond := [Cond.selects RX3 yX3_fitZone yX3_fitZone, Cond.code yX3_fitZone cX3_fitZone 2 none, Cond.methodLink RX3 142 yX3_driftTo, Cond.instanceMethod yX3_driftTo, Cond.selects RX3 yX3_driftTo yX3_driftTo, Cond.code yX3_driftTo cX3_driftTo 3 none, Cond.methodLink RX3 145 yX3_tell, Cond.instanceMethod yX3_tell, Cond.selects RX3 yX3_tell yX3_tell, Cond.code yX3_tell cX3_tell 2 none, Cond.methodLink RX3 153 yJ6_compare_7cf53, Cond.static yJ6_compare_7cf53, Cond.initialized RJ6, Cond.code yJ6_compare_7cf53 cJ6_compare_7cf53 2 (some .int), Cond.methodLink RX3 158 yX0_note, Cond.instanceMethod yX0_note, Cond.selects RX0 yX0_note yX0_note, Cond.code yX0_note cX0_note 4 none, Cond.methodLink RX0 37 Lib.Math.max.name, Cond.methodLink RX4 63 yX3_telling, Cond.instanceMethod yX3_telling, Cond.selects RX3 yX3_telling yX3_telling, Cond.code yX3_telling cX3_telling 1 (some .int), Cond.methodLink RL 21 yX5_sample]
def wsL_law_r11 : List Cond := [Cond.instanceMethod yX5_sample, Cond.selects RX5 yX5_sample yX5_sample, Cond.code yX5_sample cX5_sample 4 (some .int), Cond.methodLink RX5 86 yX5_whyNot, Cond.instanceMethod yX5_whyNot, Cond.selects RX5 yX5_whyNot yX5_whyNot, Cond.code yX5_whyNot cX5_whyNot 4 (some .int), Cond.methodLink RX5 82 yX5_areRight, Cond.static yX5_areRight, Cond.code yX5_areRight cX5_areRight 2 (some .boolean), Cond.methodLink RX5 89 yX5_samples, Cond.instanceMethod yX5_samples, Cond.selects RX5 yX5_samples yX5_samples, Cond.code yX5_samples cX5_samples 5 none, Cond.methodLink RX5 38 yX5_size, Cond.static yX5_size, Cond.code yX5_size cX5_size 1 (some .int), Cond.methodLink RX5 50 yX5_far, Cond.instanceMethod yX5_far, Cond.selects RX5 yX5_far yX5_far, Cond.code yX5_far cX5_far 4 (some .int), Cond.methodLink RX5 34 yX5_off, Cond.instanceMethod yX5_off, Cond.selects RX5 yX5_off yX5_off]
def wsL_law_r12 : List Cond := [Cond.code yX5_off cX5_off 4 (some .int), Cond.methodLink RX5 42 yX5_greater, Cond.static yX5_greater, Cond.code yX5_greater cX5_greater 2 (some .int), Cond.methodLink RX5 63 yX5_rests, Cond.instanceMethod yX5_rests, Cond.selects RX5 yX5_rests yX5_rests, Cond.code yX5_rests cX5_rests 6 none, Cond.methodLink RX5 46 yX5_isTelling, Cond.instanceMethod yX5_isTelling, Cond.selects RX5 yX5_isTelling yX5_isTelling, Cond.code yX5_isTelling cX5_isTelling 2 (some .boolean), Cond.methodLink RX5 53 yX5_learns, Cond.instanceMethod yX5_learns, Cond.selects RX5 yX5_learns yX5_learns, Cond.code yX5_learns cX5_learns 4 none, Cond.methodLink RX5 66 yX5_tells, Cond.instanceMethod yX5_tells, Cond.selects RX5 yX5_tells yX5_tells, Cond.code yX5_tells cX5_tells 9 none, Cond.methodLink RX5 57 yX5_axis, Cond.instanceMethod yX5_axis, Cond.selects RX5 yX5_axis yX5_axis, Cond.code yX5_axis cX5_axis 5 (some .int)]
def wsL_law_r13 : List Cond := [Cond.methodLink RX5 69 yX5_counts, Cond.instanceMethod yX5_counts, Cond.selects RX5 yX5_counts yX5_counts, Cond.code yX5_counts cX5_counts 6 none, Cond.methodLink RX5 60 yX5_sign, Cond.static yX5_sign, Cond.code yX5_sign cX5_sign 1 (some .int), Cond.methodLink RX5 92 yX5_told, Cond.instanceMethod yX5_told, Cond.selects RX5 yX5_told yX5_told, Cond.code yX5_told cX5_told 2 (some .int), Cond.methodLink RL 22 yX4_hold, Cond.instanceMethod yX4_hold, Cond.selects RX4 yX4_hold yX4_hold, Cond.code yX4_hold cX4_hold 4 (some .int), Cond.methodLink RL 26 yX5_hold, Cond.instanceMethod yX5_hold, Cond.selects RX5 yX5_hold yX5_hold, Cond.code yX5_hold cX5_hold 6 (some .int), Cond.methodLink RL 27 yX4_press, Cond.instanceMethod yX4_press, Cond.selects RX4 yX4_press yX4_press, Cond.code yX4_press cX4_press 3 (some .int), Cond.methodLink RX4 67 yX3_refusalOfPress]
def wsL_law_r14 : List Cond := [Cond.instanceMethod yX3_refusalOfPress, Cond.selects RX3 yX3_refusalOfPress yX3_refusalOfPress, Cond.code yX3_refusalOfPress cX3_refusalOfPress 2 (some .int), Cond.methodLink RX3 92 yX3_isButton, Cond.static yX3_isButton, Cond.code yX3_isButton cX3_isButton 1 (some .boolean), Cond.methodLink RX3 96 yX3_isDown, Cond.instanceMethod yX3_isDown, Cond.selects RX3 yX3_isDown yX3_isDown, Cond.code yX3_isDown cX3_isDown 2 (some .boolean), Cond.methodLink RX4 71 yX3_pushDown, Cond.instanceMethod yX3_pushDown, Cond.selects RX3 yX3_pushDown yX3_pushDown, Cond.code yX3_pushDown cX3_pushDown 2 (some .int), Cond.methodLink RL 31 yX5_press, Cond.instanceMethod yX5_press, Cond.selects RX5 yX5_press yX5_press, Cond.code yX5_press cX5_press 3 (some .int), Cond.methodLink RX5 98 yX5_whyNotPress, Cond.instanceMethod yX5_whyNotPress, Cond.selects RX5 yX5_whyNotPress yX5_whyNotPress, Cond.code yX5_whyNotPress cX5_whyNotPress 3 (some .int), Cond.methodLink RX5 95 yX5_isDown, Cond.instanceMethod yX5_isDown]
def wsL_law_r15 : List Cond := [Cond.selects RX5 yX5_isDown yX5_isDown, Cond.code yX5_isDown cX5_isDown 2 (some .boolean), Cond.methodLink RX5 102 yX5_presses, Cond.instanceMethod yX5_presses, Cond.selects RX5 yX5_presses yX5_presses, Cond.code yX5_presses cX5_presses 2 (some .int), Cond.methodLink RL 32 yX4_letUp, Cond.instanceMethod yX4_letUp, Cond.selects RX4 yX4_letUp yX4_letUp, Cond.code yX4_letUp cX4_letUp 3 (some .int), Cond.methodLink RX4 74 yX3_refusalOfLetUp, Cond.instanceMethod yX3_refusalOfLetUp, Cond.selects RX3 yX3_refusalOfLetUp yX3_refusalOfLetUp, Cond.code yX3_refusalOfLetUp cX3_refusalOfLetUp 2 (some .int), Cond.methodLink RX4 77 yX3_release, Cond.instanceMethod yX3_release, Cond.selects RX3 yX3_release yX3_release, Cond.code yX3_release cX3_release 2 (some .int), Cond.methodLink RL 35 yX5_letUp, Cond.instanceMethod yX5_letUp, Cond.selects RX5 yX5_letUp yX5_letUp, Cond.code yX5_letUp cX5_letUp 3 (some .int), Cond.methodLink RX5 105 yX5_letsUp, Cond.instanceMethod yX5_letsUp]
def wsL_law_r16 : List Cond := [Cond.selects RX5 yX5_letsUp yX5_letsUp, Cond.code yX5_letsUp cX5_letsUp 2 (some .int), Cond.methodLink RL 36 yX4_reset, Cond.instanceMethod yX4_reset, Cond.selects RX4 yX4_reset yX4_reset, Cond.code yX4_reset cX4_reset 1 (some .int), Cond.methodLink RX4 80 yX3_toMiddle, Cond.instanceMethod yX3_toMiddle, Cond.selects RX3 yX3_toMiddle yX3_toMiddle, Cond.code yX3_toMiddle cX3_toMiddle 2 (some .int), Cond.methodLink RL 40 yX5_reset, Cond.instanceMethod yX5_reset, Cond.selects RX5 yX5_reset yX5_reset, Cond.code yX5_reset cX5_reset 2 (some .int), Cond.methodLink RL 41 yX4_of, Cond.instanceMethod yX4_of, Cond.selects RX4 yX4_of yX4_of, Cond.code yX4_of cX4_of 3 (some .int), Cond.methodLink RX4 83 yX3_aboutX, Cond.instanceMethod yX3_aboutX, Cond.selects RX3 yX3_aboutX yX3_aboutX, Cond.code yX3_aboutX cX3_aboutX 2 (some .int), Cond.methodLink RX3 164 yX3_about, Cond.instanceMethod yX3_about]
def wsL_law_r17 : List Cond := [Cond.selects RX3 yX3_about yX3_about, Cond.code yX3_about cX3_about 5 (some .int), Cond.methodLink RX4 86 yX3_aboutY, Cond.instanceMethod yX3_aboutY, Cond.selects RX3 yX3_aboutY yX3_aboutY, Cond.code yX3_aboutY cX3_aboutY 2 (some .int), Cond.methodLink RL 44 yX5_of, Cond.instanceMethod yX5_of, Cond.selects RX5 yX5_of yX5_of, Cond.code yX5_of cX5_of 4 (some .int), Cond.methodLink RL 45 yX4_direction, Cond.instanceMethod yX4_direction, Cond.selects RX4 yX4_direction yX4_direction, Cond.code yX4_direction cX4_direction 3 (some .int), Cond.methodLink RX4 93 yX0_about, Cond.instanceMethod yX0_about, Cond.selects RX0 yX0_about yX0_about, Cond.code yX0_about cX0_about 4 (some .int), Cond.methodLink RL 48 yX5_direction, Cond.instanceMethod yX5_direction, Cond.selects RX5 yX5_direction yX5_direction, Cond.code yX5_direction cX5_direction 3 (some .int), Cond.methodLink RL 49 yX4_count, Cond.instanceMethod yX4_count]
def wsL_law_r18 : List Cond := [Cond.selects RX4 yX4_count yX4_count, Cond.code yX4_count cX4_count 2 (some .int), Cond.methodLink RX4 105 yX3_number, Cond.instanceMethod yX3_number, Cond.selects RX3 yX3_number yX3_number, Cond.code yX3_number cX3_number 2 (some .int), Cond.methodLink RL 52 yX5_count, Cond.instanceMethod yX5_count, Cond.selects RX5 yX5_count yX5_count, Cond.code yX5_count cX5_count 2 (some .int), Cond.fieldLink RX5 108 "StickRestsModel" "length" "I", Cond.methodLink RL 53 yX4_wouldTell, Cond.instanceMethod yX4_wouldTell, Cond.selects RX4 yX4_wouldTell yX4_wouldTell, Cond.code yX4_wouldTell cX4_wouldTell 3 (some .int), Cond.methodLink RX4 108 yX4_isSample, Cond.methodLink RX4 112 yX3_tellingAt, Cond.methodLink RL 56 yX5_wouldTell, Cond.instanceMethod yX5_wouldTell, Cond.selects RX5 yX5_wouldTell yX5_wouldTell, Cond.code yX5_wouldTell cX5_wouldTell 3 (some .int), Cond.methodLink RX5 111 yX5_copies, Cond.instanceMethod yX5_copies, Cond.selects RX5 yX5_copies yX5_copies]
def wsL_law_r19 : List Cond := [Cond.code yX5_copies cX5_copies 2 none, Cond.methodLink RL 57 yX4_learnedIn, Cond.instanceMethod yX4_learnedIn, Cond.selects RX4 yX4_learnedIn yX4_learnedIn, Cond.code yX4_learnedIn cX4_learnedIn 4 (some .int), Cond.methodLink RX4 115 yX3_becomeLike, Cond.methodLink RX4 118 yX3_isOffByNothing, Cond.instanceMethod yX3_isOffByNothing, Cond.selects RX3 yX3_isOffByNothing yX3_isOffByNothing, Cond.code yX3_isOffByNothing cX3_isOffByNothing 3 (some .boolean), Cond.methodLink RL 60 yX5_learnedIn, Cond.instanceMethod yX5_learnedIn, Cond.selects RX5 yX5_learnedIn yX5_learnedIn, Cond.code yX5_learnedIn cX5_learnedIn 4 (some .int), Cond.methodLink RL 61 yX4_edge, Cond.instanceMethod yX4_edge, Cond.selects RX4 yX4_edge yX4_edge, Cond.code yX4_edge cX4_edge 7 (some .int), Cond.methodLink RX4 121 yX3_restPlaceX, Cond.methodLink RX4 124 yX3_restPlaceY, Cond.methodLink RX4 127 yX4_packed, Cond.methodLink RL 64 yX5_edge, Cond.instanceMethod yX5_edge, Cond.selects RX5 yX5_edge yX5_edge]
def wsL_law_r20 : List Cond := [Cond.code yX5_edge cX5_edge 9 (some .int), Cond.methodLink RL 65 yX4_driftsIn, Cond.instanceMethod yX4_driftsIn, Cond.selects RX4 yX4_driftsIn yX4_driftsIn, Cond.code yX4_driftsIn cX4_driftsIn 4 (some .int), Cond.methodLink RX4 130 yX3_wouldDrift, Cond.methodLink RL 68 yX5_driftsIn, Cond.instanceMethod yX5_driftsIn, Cond.selects RX5 yX5_driftsIn yX5_driftsIn, Cond.code yX5_driftsIn cX5_driftsIn 4 (some .int), Cond.methodLink RL 71 yX4_put, Cond.instanceMethod yX4_put, Cond.selects RX4 yX4_put yX4_put, Cond.code yX4_put cX4_put 3 (some .int), Cond.methodLink RX4 133 yX2_append, Cond.instanceMethod yX2_append, Cond.selects RX2 yX2_append yX2_append, Cond.code yX2_append cX2_append 5 (some .int), Cond.fieldLink RX2 19 "StickRests$Pad" "length" "I", Cond.constantLong RX2 23 (255), Cond.methodLink RX2 15 yX2_charactersIn, Cond.static yX2_charactersIn, Cond.code yX2_charactersIn cX2_charactersIn 7 (some .int), Cond.constantLong RX2 25 (33)]
def wsL_law_r21 : List Cond := [Cond.constantLong RX2 27 (126), Cond.methodLink RL 75 yX5_put, Cond.instanceMethod yX5_put, Cond.selects RX5 yX5_put yX5_put, Cond.code yX5_put cX5_put 8 (some .int), Cond.constantLong RX5 114 (255), Cond.methodLink RL 76 yX4_wipe, Cond.instanceMethod yX4_wipe, Cond.selects RX4 yX4_wipe yX4_wipe, Cond.code yX4_wipe cX4_wipe 1 (some .int), Cond.methodLink RX4 137 yX2_empty, Cond.instanceMethod yX2_empty, Cond.selects RX2 yX2_empty yX2_empty, Cond.code yX2_empty cX2_empty 2 (some .int), Cond.methodLink RL 79 yX5_wipe, Cond.instanceMethod yX5_wipe, Cond.selects RX5 yX5_wipe yX5_wipe, Cond.code yX5_wipe cX5_wipe 2 (some .int), Cond.methodLink RL 80 yX4_fault, Cond.instanceMethod yX4_fault, Cond.selects RX4 yX4_fault yX4_fault, Cond.code yX4_fault cX4_fault 1 (some .int), Cond.methodLink RX4 140 yX2_firstFault, Cond.instanceMethod yX2_firstFault]
def wsL_law_r22 : List Cond := [Cond.selects RX2 yX2_firstFault yX2_firstFault, Cond.code yX2_firstFault cX2_firstFault 2 (some .int), Cond.fieldLink RX2 36 "StickRests$Pad" "place" "I", Cond.methodLink RX2 29 yX2_goToStart, Cond.instanceMethod yX2_goToStart, Cond.selects RX2 yX2_goToStart yX2_goToStart, Cond.code yX2_goToStart cX2_goToStart 1 none, Cond.methodLink RX2 32 yX2_readOrder, Cond.instanceMethod yX2_readOrder, Cond.selects RX2 yX2_readOrder yX2_readOrder, Cond.code yX2_readOrder cX2_readOrder 1 (some .boolean), Cond.fieldLink RX2 47 "StickRests$Pad" "kind" "C", Cond.fieldLink RX2 51 "StickRests$Pad" "times" "I", Cond.fieldLink RX2 61 "StickRests$Pad" "first" "I", Cond.methodLink RX2 43 yX2_next, Cond.instanceMethod yX2_next, Cond.selects RX2 yX2_next yX2_next, Cond.code yX2_next cX2_next 1 (some .char), Cond.methodLink RX2 54 yX2_readSamples, Cond.instanceMethod yX2_readSamples, Cond.selects RX2 yX2_readSamples yX2_readSamples, Cond.code yX2_readSamples cX2_readSamples 1 (some .boolean), Cond.fieldLink RX2 67 "StickRests$Pad" "second" "I", Cond.methodLink RX2 64 yX2_readNumber]
def wsL_law_r23 : List Cond := [Cond.instanceMethod yX2_readNumber, Cond.selects RX2 yX2_readNumber yX2_readNumber, Cond.code yX2_readNumber cX2_readNumber 4 (some .int), Cond.methodLink RX2 57 yX2_readDigit, Cond.instanceMethod yX2_readDigit, Cond.selects RX2 yX2_readDigit yX2_readDigit, Cond.code yX2_readDigit cX2_readDigit 2 (some .int), Cond.methodLink RX2 39 yX2_skip, Cond.instanceMethod yX2_skip, Cond.selects RX2 yX2_skip yX2_skip, Cond.code yX2_skip cX2_skip 2 (some .boolean), Cond.methodLink RL 83 yX5_fault, Cond.instanceMethod yX5_fault, Cond.selects RX5 yX5_fault yX5_fault, Cond.code yX5_fault cX5_fault 4 (some .int), Cond.methodLink RX5 128 yX5_orderEnd, Cond.instanceMethod yX5_orderEnd, Cond.selects RX5 yX5_orderEnd yX5_orderEnd, Cond.code yX5_orderEnd cX5_orderEnd 3 (some .int), Cond.methodLink RX5 116 yX5_signAt, Cond.instanceMethod yX5_signAt, Cond.selects RX5 yX5_signAt yX5_signAt, Cond.code yX5_signAt cX5_signAt 2 (some .int), Cond.methodLink RX5 122 yX5_numberEnd]
def wsL_law_r24 : List Cond := [Cond.instanceMethod yX5_numberEnd, Cond.selects RX5 yX5_numberEnd yX5_numberEnd, Cond.code yX5_numberEnd cX5_numberEnd 3 (some .int), Cond.methodLink RX5 119 yX5_digit, Cond.instanceMethod yX5_digit, Cond.selects RX5 yX5_digit yX5_digit, Cond.code yX5_digit cX5_digit 2 (some .int), Cond.methodLink RX5 125 yX5_behind, Cond.instanceMethod yX5_behind, Cond.selects RX5 yX5_behind yX5_behind, Cond.code yX5_behind cX5_behind 3 (some .int), Cond.methodLink RL 84 yX4_carryOut, Cond.instanceMethod yX4_carryOut, Cond.selects RX4 yX4_carryOut yX4_carryOut, Cond.code yX4_carryOut cX4_carryOut 2 (some .int), Cond.methodLink RX4 143 yX4_carryOutOrders, Cond.instanceMethod yX4_carryOutOrders, Cond.selects RX4 yX4_carryOutOrders yX4_carryOutOrders, Cond.code yX4_carryOutOrders cX4_carryOutOrders 4 (some .int), Cond.methodLink RX4 146 yX2_goToStart, Cond.methodLink RX4 149 yX2_readOrder, Cond.methodLink RX4 157 yX4_takeFromPad, Cond.instanceMethod yX4_takeFromPad, Cond.selects RX4 yX4_takeFromPad yX4_takeFromPad]
def wsL_law_r25 : List Cond := [Cond.code yX4_takeFromPad cX4_takeFromPad 2 (some .int), Cond.methodLink RX4 160 yX4_moveButtonFromPad, Cond.instanceMethod yX4_moveButtonFromPad, Cond.selects RX4 yX4_moveButtonFromPad yX4_moveButtonFromPad, Cond.code yX4_moveButtonFromPad cX4_moveButtonFromPad 4 (some .int), Cond.methodLink RX4 166 yX2_skip, Cond.methodLink RL 87 yX5_carryOut, Cond.instanceMethod yX5_carryOut, Cond.selects RX5 yX5_carryOut yX5_carryOut, Cond.code yX5_carryOut cX5_carryOut 5 (some .int), Cond.methodLink RX5 134 yX5_fault, Cond.methodLink RX5 138 yX5_ordersAt, Cond.instanceMethod yX5_ordersAt, Cond.selects RX5 yX5_ordersAt yX5_ordersAt, Cond.code yX5_ordersAt cX5_ordersAt 3 (some .int), Cond.methodLink RX5 131 yX5_numberAt, Cond.instanceMethod yX5_numberAt, Cond.selects RX5 yX5_numberAt yX5_numberAt, Cond.code yX5_numberAt cX5_numberAt 4 (some .int), Cond.methodLink RX5 141 yX5_carries, Cond.instanceMethod yX5_carries, Cond.selects RX5 yX5_carries yX5_carries, Cond.code yX5_carries cX5_carries 7 (some .int), Cond.methodLink RL 88 yX4_undo]
def wsL_law_r26 : List Cond := [Cond.instanceMethod yX4_undo, Cond.selects RX4 yX4_undo yX4_undo, Cond.code yX4_undo cX4_undo 1 (some .int), Cond.methodLink RX4 176 yX1_takeBack, Cond.instanceMethod yX1_takeBack, Cond.selects RX1 yX1_takeBack yX1_takeBack, Cond.code yX1_takeBack cX1_takeBack 4 (some .int), Cond.methodLink RL 91 yX5_undo, Cond.instanceMethod yX5_undo, Cond.selects RX5 yX5_undo yX5_undo, Cond.code yX5_undo cX5_undo 2 (some .int), Cond.methodLink RL 92 yX4_save, Cond.instanceMethod yX4_save, Cond.selects RX4 yX4_save yX4_save, Cond.code yX4_save cX4_save 3 (some .int), Cond.methodLink RL 95 yX5_save, Cond.instanceMethod yX5_save, Cond.selects RX5 yX5_save yX5_save, Cond.code yX5_save cX5_save 3 (some .int), Cond.methodLink RL 96 yX4_restore, Cond.instanceMethod yX4_restore, Cond.selects RX4 yX4_restore yX4_restore, Cond.code yX4_restore cX4_restore 3 (some .int), Cond.methodLink RL 99 yX5_restore]
def wsL_law_r27 : List Cond := [Cond.instanceMethod yX5_restore, Cond.selects RX5 yX5_restore yX5_restore, Cond.code yX5_restore cX5_restore 3 (some .int)]
def wsL_law : List Cond := (wsL_law_r1 ++ (wsL_law_r2 ++ (wsL_law_r3 ++ (wsL_law_r4 ++ (wsL_law_r5 ++ (wsL_law_r6 ++ (wsL_law_r7 ++ (wsL_law_r8 ++ (wsL_law_r9 ++ (wsL_law_r10 ++ (wsL_law_r11 ++ (wsL_law_r12 ++ (wsL_law_r13 ++ (wsL_law_r14 ++ (wsL_law_r15 ++ (wsL_law_r16 ++ (wsL_law_r17 ++ (wsL_law_r18 ++ (wsL_law_r19 ++ (wsL_law_r20 ++ (wsL_law_r21 ++ (wsL_law_r22 ++ (wsL_law_r23 ++ (wsL_law_r24 ++ (wsL_law_r25 ++ (wsL_law_r26 ++ wsL_law_r27)))))))))))))))))))))))))) ++ wsX40 ++ wsX50 ++ wsX30 ++ wsX20 ++ wsX10 ++ wsX00 ++ ([] : List Cond)
abbrev vwCl : List vw_C := [(RX0, TX0, 6), (RX1, TX1, 3), (RX2, TX2, 7), (RX3, TX3, 17), (RX4, TX4, 5), (RX5, TX5, 7)]
end
section
theorem mem_r {big : List Cond} (ws : List Cond) (ps : List Nat) (hp : ws = ps.filterMap (fun i => big[i]?)) : ∀ w ∈ ws, w ∈ big := by
  intro w hw
  rw [hp] at hw
  obtain ⟨i, -, hi⟩ := List.mem_filterMap.mp hw
  exact List.mem_of_getElem? hi
set_option maxRecDepth 20000 in
theorem lin_wsL_law_r1 : ∀ w ∈ wsL_law_r1, w ∈ lw_tbl := mem_r _ [54, 55, 45, 552, 553, 50, 784, 56, 57, 58, 59, 60, 61, 62, 63, 46, 211, 212, 158, 159, 48, 213, 192, 193] (by decide +kernel)
set_option maxRecDepth 20000 in
theorem lin_wsL_law_r2 : ∀ w ∈ wsL_law_r2, w ∈ lw_tbl := mem_r _ [49, 214, 215, 64, 65, 66, 67, 70, 71, 72, 73, 74, 76, 104, 77, 78, 47, 105, 107, 108, 109, 79, 80, 81] (by decide +kernel)
set_option maxRecDepth 20000 in
theorem lin_wsL_law_r3 : ∀ w ∈ wsL_law_r3, w ∈ lw_tbl := mem_r _ [82, 103, 83, 84, 85, 88, 160, 161, 162, 163, 191, 164, 194, 195, 196, 197, 198, 200, 554, 555, 556, 557, 558, 559] (by decide +kernel)
set_option maxRecDepth 20000 in
theorem lin_wsL_law_r4 : ∀ w ∈ wsL_law_r4, w ∈ lw_tbl := mem_r _ [561, 580, 562, 563, 227, 228, 229, 230, 231, 233, 235, 236, 237, 238, 202, 201, 239, 241, 0, 242, 243, 244, 51, 245] (by decide +kernel)
set_option maxRecDepth 20000 in
theorem lin_wsL_law_r5 : ∀ w ∈ wsL_law_r5, w ∈ lw_tbl := mem_r _ [246, 247, 248, 249, 250, 251, 253, 252, 52, 110, 111, 112, 113, 114, 115, 116, 118, 119, 120, 121, 122, 254, 255, 256] (by decide +kernel)
set_option maxRecDepth 20000 in
theorem lin_wsL_law_r6 : ∀ w ∈ wsL_law_r6, w ∈ lw_tbl := mem_r _ [257, 258, 86, 89, 259, 260, 261, 262, 581, 582, 583, 584, 585, 586, 587, 588, 589, 590, 591, 592, 593, 594, 596, 19] (by decide +kernel)
set_option maxRecDepth 20000 in
theorem lin_wsL_law_r7 : ∀ w ∈ wsL_law_r7, w ∈ lw_tbl := mem_r _ [597, 560, 263, 264, 265, 266, 267, 269, 1, 270, 271, 272, 273, 274, 276, 277, 278, 279, 280, 281, 282, 283, 284, 285] (by decide +kernel)
set_option maxRecDepth 20000 in
theorem lin_wsL_law_r8 : ∀ w ∈ wsL_law_r8, w ∈ lw_tbl := mem_r _ [290, 291, 51, 292, 286, 288, 2, 289, 293, 294, 295, 296, 297, 298, 299, 300, 302, 3, 303, 305, 306, 307, 308, 309] (by decide +kernel)
set_option maxRecDepth 20000 in
theorem lin_wsL_law_r9 : ∀ w ∈ wsL_law_r9, w ∈ lw_tbl := mem_r _ [310, 311, 313, 4, 314, 318, 319, 320, 316, 317, 321, 322, 323, 324, 325, 327, 5, 328, 329, 331, 6, 332, 333, 335] (by decide +kernel)
set_option maxRecDepth 20000 in
theorem lin_wsL_law_r10 : ∀ w ∈ wsL_law_r10, w ∈ lw_tbl := mem_r _ [7, 336, 337, 339, 8, 340, 341, 343, 9, 344, 345, 346, 53, 347, 348, 349, 350, 351, 352, 353, 354, 355, 356, 598] (by decide +kernel)
set_option maxRecDepth 20000 in
theorem lin_wsL_law_r11 : ∀ w ∈ wsL_law_r11, w ∈ lw_tbl := mem_r _ [599, 600, 601, 602, 604, 20, 605, 606, 607, 608, 609, 611, 21, 612, 613, 614, 615, 616, 618, 22, 619, 620, 622, 23] (by decide +kernel)
set_option maxRecDepth 20000 in
theorem lin_wsL_law_r12 : ∀ w ∈ wsL_law_r12, w ∈ lw_tbl := mem_r _ [623, 624, 625, 626, 627, 629, 24, 630, 631, 633, 25, 634, 635, 637, 26, 638, 639, 641, 27, 642, 643, 645, 28, 646] (by decide +kernel)
set_option maxRecDepth 20000 in
theorem lin_wsL_law_r13 : ∀ w ∈ wsL_law_r13, w ∈ lw_tbl := mem_r _ [647, 649, 29, 650, 651, 652, 653, 654, 656, 30, 657, 357, 358, 359, 360, 658, 659, 660, 661, 361, 362, 363, 364, 365] (by decide +kernel)
set_option maxRecDepth 20000 in
theorem lin_wsL_law_r14 : ∀ w ∈ wsL_law_r14, w ∈ lw_tbl := mem_r _ [366, 367, 368, 369, 370, 371, 372, 374, 10, 375, 376, 377, 378, 379, 662, 663, 664, 665, 666, 668, 31, 669, 670, 672] (by decide +kernel)
set_option maxRecDepth 20000 in
theorem lin_wsL_law_r15 : ∀ w ∈ wsL_law_r15, w ∈ lw_tbl := mem_r _ [32, 673, 674, 676, 33, 677, 380, 381, 382, 383, 384, 385, 386, 387, 388, 389, 390, 391, 678, 679, 680, 681, 682, 684] (by decide +kernel)
set_option maxRecDepth 20000 in
theorem lin_wsL_law_r16 : ∀ w ∈ wsL_law_r16, w ∈ lw_tbl := mem_r _ [34, 685, 392, 393, 394, 395, 396, 397, 398, 399, 686, 687, 688, 689, 400, 401, 402, 403, 404, 405, 406, 407, 408, 410] (by decide +kernel)
set_option maxRecDepth 20000 in
theorem lin_wsL_law_r17 : ∀ w ∈ wsL_law_r17, w ∈ lw_tbl := mem_r _ [11, 411, 412, 413, 414, 415, 690, 691, 692, 693, 416, 417, 418, 419, 420, 421, 422, 423, 694, 695, 696, 697, 424, 425] (by decide +kernel)
set_option maxRecDepth 20000 in
theorem lin_wsL_law_r18 : ∀ w ∈ wsL_law_r18, w ∈ lw_tbl := mem_r _ [426, 427, 428, 429, 430, 431, 698, 699, 700, 701, 564, 432, 433, 434, 435, 436, 437, 702, 703, 704, 705, 706, 708, 35] (by decide +kernel)
set_option maxRecDepth 20000 in
theorem lin_wsL_law_r19 : ∀ w ∈ wsL_law_r19, w ∈ lw_tbl := mem_r _ [709, 438, 439, 440, 441, 442, 443, 444, 445, 446, 710, 711, 712, 713, 447, 448, 449, 450, 451, 452, 453, 714, 715, 716] (by decide +kernel)
set_option maxRecDepth 20000 in
theorem lin_wsL_law_r20 : ∀ w ∈ wsL_law_r20, w ∈ lw_tbl := mem_r _ [717, 454, 455, 456, 457, 458, 718, 719, 720, 721, 459, 460, 461, 462, 463, 464, 465, 466, 165, 470, 467, 468, 469, 471] (by decide +kernel)
set_option maxRecDepth 20000 in
theorem lin_wsL_law_r21 : ∀ w ∈ wsL_law_r21, w ∈ lw_tbl := mem_r _ [472, 722, 723, 724, 725, 726, 473, 474, 475, 476, 477, 478, 479, 480, 727, 728, 729, 730, 481, 482, 483, 484, 485, 486] (by decide +kernel)
set_option maxRecDepth 20000 in
theorem lin_wsL_law_r22 : ∀ w ∈ wsL_law_r22, w ∈ lw_tbl := mem_r _ [487, 488, 167, 489, 490, 491, 492, 493, 494, 495, 496, 168, 174, 170, 497, 499, 12, 500, 501, 503, 13, 504, 172, 505] (by decide +kernel)
set_option maxRecDepth 20000 in
theorem lin_wsL_law_r23 : ∀ w ∈ wsL_law_r23, w ∈ lw_tbl := mem_r _ [507, 14, 508, 509, 511, 15, 512, 513, 514, 515, 516, 731, 732, 733, 734, 735, 737, 36, 738, 739, 741, 37, 742, 743] (by decide +kernel)
set_option maxRecDepth 20000 in
theorem lin_wsL_law_r24 : ∀ w ∈ wsL_law_r24, w ∈ lw_tbl := mem_r _ [745, 38, 746, 747, 749, 39, 750, 751, 753, 40, 754, 517, 518, 519, 520, 521, 523, 16, 524, 525, 526, 527, 529, 17] (by decide +kernel)
set_option maxRecDepth 20000 in
theorem lin_wsL_law_r25 : ∀ w ∈ wsL_law_r25, w ∈ lw_tbl := mem_r _ [530, 531, 533, 18, 534, 535, 755, 756, 757, 758, 759, 760, 762, 41, 763, 764, 766, 42, 767, 768, 770, 43, 771, 536] (by decide +kernel)
set_option maxRecDepth 20000 in
theorem lin_wsL_law_r26 : ∀ w ∈ wsL_law_r26, w ∈ lw_tbl := mem_r _ [537, 538, 539, 540, 541, 542, 543, 772, 773, 774, 775, 544, 545, 546, 547, 776, 777, 778, 779, 548, 549, 550, 551, 780] (by decide +kernel)
set_option maxRecDepth 20000 in
theorem lin_wsL_law_r27 : ∀ w ∈ wsL_law_r27, w ∈ lw_tbl := mem_r _ [781, 782, 783] (by decide +kernel)
set_option maxRecDepth 20000 in
theorem lin_wsX40 : ∀ w ∈ wsX40, w ∈ lw_tbl := mem_r _ [216, 218, 220, 222, 224] (by decide +kernel)
set_option maxRecDepth 20000 in
theorem lin_wsX50 : ∀ w ∈ wsX50, w ∈ lw_tbl := mem_r _ [565, 567, 569, 571, 573, 575, 577] (by decide +kernel)
set_option maxRecDepth 20000 in
theorem lin_wsX30 : ∀ w ∈ wsX30, w ∈ lw_tbl := mem_r _ [123, 125, 127, 129, 131, 133, 135, 137, 139, 141, 143, 145, 147, 149, 151, 153, 155] (by decide +kernel)
set_option maxRecDepth 20000 in
theorem lin_wsX20 : ∀ w ∈ wsX20, w ∈ lw_tbl := mem_r _ [176, 178, 180, 182, 184, 186, 188] (by decide +kernel)
set_option maxRecDepth 20000 in
theorem lin_wsX10 : ∀ w ∈ wsX10, w ∈ lw_tbl := mem_r _ [204, 206, 208] (by decide +kernel)
set_option maxRecDepth 20000 in
theorem lin_wsX00 : ∀ w ∈ wsX00, w ∈ lw_tbl := mem_r _ [90, 92, 94, 96, 98, 100] (by decide +kernel)
theorem lin_rs : ∀ w ∈ (wsL_law_r1 ++ (wsL_law_r2 ++ (wsL_law_r3 ++ (wsL_law_r4 ++ (wsL_law_r5 ++ (wsL_law_r6 ++ (wsL_law_r7 ++ (wsL_law_r8 ++ (wsL_law_r9 ++ (wsL_law_r10 ++ (wsL_law_r11 ++ (wsL_law_r12 ++ (wsL_law_r13 ++ (wsL_law_r14 ++ (wsL_law_r15 ++ (wsL_law_r16 ++ (wsL_law_r17 ++ (wsL_law_r18 ++ (wsL_law_r19 ++ (wsL_law_r20 ++ (wsL_law_r21 ++ (wsL_law_r22 ++ (wsL_law_r23 ++ (wsL_law_r24 ++ (wsL_law_r25 ++ (wsL_law_r26 ++ (wsL_law_r27))))))))))))))))))))))))))), w ∈ lw_tbl := List.forall_mem_append.mpr ⟨lin_wsL_law_r1, List.forall_mem_append.mpr ⟨lin_wsL_law_r2, List.forall_mem_append.mpr ⟨lin_wsL_law_r3, List.forall_mem_append.mpr ⟨lin_wsL_law_r4, List.forall_mem_append.mpr ⟨lin_wsL_law_r5, List.forall_mem_append.mpr ⟨lin_wsL_law_r6, List.forall_mem_append.mpr ⟨lin_wsL_law_r7, List.forall_mem_append.mpr ⟨lin_wsL_law_r8, List.forall_mem_append.mpr ⟨lin_wsL_law_r9, List.forall_mem_append.mpr ⟨lin_wsL_law_r10, List.forall_mem_append.mpr ⟨lin_wsL_law_r11, List.forall_mem_append.mpr ⟨lin_wsL_law_r12, List.forall_mem_append.mpr ⟨lin_wsL_law_r13, List.forall_mem_append.mpr ⟨lin_wsL_law_r14, List.forall_mem_append.mpr ⟨lin_wsL_law_r15, List.forall_mem_append.mpr ⟨lin_wsL_law_r16, List.forall_mem_append.mpr ⟨lin_wsL_law_r17, List.forall_mem_append.mpr ⟨lin_wsL_law_r18, List.forall_mem_append.mpr ⟨lin_wsL_law_r19, List.forall_mem_append.mpr ⟨lin_wsL_law_r20, List.forall_mem_append.mpr ⟨lin_wsL_law_r21, List.forall_mem_append.mpr ⟨lin_wsL_law_r22, List.forall_mem_append.mpr ⟨lin_wsL_law_r23, List.forall_mem_append.mpr ⟨lin_wsL_law_r24, List.forall_mem_append.mpr ⟨lin_wsL_law_r25, List.forall_mem_append.mpr ⟨lin_wsL_law_r26, lin_wsL_law_r27⟩⟩⟩⟩⟩⟩⟩⟩⟩⟩⟩⟩⟩⟩⟩⟩⟩⟩⟩⟩⟩⟩⟩⟩⟩⟩
theorem wsL_law_in : ∀ w ∈ wsL_law, w ∈ lw_tbl := List.forall_mem_append.mpr ⟨List.forall_mem_append.mpr ⟨List.forall_mem_append.mpr ⟨List.forall_mem_append.mpr ⟨List.forall_mem_append.mpr ⟨List.forall_mem_append.mpr ⟨List.forall_mem_append.mpr ⟨lin_rs, lin_wsX40⟩, lin_wsX50⟩, lin_wsX30⟩, lin_wsX20⟩, lin_wsX10⟩, lin_wsX00⟩, fun _ h => absurd h List.not_mem_nil⟩
theorem inlX0 : ∀ w ∈ wsX00, w ∈ wsL_law := fun _ h => List.mem_append_left _ (List.mem_append_right _ h)
theorem inlX1 : ∀ w ∈ wsX10, w ∈ wsL_law := fun _ h => List.mem_append_left _ (List.mem_append_left _ (List.mem_append_right _ h))
theorem inlX2 : ∀ w ∈ wsX20, w ∈ wsL_law := fun _ h => List.mem_append_left _ (List.mem_append_left _ (List.mem_append_left _ (List.mem_append_right _ h)))
theorem inlX3 : ∀ w ∈ wsX30, w ∈ wsL_law := fun _ h => List.mem_append_left _ (List.mem_append_left _ (List.mem_append_left _ (List.mem_append_left _ (List.mem_append_right _ h))))
theorem inlX4 : ∀ w ∈ wsX40, w ∈ wsL_law := fun _ h => List.mem_append_left _ (List.mem_append_left _ (List.mem_append_left _ (List.mem_append_left _ (List.mem_append_left _ (List.mem_append_left _ (List.mem_append_right _ h))))))
theorem inlX5 : ∀ w ∈ wsX50, w ∈ wsL_law := fun _ h => List.mem_append_left _ (List.mem_append_left _ (List.mem_append_left _ (List.mem_append_left _ (List.mem_append_left _ (List.mem_append_right _ h)))))
end
section
theorem win_wsL_law_r1 : ∀ w ∈ wsL_law_r1, w ∈ wsL_law := fun w h => List.mem_append_left _ (List.mem_append_left _ (List.mem_append_left _ (List.mem_append_left _ (List.mem_append_left _ (List.mem_append_left _ (List.mem_append_left _ (List.mem_append_left _ h)))))))
theorem win_wsL_law_r2 : ∀ w ∈ wsL_law_r2, w ∈ wsL_law := fun w h => List.mem_append_left _ (List.mem_append_left _ (List.mem_append_left _ (List.mem_append_left _ (List.mem_append_left _ (List.mem_append_left _ (List.mem_append_left _ (List.mem_append_right _ (List.mem_append_left _ h))))))))
theorem win_wsL_law_r3 : ∀ w ∈ wsL_law_r3, w ∈ wsL_law := fun w h => List.mem_append_left _ (List.mem_append_left _ (List.mem_append_left _ (List.mem_append_left _ (List.mem_append_left _ (List.mem_append_left _ (List.mem_append_left _ (List.mem_append_right _ (List.mem_append_right _ (List.mem_append_left _ h)))))))))
theorem win_wsL_law_r4 : ∀ w ∈ wsL_law_r4, w ∈ wsL_law := fun w h => List.mem_append_left _ (List.mem_append_left _ (List.mem_append_left _ (List.mem_append_left _ (List.mem_append_left _ (List.mem_append_left _ (List.mem_append_left _ (List.mem_append_right _ (List.mem_append_right _ (List.mem_append_right _ (List.mem_append_left _ h))))))))))
theorem win_wsL_law_r5 : ∀ w ∈ wsL_law_r5, w ∈ wsL_law := fun w h => List.mem_append_left _ (List.mem_append_left _ (List.mem_append_left _ (List.mem_append_left _ (List.mem_append_left _ (List.mem_append_left _ (List.mem_append_left _ (List.mem_append_right _ (List.mem_append_right _ (List.mem_append_right _ (List.mem_append_right _ (List.mem_append_left _ h)))))))))))
theorem win_wsL_law_r6 : ∀ w ∈ wsL_law_r6, w ∈ wsL_law := fun w h => List.mem_append_left _ (List.mem_append_left _ (List.mem_append_left _ (List.mem_append_left _ (List.mem_append_left _ (List.mem_append_left _ (List.mem_append_left _ (List.mem_append_right _ (List.mem_append_right _ (List.mem_append_right _ (List.mem_append_right _ (List.mem_append_right _ (List.mem_append_left _ h))))))))))))
theorem win_wsL_law_r7 : ∀ w ∈ wsL_law_r7, w ∈ wsL_law := fun w h => List.mem_append_left _ (List.mem_append_left _ (List.mem_append_left _ (List.mem_append_left _ (List.mem_append_left _ (List.mem_append_left _ (List.mem_append_left _ (List.mem_append_right _ (List.mem_append_right _ (List.mem_append_right _ (List.mem_append_right _ (List.mem_append_right _ (List.mem_append_right _ (List.mem_append_left _ h)))))))))))))
theorem win_wsL_law_r8 : ∀ w ∈ wsL_law_r8, w ∈ wsL_law := fun w h => List.mem_append_left _ (List.mem_append_left _ (List.mem_append_left _ (List.mem_append_left _ (List.mem_append_left _ (List.mem_append_left _ (List.mem_append_left _ (List.mem_append_right _ (List.mem_append_right _ (List.mem_append_right _ (List.mem_append_right _ (List.mem_append_right _ (List.mem_append_right _ (List.mem_append_right _ (List.mem_append_left _ h))))))))))))))
theorem win_wsL_law_r9 : ∀ w ∈ wsL_law_r9, w ∈ wsL_law := fun w h => List.mem_append_left _ (List.mem_append_left _ (List.mem_append_left _ (List.mem_append_left _ (List.mem_append_left _ (List.mem_append_left _ (List.mem_append_left _ (List.mem_append_right _ (List.mem_append_right _ (List.mem_append_right _ (List.mem_append_right _ (List.mem_append_right _ (List.mem_append_right _ (List.mem_append_right _ (List.mem_append_right _ (List.mem_append_left _ h)))))))))))))))
theorem win_wsL_law_r10 : ∀ w ∈ wsL_law_r10, w ∈ wsL_law := fun w h => List.mem_append_left _ (List.mem_append_left _ (List.mem_append_left _ (List.mem_append_left _ (List.mem_append_left _ (List.mem_append_left _ (List.mem_append_left _ (List.mem_append_right _ (List.mem_append_right _ (List.mem_append_right _ (List.mem_append_right _ (List.mem_append_right _ (List.mem_append_right _ (List.mem_append_right _ (List.mem_append_right _ (List.mem_append_right _ (List.mem_append_left _ h))))))))))))))))
theorem win_wsL_law_r11 : ∀ w ∈ wsL_law_r11, w ∈ wsL_law := fun w h => List.mem_append_left _ (List.mem_append_left _ (List.mem_append_left _ (List.mem_append_left _ (List.mem_append_left _ (List.mem_append_left _ (List.mem_append_left _ (List.mem_append_right _ (List.mem_append_right _ (List.mem_append_right _ (List.mem_append_right _ (List.mem_append_right _ (List.mem_append_right _ (List.mem_append_right _ (List.mem_append_right _ (List.mem_append_right _ (List.mem_append_right _ (List.mem_append_left _ h)))))))))))))))))
theorem win_wsL_law_r12 : ∀ w ∈ wsL_law_r12, w ∈ wsL_law := fun w h => List.mem_append_left _ (List.mem_append_left _ (List.mem_append_left _ (List.mem_append_left _ (List.mem_append_left _ (List.mem_append_left _ (List.mem_append_left _ (List.mem_append_right _ (List.mem_append_right _ (List.mem_append_right _ (List.mem_append_right _ (List.mem_append_right _ (List.mem_append_right _ (List.mem_append_right _ (List.mem_append_right _ (List.mem_append_right _ (List.mem_append_right _ (List.mem_append_right _ (List.mem_append_left _ h))))))))))))))))))
theorem win_wsL_law_r13 : ∀ w ∈ wsL_law_r13, w ∈ wsL_law := fun w h => List.mem_append_left _ (List.mem_append_left _ (List.mem_append_left _ (List.mem_append_left _ (List.mem_append_left _ (List.mem_append_left _ (List.mem_append_left _ (List.mem_append_right _ (List.mem_append_right _ (List.mem_append_right _ (List.mem_append_right _ (List.mem_append_right _ (List.mem_append_right _ (List.mem_append_right _ (List.mem_append_right _ (List.mem_append_right _ (List.mem_append_right _ (List.mem_append_right _ (List.mem_append_right _ (List.mem_append_left _ h)))))))))))))))))))
theorem win_wsL_law_r14 : ∀ w ∈ wsL_law_r14, w ∈ wsL_law := fun w h => List.mem_append_left _ (List.mem_append_left _ (List.mem_append_left _ (List.mem_append_left _ (List.mem_append_left _ (List.mem_append_left _ (List.mem_append_left _ (List.mem_append_right _ (List.mem_append_right _ (List.mem_append_right _ (List.mem_append_right _ (List.mem_append_right _ (List.mem_append_right _ (List.mem_append_right _ (List.mem_append_right _ (List.mem_append_right _ (List.mem_append_right _ (List.mem_append_right _ (List.mem_append_right _ (List.mem_append_right _ (List.mem_append_left _ h))))))))))))))))))))
theorem win_wsL_law_r15 : ∀ w ∈ wsL_law_r15, w ∈ wsL_law := fun w h => List.mem_append_left _ (List.mem_append_left _ (List.mem_append_left _ (List.mem_append_left _ (List.mem_append_left _ (List.mem_append_left _ (List.mem_append_left _ (List.mem_append_right _ (List.mem_append_right _ (List.mem_append_right _ (List.mem_append_right _ (List.mem_append_right _ (List.mem_append_right _ (List.mem_append_right _ (List.mem_append_right _ (List.mem_append_right _ (List.mem_append_right _ (List.mem_append_right _ (List.mem_append_right _ (List.mem_append_right _ (List.mem_append_right _ (List.mem_append_left _ h)))))))))))))))))))))
theorem win_wsL_law_r16 : ∀ w ∈ wsL_law_r16, w ∈ wsL_law := fun w h => List.mem_append_left _ (List.mem_append_left _ (List.mem_append_left _ (List.mem_append_left _ (List.mem_append_left _ (List.mem_append_left _ (List.mem_append_left _ (List.mem_append_right _ (List.mem_append_right _ (List.mem_append_right _ (List.mem_append_right _ (List.mem_append_right _ (List.mem_append_right _ (List.mem_append_right _ (List.mem_append_right _ (List.mem_append_right _ (List.mem_append_right _ (List.mem_append_right _ (List.mem_append_right _ (List.mem_append_right _ (List.mem_append_right _ (List.mem_append_right _ (List.mem_append_left _ h))))))))))))))))))))))
theorem win_wsL_law_r17 : ∀ w ∈ wsL_law_r17, w ∈ wsL_law := fun w h => List.mem_append_left _ (List.mem_append_left _ (List.mem_append_left _ (List.mem_append_left _ (List.mem_append_left _ (List.mem_append_left _ (List.mem_append_left _ (List.mem_append_right _ (List.mem_append_right _ (List.mem_append_right _ (List.mem_append_right _ (List.mem_append_right _ (List.mem_append_right _ (List.mem_append_right _ (List.mem_append_right _ (List.mem_append_right _ (List.mem_append_right _ (List.mem_append_right _ (List.mem_append_right _ (List.mem_append_right _ (List.mem_append_right _ (List.mem_append_right _ (List.mem_append_right _ (List.mem_append_left _ h)))))))))))))))))))))))
theorem win_wsL_law_r18 : ∀ w ∈ wsL_law_r18, w ∈ wsL_law := fun w h => List.mem_append_left _ (List.mem_append_left _ (List.mem_append_left _ (List.mem_append_left _ (List.mem_append_left _ (List.mem_append_left _ (List.mem_append_left _ (List.mem_append_right _ (List.mem_append_right _ (List.mem_append_right _ (List.mem_append_right _ (List.mem_append_right _ (List.mem_append_right _ (List.mem_append_right _ (List.mem_append_right _ (List.mem_append_right _ (List.mem_append_right _ (List.mem_append_right _ (List.mem_append_right _ (List.mem_append_right _ (List.mem_append_right _ (List.mem_append_right _ (List.mem_append_right _ (List.mem_append_right _ (List.mem_append_left _ h))))))))))))))))))))))))
theorem win_wsL_law_r19 : ∀ w ∈ wsL_law_r19, w ∈ wsL_law := fun w h => List.mem_append_left _ (List.mem_append_left _ (List.mem_append_left _ (List.mem_append_left _ (List.mem_append_left _ (List.mem_append_left _ (List.mem_append_left _ (List.mem_append_right _ (List.mem_append_right _ (List.mem_append_right _ (List.mem_append_right _ (List.mem_append_right _ (List.mem_append_right _ (List.mem_append_right _ (List.mem_append_right _ (List.mem_append_right _ (List.mem_append_right _ (List.mem_append_right _ (List.mem_append_right _ (List.mem_append_right _ (List.mem_append_right _ (List.mem_append_right _ (List.mem_append_right _ (List.mem_append_right _ (List.mem_append_right _ (List.mem_append_left _ h)))))))))))))))))))))))))
theorem win_wsL_law_r20 : ∀ w ∈ wsL_law_r20, w ∈ wsL_law := fun w h => List.mem_append_left _ (List.mem_append_left _ (List.mem_append_left _ (List.mem_append_left _ (List.mem_append_left _ (List.mem_append_left _ (List.mem_append_left _ (List.mem_append_right _ (List.mem_append_right _ (List.mem_append_right _ (List.mem_append_right _ (List.mem_append_right _ (List.mem_append_right _ (List.mem_append_right _ (List.mem_append_right _ (List.mem_append_right _ (List.mem_append_right _ (List.mem_append_right _ (List.mem_append_right _ (List.mem_append_right _ (List.mem_append_right _ (List.mem_append_right _ (List.mem_append_right _ (List.mem_append_right _ (List.mem_append_right _ (List.mem_append_right _ (List.mem_append_left _ h))))))))))))))))))))))))))
theorem win_wsL_law_r21 : ∀ w ∈ wsL_law_r21, w ∈ wsL_law := fun w h => List.mem_append_left _ (List.mem_append_left _ (List.mem_append_left _ (List.mem_append_left _ (List.mem_append_left _ (List.mem_append_left _ (List.mem_append_left _ (List.mem_append_right _ (List.mem_append_right _ (List.mem_append_right _ (List.mem_append_right _ (List.mem_append_right _ (List.mem_append_right _ (List.mem_append_right _ (List.mem_append_right _ (List.mem_append_right _ (List.mem_append_right _ (List.mem_append_right _ (List.mem_append_right _ (List.mem_append_right _ (List.mem_append_right _ (List.mem_append_right _ (List.mem_append_right _ (List.mem_append_right _ (List.mem_append_right _ (List.mem_append_right _ (List.mem_append_right _ (List.mem_append_left _ h)))))))))))))))))))))))))))
theorem win_wsL_law_r22 : ∀ w ∈ wsL_law_r22, w ∈ wsL_law := fun w h => List.mem_append_left _ (List.mem_append_left _ (List.mem_append_left _ (List.mem_append_left _ (List.mem_append_left _ (List.mem_append_left _ (List.mem_append_left _ (List.mem_append_right _ (List.mem_append_right _ (List.mem_append_right _ (List.mem_append_right _ (List.mem_append_right _ (List.mem_append_right _ (List.mem_append_right _ (List.mem_append_right _ (List.mem_append_right _ (List.mem_append_right _ (List.mem_append_right _ (List.mem_append_right _ (List.mem_append_right _ (List.mem_append_right _ (List.mem_append_right _ (List.mem_append_right _ (List.mem_append_right _ (List.mem_append_right _ (List.mem_append_right _ (List.mem_append_right _ (List.mem_append_right _ (List.mem_append_left _ h))))))))))))))))))))))))))))
theorem win_wsL_law_r23 : ∀ w ∈ wsL_law_r23, w ∈ wsL_law := fun w h => List.mem_append_left _ (List.mem_append_left _ (List.mem_append_left _ (List.mem_append_left _ (List.mem_append_left _ (List.mem_append_left _ (List.mem_append_left _ (List.mem_append_right _ (List.mem_append_right _ (List.mem_append_right _ (List.mem_append_right _ (List.mem_append_right _ (List.mem_append_right _ (List.mem_append_right _ (List.mem_append_right _ (List.mem_append_right _ (List.mem_append_right _ (List.mem_append_right _ (List.mem_append_right _ (List.mem_append_right _ (List.mem_append_right _ (List.mem_append_right _ (List.mem_append_right _ (List.mem_append_right _ (List.mem_append_right _ (List.mem_append_right _ (List.mem_append_right _ (List.mem_append_right _ (List.mem_append_right _ (List.mem_append_left _ h)))))))))))))))))))))))))))))
theorem win_wsL_law_r24 : ∀ w ∈ wsL_law_r24, w ∈ wsL_law := fun w h => List.mem_append_left _ (List.mem_append_left _ (List.mem_append_left _ (List.mem_append_left _ (List.mem_append_left _ (List.mem_append_left _ (List.mem_append_left _ (List.mem_append_right _ (List.mem_append_right _ (List.mem_append_right _ (List.mem_append_right _ (List.mem_append_right _ (List.mem_append_right _ (List.mem_append_right _ (List.mem_append_right _ (List.mem_append_right _ (List.mem_append_right _ (List.mem_append_right _ (List.mem_append_right _ (List.mem_append_right _ (List.mem_append_right _ (List.mem_append_right _ (List.mem_append_right _ (List.mem_append_right _ (List.mem_append_right _ (List.mem_append_right _ (List.mem_append_right _ (List.mem_append_right _ (List.mem_append_right _ (List.mem_append_right _ (List.mem_append_left _ h))))))))))))))))))))))))))))))
theorem win_wsL_law_r25 : ∀ w ∈ wsL_law_r25, w ∈ wsL_law := fun w h => List.mem_append_left _ (List.mem_append_left _ (List.mem_append_left _ (List.mem_append_left _ (List.mem_append_left _ (List.mem_append_left _ (List.mem_append_left _ (List.mem_append_right _ (List.mem_append_right _ (List.mem_append_right _ (List.mem_append_right _ (List.mem_append_right _ (List.mem_append_right _ (List.mem_append_right _ (List.mem_append_right _ (List.mem_append_right _ (List.mem_append_right _ (List.mem_append_right _ (List.mem_append_right _ (List.mem_append_right _ (List.mem_append_right _ (List.mem_append_right _ (List.mem_append_right _ (List.mem_append_right _ (List.mem_append_right _ (List.mem_append_right _ (List.mem_append_right _ (List.mem_append_right _ (List.mem_append_right _ (List.mem_append_right _ (List.mem_append_right _ (List.mem_append_left _ h)))))))))))))))))))))))))))))))
theorem win_wsL_law_r26 : ∀ w ∈ wsL_law_r26, w ∈ wsL_law := fun w h => List.mem_append_left _ (List.mem_append_left _ (List.mem_append_left _ (List.mem_append_left _ (List.mem_append_left _ (List.mem_append_left _ (List.mem_append_left _ (List.mem_append_right _ (List.mem_append_right _ (List.mem_append_right _ (List.mem_append_right _ (List.mem_append_right _ (List.mem_append_right _ (List.mem_append_right _ (List.mem_append_right _ (List.mem_append_right _ (List.mem_append_right _ (List.mem_append_right _ (List.mem_append_right _ (List.mem_append_right _ (List.mem_append_right _ (List.mem_append_right _ (List.mem_append_right _ (List.mem_append_right _ (List.mem_append_right _ (List.mem_append_right _ (List.mem_append_right _ (List.mem_append_right _ (List.mem_append_right _ (List.mem_append_right _ (List.mem_append_right _ (List.mem_append_right _ (List.mem_append_left _ h))))))))))))))))))))))))))))))))
theorem win_wsL_law_r27 : ∀ w ∈ wsL_law_r27, w ∈ wsL_law := fun w h => List.mem_append_left _ (List.mem_append_left _ (List.mem_append_left _ (List.mem_append_left _ (List.mem_append_left _ (List.mem_append_left _ (List.mem_append_left _ (List.mem_append_right _ (List.mem_append_right _ (List.mem_append_right _ (List.mem_append_right _ (List.mem_append_right _ (List.mem_append_right _ (List.mem_append_right _ (List.mem_append_right _ (List.mem_append_right _ (List.mem_append_right _ (List.mem_append_right _ (List.mem_append_right _ (List.mem_append_right _ (List.mem_append_right _ (List.mem_append_right _ (List.mem_append_right _ (List.mem_append_right _ (List.mem_append_right _ (List.mem_append_right _ (List.mem_append_right _ (List.mem_append_right _ (List.mem_append_right _ (List.mem_append_right _ (List.mem_append_right _ (List.mem_append_right _ (List.mem_append_right _ (h)))))))))))))))))))))))))))))))))
theorem cl_L_7 : Cond.classLink RL 7 RX4 ∈ wsL_law := win_wsL_law_r1 _ (List.mem_of_getElem? (i := 0) rfl)
theorem ib_RX4 : Cond.instantiable RX4 5 ∈ wsL_law := win_wsL_law_r1 _ (List.mem_of_getElem? (i := 1) rfl)
theorem it_RX4 : Cond.initialized RX4 ∈ wsL_law := win_wsL_law_r1 _ (List.mem_of_getElem? (i := 2) rfl)
theorem cl_L_10 : Cond.classLink RL 10 RX5 ∈ wsL_law := win_wsL_law_r1 _ (List.mem_of_getElem? (i := 3) rfl)
theorem ib_RX5 : Cond.instantiable RX5 7 ∈ wsL_law := win_wsL_law_r1 _ (List.mem_of_getElem? (i := 4) rfl)
theorem it_RX5 : Cond.initialized RX5 ∈ wsL_law := win_wsL_law_r1 _ (List.mem_of_getElem? (i := 5) rfl)
theorem kl_L_69 : Cond.constantLong RL 69 4294967295 ∈ wsL_law := win_wsL_law_r1 _ (List.mem_of_getElem? (i := 6) rfl)
theorem ml_L_9 : Cond.methodLink RL 9 yX4_init ∈ wsL_law := win_wsL_law_r1 _ (List.mem_of_getElem? (i := 7) rfl)
theorem im_X4_init : Cond.instanceMethod yX4_init ∈ wsL_law := win_wsL_law_r1 _ (List.mem_of_getElem? (i := 8) rfl)
theorem co_X4_init : Cond.code yX4_init cX4_init 1 none ∈ wsL_law := win_wsL_law_r1 _ (List.mem_of_getElem? (i := 9) rfl)
theorem ml_X4_1 : Cond.methodLink RX4 1 objectInit ∈ wsL_law := win_wsL_law_r1 _ (List.mem_of_getElem? (i := 10) rfl)
theorem im_objectInit : Cond.instanceMethod objectInit ∈ wsL_law := win_wsL_law_r1 _ (List.mem_of_getElem? (i := 11) rfl)
theorem co_objectInit : Cond.code objectInit ⟨#[0xb1]⟩ 1 none ∈ wsL_law := win_wsL_law_r1 _ (List.mem_of_getElem? (i := 12) rfl)
theorem cl_X4_7 : Cond.classLink RX4 7 RX3 ∈ wsL_law := win_wsL_law_r1 _ (List.mem_of_getElem? (i := 13) rfl)
theorem ib_RX3 : Cond.instantiable RX3 17 ∈ wsL_law := win_wsL_law_r1 _ (List.mem_of_getElem? (i := 14) rfl)
theorem it_RX3 : Cond.initialized RX3 ∈ wsL_law := win_wsL_law_r1 _ (List.mem_of_getElem? (i := 15) rfl)
theorem fl_X4_10 : Cond.fieldLink RX4 10 "StickRests" "stick" "LStickRests$Stick;" ∈ wsL_law := win_wsL_law_r1 _ (List.mem_of_getElem? (i := 16) rfl)
theorem fl_X4_16 : Cond.fieldLink RX4 16 "StickRests" "trial" "LStickRests$Stick;" ∈ wsL_law := win_wsL_law_r1 _ (List.mem_of_getElem? (i := 17) rfl)
theorem cl_X4_19 : Cond.classLink RX4 19 RX2 ∈ wsL_law := win_wsL_law_r1 _ (List.mem_of_getElem? (i := 18) rfl)
theorem ib_RX2 : Cond.instantiable RX2 7 ∈ wsL_law := win_wsL_law_r1 _ (List.mem_of_getElem? (i := 19) rfl)
theorem it_RX2 : Cond.initialized RX2 ∈ wsL_law := win_wsL_law_r1 _ (List.mem_of_getElem? (i := 20) rfl)
theorem fl_X4_22 : Cond.fieldLink RX4 22 "StickRests" "pad" "LStickRests$Pad;" ∈ wsL_law := win_wsL_law_r1 _ (List.mem_of_getElem? (i := 21) rfl)
theorem cl_X4_26 : Cond.classLink RX4 26 RX1 ∈ wsL_law := win_wsL_law_r1 _ (List.mem_of_getElem? (i := 22) rfl)
theorem ib_RX1 : Cond.instantiable RX1 3 ∈ wsL_law := win_wsL_law_r1 _ (List.mem_of_getElem? (i := 23) rfl)
theorem it_RX1 : Cond.initialized RX1 ∈ wsL_law := win_wsL_law_r2 _ (List.mem_of_getElem? (i := 0) rfl)
theorem fl_X4_29 : Cond.fieldLink RX4 29 "StickRests" "history" "LStickRests$History;" ∈ wsL_law := win_wsL_law_r2 _ (List.mem_of_getElem? (i := 1) rfl)
theorem fl_X4_33 : Cond.fieldLink RX4 33 "StickRests" "slots" "[LStickRests$Stick;" ∈ wsL_law := win_wsL_law_r2 _ (List.mem_of_getElem? (i := 2) rfl)
theorem ml_X4_9 : Cond.methodLink RX4 9 yX3_init ∈ wsL_law := win_wsL_law_r2 _ (List.mem_of_getElem? (i := 3) rfl)
theorem im_X3_init : Cond.instanceMethod yX3_init ∈ wsL_law := win_wsL_law_r2 _ (List.mem_of_getElem? (i := 4) rfl)
theorem co_X3_init : Cond.code yX3_init cX3_init 1 none ∈ wsL_law := win_wsL_law_r2 _ (List.mem_of_getElem? (i := 5) rfl)
theorem ml_X3_3 : Cond.methodLink RX3 3 objectInit ∈ wsL_law := win_wsL_law_r2 _ (List.mem_of_getElem? (i := 6) rfl)
theorem ml_X3_13 : Cond.methodLink RX3 13 ⟨"[I", "clone", "()Ljava/lang/Object;"⟩ ∈ wsL_law := win_wsL_law_r2 _ (List.mem_of_getElem? (i := 7) rfl)
theorem cl_X3_14 : Cond.classLink RX3 14 "[I" ∈ wsL_law := win_wsL_law_r2 _ (List.mem_of_getElem? (i := 12) rfl)
theorem fl_X3_18 : Cond.fieldLink RX3 18 "StickRests$Stick" "settings" "[I" ∈ wsL_law := win_wsL_law_r2 _ (List.mem_of_getElem? (i := 13) rfl)
theorem cl_X3_23 : Cond.classLink RX3 23 RX0 ∈ wsL_law := win_wsL_law_r2 _ (List.mem_of_getElem? (i := 14) rfl)
theorem ib_RX0 : Cond.instantiable RX0 6 ∈ wsL_law := win_wsL_law_r2 _ (List.mem_of_getElem? (i := 15) rfl)
theorem it_RX0 : Cond.initialized RX0 ∈ wsL_law := win_wsL_law_r2 _ (List.mem_of_getElem? (i := 16) rfl)
theorem fl_X3_26 : Cond.fieldLink RX3 26 "StickRests$Stick" "directions" "LStickRests$Directions;" ∈ wsL_law := win_wsL_law_r2 _ (List.mem_of_getElem? (i := 17) rfl)
theorem fl_X3_30 : Cond.fieldLink RX3 30 "StickRests$Stick" "restX" "I" ∈ wsL_law := win_wsL_law_r2 _ (List.mem_of_getElem? (i := 18) rfl)
theorem fl_X3_34 : Cond.fieldLink RX3 34 "StickRests$Stick" "restY" "I" ∈ wsL_law := win_wsL_law_r2 _ (List.mem_of_getElem? (i := 19) rfl)
theorem fl_X3_37 : Cond.fieldLink RX3 37 "StickRests$Stick" "zone" "I" ∈ wsL_law := win_wsL_law_r2 _ (List.mem_of_getElem? (i := 20) rfl)
theorem ml_X3_25 : Cond.methodLink RX3 25 yX0_init ∈ wsL_law := win_wsL_law_r2 _ (List.mem_of_getElem? (i := 21) rfl)
theorem im_X0_init : Cond.instanceMethod yX0_init ∈ wsL_law := win_wsL_law_r2 _ (List.mem_of_getElem? (i := 22) rfl)
theorem co_X0_init : Cond.code yX0_init cX0_init 1 none ∈ wsL_law := win_wsL_law_r2 _ (List.mem_of_getElem? (i := 23) rfl)
theorem ml_X0_3 : Cond.methodLink RX0 3 objectInit ∈ wsL_law := win_wsL_law_r3 _ (List.mem_of_getElem? (i := 0) rfl)
theorem ac_int : Cond.arrayClass .int ∈ wsL_law := win_wsL_law_r3 _ (List.mem_of_getElem? (i := 1) rfl)
theorem fl_X0_9 : Cond.fieldLink RX0 9 "StickRests$Directions" "byRank" "[I" ∈ wsL_law := win_wsL_law_r3 _ (List.mem_of_getElem? (i := 2) rfl)
theorem fl_X0_15 : Cond.fieldLink RX0 15 "StickRests$Directions" "samplesIn" "[I" ∈ wsL_law := win_wsL_law_r3 _ (List.mem_of_getElem? (i := 3) rfl)
theorem fl_X0_18 : Cond.fieldLink RX0 18 "StickRests$Directions" "longest" "[I" ∈ wsL_law := win_wsL_law_r3 _ (List.mem_of_getElem? (i := 4) rfl)
theorem fl_X0_21 : Cond.fieldLink RX0 21 "StickRests$Directions" "latest" "I" ∈ wsL_law := win_wsL_law_r3 _ (List.mem_of_getElem? (i := 5) rfl)
theorem ml_X4_21 : Cond.methodLink RX4 21 yX2_init ∈ wsL_law := win_wsL_law_r3 _ (List.mem_of_getElem? (i := 6) rfl)
theorem im_X2_init : Cond.instanceMethod yX2_init ∈ wsL_law := win_wsL_law_r3 _ (List.mem_of_getElem? (i := 7) rfl)
theorem co_X2_init : Cond.code yX2_init cX2_init 1 none ∈ wsL_law := win_wsL_law_r3 _ (List.mem_of_getElem? (i := 8) rfl)
theorem ml_X2_3 : Cond.methodLink RX2 3 objectInit ∈ wsL_law := win_wsL_law_r3 _ (List.mem_of_getElem? (i := 9) rfl)
theorem ac_char : Cond.arrayClass .char ∈ wsL_law := win_wsL_law_r3 _ (List.mem_of_getElem? (i := 10) rfl)
theorem fl_X2_9 : Cond.fieldLink RX2 9 "StickRests$Pad" "text" "[C" ∈ wsL_law := win_wsL_law_r3 _ (List.mem_of_getElem? (i := 11) rfl)
theorem ml_X4_28 : Cond.methodLink RX4 28 yX1_init ∈ wsL_law := win_wsL_law_r3 _ (List.mem_of_getElem? (i := 12) rfl)
theorem im_X1_init : Cond.instanceMethod yX1_init ∈ wsL_law := win_wsL_law_r3 _ (List.mem_of_getElem? (i := 13) rfl)
theorem co_X1_init : Cond.code yX1_init cX1_init 1 none ∈ wsL_law := win_wsL_law_r3 _ (List.mem_of_getElem? (i := 14) rfl)
theorem ml_X1_3 : Cond.methodLink RX1 3 objectInit ∈ wsL_law := win_wsL_law_r3 _ (List.mem_of_getElem? (i := 15) rfl)
theorem cl_X1_9 : Cond.classLink RX1 9 RX3 ∈ wsL_law := win_wsL_law_r3 _ (List.mem_of_getElem? (i := 16) rfl)
theorem fl_X1_11 : Cond.fieldLink RX1 11 "StickRests$History" "states" "[LStickRests$Stick;" ∈ wsL_law := win_wsL_law_r3 _ (List.mem_of_getElem? (i := 17) rfl)
theorem ml_L_12 : Cond.methodLink RL 12 yX5_init ∈ wsL_law := win_wsL_law_r3 _ (List.mem_of_getElem? (i := 18) rfl)
theorem im_X5_init : Cond.instanceMethod yX5_init ∈ wsL_law := win_wsL_law_r3 _ (List.mem_of_getElem? (i := 19) rfl)
theorem co_X5_init : Cond.code yX5_init cX5_init 1 none ∈ wsL_law := win_wsL_law_r3 _ (List.mem_of_getElem? (i := 20) rfl)
theorem ml_X5_1 : Cond.methodLink RX5 1 objectInit ∈ wsL_law := win_wsL_law_r3 _ (List.mem_of_getElem? (i := 21) rfl)
theorem fl_X5_7 : Cond.fieldLink RX5 7 "StickRestsModel" "s" "[I" ∈ wsL_law := win_wsL_law_r3 _ (List.mem_of_getElem? (i := 22) rfl)
theorem fl_X5_13 : Cond.fieldLink RX5 13 "StickRestsModel" "past" "[I" ∈ wsL_law := win_wsL_law_r3 _ (List.mem_of_getElem? (i := 23) rfl)
theorem fl_X5_16 : Cond.fieldLink RX5 16 "StickRestsModel" "slots" "[I" ∈ wsL_law := win_wsL_law_r4 _ (List.mem_of_getElem? (i := 0) rfl)
theorem ac_boolean : Cond.arrayClass .boolean ∈ wsL_law := win_wsL_law_r4 _ (List.mem_of_getElem? (i := 1) rfl)
theorem fl_X5_19 : Cond.fieldLink RX5 19 "StickRestsModel" "isSaved" "[Z" ∈ wsL_law := win_wsL_law_r4 _ (List.mem_of_getElem? (i := 2) rfl)
theorem fl_X5_23 : Cond.fieldLink RX5 23 "StickRestsModel" "pad" "[I" ∈ wsL_law := win_wsL_law_r4 _ (List.mem_of_getElem? (i := 3) rfl)
theorem ml_L_13 : Cond.methodLink RL 13 yX4_set ∈ wsL_law := win_wsL_law_r4 _ (List.mem_of_getElem? (i := 4) rfl)
theorem im_X4_set : Cond.instanceMethod yX4_set ∈ wsL_law := win_wsL_law_r4 _ (List.mem_of_getElem? (i := 5) rfl)
theorem se_X4_set : Cond.selects RX4 yX4_set yX4_set ∈ wsL_law := win_wsL_law_r4 _ (List.mem_of_getElem? (i := 6) rfl)
theorem co_X4_set : Cond.code yX4_set cX4_set 3 (some .int) ∈ wsL_law := win_wsL_law_r4 _ (List.mem_of_getElem? (i := 7) rfl)
theorem fl_X4_37 : Cond.fieldLink RX4 37 "StickRests" "LEAST" "[I" ∈ wsL_law := win_wsL_law_r4 _ (List.mem_of_getElem? (i := 8) rfl)
theorem fl_X4_41 : Cond.fieldLink RX4 41 "StickRests" "MOST" "[I" ∈ wsL_law := win_wsL_law_r4 _ (List.mem_of_getElem? (i := 9) rfl)
theorem ml_X4_44 : Cond.methodLink RX4 44 yX1_keep ∈ wsL_law := win_wsL_law_r4 _ (List.mem_of_getElem? (i := 10) rfl)
theorem im_X1_keep : Cond.instanceMethod yX1_keep ∈ wsL_law := win_wsL_law_r4 _ (List.mem_of_getElem? (i := 11) rfl)
theorem se_X1_keep : Cond.selects RX1 yX1_keep yX1_keep ∈ wsL_law := win_wsL_law_r4 _ (List.mem_of_getElem? (i := 12) rfl)
theorem co_X1_keep : Cond.code yX1_keep cX1_keep 4 none ∈ wsL_law := win_wsL_law_r4 _ (List.mem_of_getElem? (i := 13) rfl)
theorem fl_X1_27 : Cond.fieldLink RX1 27 "StickRests$History" "size" "I" ∈ wsL_law := win_wsL_law_r4 _ (List.mem_of_getElem? (i := 14) rfl)
theorem fl_X1_17 : Cond.fieldLink RX1 17 "StickRests$History" "oldest" "I" ∈ wsL_law := win_wsL_law_r4 _ (List.mem_of_getElem? (i := 15) rfl)
theorem ml_X1_30 : Cond.methodLink RX1 30 yX1_placeOf ∈ wsL_law := win_wsL_law_r4 _ (List.mem_of_getElem? (i := 16) rfl)
theorem im_X1_placeOf : Cond.instanceMethod yX1_placeOf ∈ wsL_law := win_wsL_law_r4 _ (List.mem_of_getElem? (i := 17) rfl)
theorem se_X1_placeOf : Cond.selects RX1 yX1_placeOf yX1_placeOf ∈ wsL_law := win_wsL_law_r4 _ (List.mem_of_getElem? (i := 18) rfl)
theorem co_X1_placeOf : Cond.code yX1_placeOf cX1_placeOf 2 (some .int) ∈ wsL_law := win_wsL_law_r4 _ (List.mem_of_getElem? (i := 19) rfl)
theorem ml_X1_21 : Cond.methodLink RX1 21 yJ9_floorMod_7cf53 ∈ wsL_law := win_wsL_law_r4 _ (List.mem_of_getElem? (i := 20) rfl)
theorem sm_J9_floorMod_7cf53 : Cond.static yJ9_floorMod_7cf53 ∈ wsL_law := win_wsL_law_r4 _ (List.mem_of_getElem? (i := 21) rfl)
theorem it_RJ9 : Cond.initialized "java/lang/Math" ∈ wsL_law := win_wsL_law_r4 _ (List.mem_of_getElem? (i := 22) rfl)
theorem co_J9_floorMod_7cf53 : Cond.code yJ9_floorMod_7cf53 cJ9_floorMod_7cf53 3 (some .int) ∈ wsL_law := win_wsL_law_r4 _ (List.mem_of_getElem? (i := 23) rfl)
theorem ml_X1_34 : Cond.methodLink RX1 34 yX3_init ∈ wsL_law := win_wsL_law_r5 _ (List.mem_of_getElem? (i := 0) rfl)
theorem ml_X1_35 : Cond.methodLink RX1 35 yX3_becomeLike ∈ wsL_law := win_wsL_law_r5 _ (List.mem_of_getElem? (i := 1) rfl)
theorem im_X3_becomeLike : Cond.instanceMethod yX3_becomeLike ∈ wsL_law := win_wsL_law_r5 _ (List.mem_of_getElem? (i := 2) rfl)
theorem se_X3_becomeLike : Cond.selects RX3 yX3_becomeLike yX3_becomeLike ∈ wsL_law := win_wsL_law_r5 _ (List.mem_of_getElem? (i := 3) rfl)
theorem co_X3_becomeLike : Cond.code yX3_becomeLike cX3_becomeLike 2 none ∈ wsL_law := win_wsL_law_r5 _ (List.mem_of_getElem? (i := 4) rfl)
theorem ml_X3_40 : Cond.methodLink RX3 40 arraycopyName ∈ wsL_law := win_wsL_law_r5 _ (List.mem_of_getElem? (i := 5) rfl)
theorem sm_arraycopyName : Cond.static arraycopyName ∈ wsL_law := win_wsL_law_r5 _ (List.mem_of_getElem? (i := 7) rfl)
theorem it_java_lang_System : Cond.initialized "java/lang/System" ∈ wsL_law := win_wsL_law_r5 _ (List.mem_of_getElem? (i := 8) rfl)
theorem fl_X3_50 : Cond.fieldLink RX3 50 "StickRests$Stick" "tellX" "I" ∈ wsL_law := win_wsL_law_r5 _ (List.mem_of_getElem? (i := 9) rfl)
theorem fl_X3_53 : Cond.fieldLink RX3 53 "StickRests$Stick" "tellY" "I" ∈ wsL_law := win_wsL_law_r5 _ (List.mem_of_getElem? (i := 10) rfl)
theorem fl_X3_56 : Cond.fieldLink RX3 56 "StickRests$Stick" "latestX" "I" ∈ wsL_law := win_wsL_law_r5 _ (List.mem_of_getElem? (i := 11) rfl)
theorem fl_X3_59 : Cond.fieldLink RX3 59 "StickRests$Stick" "latestY" "I" ∈ wsL_law := win_wsL_law_r5 _ (List.mem_of_getElem? (i := 12) rfl)
theorem fl_X3_62 : Cond.fieldLink RX3 62 "StickRests$Stick" "still" "I" ∈ wsL_law := win_wsL_law_r5 _ (List.mem_of_getElem? (i := 13) rfl)
theorem fl_X3_65 : Cond.fieldLink RX3 65 "StickRests$Stick" "shaking" "I" ∈ wsL_law := win_wsL_law_r5 _ (List.mem_of_getElem? (i := 14) rfl)
theorem fl_X3_68 : Cond.fieldLink RX3 68 "StickRests$Stick" "samples" "I" ∈ wsL_law := win_wsL_law_r5 _ (List.mem_of_getElem? (i := 15) rfl)
theorem fl_X3_71 : Cond.fieldLink RX3 71 "StickRests$Stick" "letGo" "I" ∈ wsL_law := win_wsL_law_r5 _ (List.mem_of_getElem? (i := 16) rfl)
theorem fl_X3_74 : Cond.fieldLink RX3 74 "StickRests$Stick" "drifted" "I" ∈ wsL_law := win_wsL_law_r5 _ (List.mem_of_getElem? (i := 17) rfl)
theorem fl_X3_77 : Cond.fieldLink RX3 77 "StickRests$Stick" "down" "I" ∈ wsL_law := win_wsL_law_r5 _ (List.mem_of_getElem? (i := 18) rfl)
theorem fl_X3_80 : Cond.fieldLink RX3 80 "StickRests$Stick" "tellingSamples" "I" ∈ wsL_law := win_wsL_law_r5 _ (List.mem_of_getElem? (i := 19) rfl)
theorem fl_X3_83 : Cond.fieldLink RX3 83 "StickRests$Stick" "shakenInZone" "I" ∈ wsL_law := win_wsL_law_r5 _ (List.mem_of_getElem? (i := 20) rfl)
theorem ml_X3_46 : Cond.methodLink RX3 46 yX0_becomeLike ∈ wsL_law := win_wsL_law_r5 _ (List.mem_of_getElem? (i := 21) rfl)
theorem im_X0_becomeLike : Cond.instanceMethod yX0_becomeLike ∈ wsL_law := win_wsL_law_r5 _ (List.mem_of_getElem? (i := 22) rfl)
theorem se_X0_becomeLike : Cond.selects RX0 yX0_becomeLike yX0_becomeLike ∈ wsL_law := win_wsL_law_r5 _ (List.mem_of_getElem? (i := 23) rfl)
theorem co_X0_becomeLike : Cond.code yX0_becomeLike cX0_becomeLike 2 none ∈ wsL_law := win_wsL_law_r6 _ (List.mem_of_getElem? (i := 0) rfl)
theorem ml_X0_25 : Cond.methodLink RX0 25 arraycopyName ∈ wsL_law := win_wsL_law_r6 _ (List.mem_of_getElem? (i := 1) rfl)
theorem fl_X0_31 : Cond.fieldLink RX0 31 "StickRests$Directions" "unlike" "I" ∈ wsL_law := win_wsL_law_r6 _ (List.mem_of_getElem? (i := 2) rfl)
theorem fl_X0_34 : Cond.fieldLink RX0 34 "StickRests$Directions" "run" "I" ∈ wsL_law := win_wsL_law_r6 _ (List.mem_of_getElem? (i := 3) rfl)
theorem ml_X4_48 : Cond.methodLink RX4 48 yX3_changeSetting ∈ wsL_law := win_wsL_law_r6 _ (List.mem_of_getElem? (i := 4) rfl)
theorem im_X3_changeSetting : Cond.instanceMethod yX3_changeSetting ∈ wsL_law := win_wsL_law_r6 _ (List.mem_of_getElem? (i := 5) rfl)
theorem se_X3_changeSetting : Cond.selects RX3 yX3_changeSetting yX3_changeSetting ∈ wsL_law := win_wsL_law_r6 _ (List.mem_of_getElem? (i := 6) rfl)
theorem co_X3_changeSetting : Cond.code yX3_changeSetting cX3_changeSetting 4 (some .int) ∈ wsL_law := win_wsL_law_r6 _ (List.mem_of_getElem? (i := 7) rfl)
theorem ml_L_17 : Cond.methodLink RL 17 yX5_set ∈ wsL_law := win_wsL_law_r6 _ (List.mem_of_getElem? (i := 8) rfl)
theorem im_X5_set : Cond.instanceMethod yX5_set ∈ wsL_law := win_wsL_law_r6 _ (List.mem_of_getElem? (i := 9) rfl)
theorem se_X5_set : Cond.selects RX5 yX5_set yX5_set ∈ wsL_law := win_wsL_law_r6 _ (List.mem_of_getElem? (i := 10) rfl)
theorem co_X5_set : Cond.code yX5_set cX5_set 4 (some .int) ∈ wsL_law := win_wsL_law_r6 _ (List.mem_of_getElem? (i := 11) rfl)
theorem ml_X5_26 : Cond.methodLink RX5 26 yX5_in ∈ wsL_law := win_wsL_law_r6 _ (List.mem_of_getElem? (i := 12) rfl)
theorem sm_X5_in : Cond.static yX5_in ∈ wsL_law := win_wsL_law_r6 _ (List.mem_of_getElem? (i := 13) rfl)
theorem co_X5_in : Cond.code yX5_in cX5_in 3 (some .boolean) ∈ wsL_law := win_wsL_law_r6 _ (List.mem_of_getElem? (i := 14) rfl)
theorem ml_X5_73 : Cond.methodLink RX5 73 yX5_lowOf ∈ wsL_law := win_wsL_law_r6 _ (List.mem_of_getElem? (i := 15) rfl)
theorem sm_X5_lowOf : Cond.static yX5_lowOf ∈ wsL_law := win_wsL_law_r6 _ (List.mem_of_getElem? (i := 16) rfl)
theorem co_X5_lowOf : Cond.code yX5_lowOf cX5_lowOf 1 (some .int) ∈ wsL_law := win_wsL_law_r6 _ (List.mem_of_getElem? (i := 17) rfl)
theorem ml_X5_76 : Cond.methodLink RX5 76 yX5_highOf ∈ wsL_law := win_wsL_law_r6 _ (List.mem_of_getElem? (i := 18) rfl)
theorem sm_X5_highOf : Cond.static yX5_highOf ∈ wsL_law := win_wsL_law_r6 _ (List.mem_of_getElem? (i := 19) rfl)
theorem co_X5_highOf : Cond.code yX5_highOf cX5_highOf 1 (some .int) ∈ wsL_law := win_wsL_law_r6 _ (List.mem_of_getElem? (i := 20) rfl)
theorem ml_X5_79 : Cond.methodLink RX5 79 yX5_remembers ∈ wsL_law := win_wsL_law_r6 _ (List.mem_of_getElem? (i := 21) rfl)
theorem im_X5_remembers : Cond.instanceMethod yX5_remembers ∈ wsL_law := win_wsL_law_r6 _ (List.mem_of_getElem? (i := 22) rfl)
theorem se_X5_remembers : Cond.selects RX5 yX5_remembers yX5_remembers ∈ wsL_law := win_wsL_law_r6 _ (List.mem_of_getElem? (i := 23) rfl)
theorem co_X5_remembers : Cond.code yX5_remembers cX5_remembers 2 none ∈ wsL_law := win_wsL_law_r7 _ (List.mem_of_getElem? (i := 0) rfl)
theorem fl_X5_30 : Cond.fieldLink RX5 30 "StickRestsModel" "known" "I" ∈ wsL_law := win_wsL_law_r7 _ (List.mem_of_getElem? (i := 1) rfl)
theorem ml_L_18 : Cond.methodLink RL 18 yX4_sample ∈ wsL_law := win_wsL_law_r7 _ (List.mem_of_getElem? (i := 2) rfl)
theorem im_X4_sample : Cond.instanceMethod yX4_sample ∈ wsL_law := win_wsL_law_r7 _ (List.mem_of_getElem? (i := 3) rfl)
theorem se_X4_sample : Cond.selects RX4 yX4_sample yX4_sample ∈ wsL_law := win_wsL_law_r7 _ (List.mem_of_getElem? (i := 4) rfl)
theorem co_X4_sample : Cond.code yX4_sample cX4_sample 3 (some .int) ∈ wsL_law := win_wsL_law_r7 _ (List.mem_of_getElem? (i := 5) rfl)
theorem ml_X4_52 : Cond.methodLink RX4 52 yX4_takeAlike ∈ wsL_law := win_wsL_law_r7 _ (List.mem_of_getElem? (i := 6) rfl)
theorem im_X4_takeAlike : Cond.instanceMethod yX4_takeAlike ∈ wsL_law := win_wsL_law_r7 _ (List.mem_of_getElem? (i := 7) rfl)
theorem se_X4_takeAlike : Cond.selects RX4 yX4_takeAlike yX4_takeAlike ∈ wsL_law := win_wsL_law_r7 _ (List.mem_of_getElem? (i := 8) rfl)
theorem co_X4_takeAlike : Cond.code yX4_takeAlike cX4_takeAlike 6 (some .int) ∈ wsL_law := win_wsL_law_r7 _ (List.mem_of_getElem? (i := 9) rfl)
theorem ml_X4_56 : Cond.methodLink RX4 56 yX3_refusalOfSamples ∈ wsL_law := win_wsL_law_r7 _ (List.mem_of_getElem? (i := 10) rfl)
theorem im_X3_refusalOfSamples : Cond.instanceMethod yX3_refusalOfSamples ∈ wsL_law := win_wsL_law_r7 _ (List.mem_of_getElem? (i := 11) rfl)
theorem se_X3_refusalOfSamples : Cond.selects RX3 yX3_refusalOfSamples yX3_refusalOfSamples ∈ wsL_law := win_wsL_law_r7 _ (List.mem_of_getElem? (i := 12) rfl)
theorem co_X3_refusalOfSamples : Cond.code yX3_refusalOfSamples cX3_refusalOfSamples 4 (some .int) ∈ wsL_law := win_wsL_law_r7 _ (List.mem_of_getElem? (i := 13) rfl)
theorem sm_X4_isSample : Cond.static yX4_isSample ∈ wsL_law := win_wsL_law_r7 _ (List.mem_of_getElem? (i := 14) rfl)
theorem co_X4_isSample : Cond.code yX4_isSample cX4_isSample 2 (some .boolean) ∈ wsL_law := win_wsL_law_r7 _ (List.mem_of_getElem? (i := 15) rfl)
theorem ml_X4_59 : Cond.methodLink RX4 59 yX3_take ∈ wsL_law := win_wsL_law_r7 _ (List.mem_of_getElem? (i := 16) rfl)
theorem im_X3_take : Cond.instanceMethod yX3_take ∈ wsL_law := win_wsL_law_r7 _ (List.mem_of_getElem? (i := 17) rfl)
theorem se_X3_take : Cond.selects RX3 yX3_take yX3_take ∈ wsL_law := win_wsL_law_r7 _ (List.mem_of_getElem? (i := 18) rfl)
theorem co_X3_take : Cond.code yX3_take cX3_take 6 none ∈ wsL_law := win_wsL_law_r7 _ (List.mem_of_getElem? (i := 19) rfl)
theorem ml_X3_135 : Cond.methodLink RX3 135 yX3_tellingAt ∈ wsL_law := win_wsL_law_r7 _ (List.mem_of_getElem? (i := 20) rfl)
theorem im_X3_tellingAt : Cond.instanceMethod yX3_tellingAt ∈ wsL_law := win_wsL_law_r7 _ (List.mem_of_getElem? (i := 21) rfl)
theorem se_X3_tellingAt : Cond.selects RX3 yX3_tellingAt yX3_tellingAt ∈ wsL_law := win_wsL_law_r7 _ (List.mem_of_getElem? (i := 22) rfl)
theorem co_X3_tellingAt : Cond.code yX3_tellingAt cX3_tellingAt 7 (some .int) ∈ wsL_law := win_wsL_law_r7 _ (List.mem_of_getElem? (i := 23) rfl)
theorem ml_X3_86 : Cond.methodLink RX3 86 Lib.Math.abs.name ∈ wsL_law := win_wsL_law_r8 _ (List.mem_of_getElem? (i := 0) rfl)
theorem sm_Lib_Math_abs_name : Cond.static Lib.Math.abs.name ∈ wsL_law := win_wsL_law_r8 _ (List.mem_of_getElem? (i := 1) rfl)
theorem co_Lib_Math_abs_name : Cond.code Lib.Math.abs.name Lib.Math.abs.code 1 (some .int) ∈ wsL_law := win_wsL_law_r8 _ (List.mem_of_getElem? (i := 3) rfl)
theorem ml_X3_114 : Cond.methodLink RX3 114 yX3_farthestOff ∈ wsL_law := win_wsL_law_r8 _ (List.mem_of_getElem? (i := 4) rfl)
theorem im_X3_farthestOff : Cond.instanceMethod yX3_farthestOff ∈ wsL_law := win_wsL_law_r8 _ (List.mem_of_getElem? (i := 5) rfl)
theorem se_X3_farthestOff : Cond.selects RX3 yX3_farthestOff yX3_farthestOff ∈ wsL_law := win_wsL_law_r8 _ (List.mem_of_getElem? (i := 6) rfl)
theorem co_X3_farthestOff : Cond.code yX3_farthestOff cX3_farthestOff 3 (some .int) ∈ wsL_law := win_wsL_law_r8 _ (List.mem_of_getElem? (i := 7) rfl)
theorem ml_X3_110 : Cond.methodLink RX3 110 Lib.Math.max.name ∈ wsL_law := win_wsL_law_r8 _ (List.mem_of_getElem? (i := 8) rfl)
theorem sm_Lib_Math_max_name : Cond.static Lib.Math.max.name ∈ wsL_law := win_wsL_law_r8 _ (List.mem_of_getElem? (i := 9) rfl)
theorem co_Lib_Math_max_name : Cond.code Lib.Math.max.name Lib.Math.max.code 2 (some .int) ∈ wsL_law := win_wsL_law_r8 _ (List.mem_of_getElem? (i := 10) rfl)
theorem ml_X3_120 : Cond.methodLink RX3 120 yX3_wouldDrift ∈ wsL_law := win_wsL_law_r8 _ (List.mem_of_getElem? (i := 11) rfl)
theorem im_X3_wouldDrift : Cond.instanceMethod yX3_wouldDrift ∈ wsL_law := win_wsL_law_r8 _ (List.mem_of_getElem? (i := 12) rfl)
theorem se_X3_wouldDrift : Cond.selects RX3 yX3_wouldDrift yX3_wouldDrift ∈ wsL_law := win_wsL_law_r8 _ (List.mem_of_getElem? (i := 13) rfl)
theorem co_X3_wouldDrift : Cond.code yX3_wouldDrift cX3_wouldDrift 4 (some .boolean) ∈ wsL_law := win_wsL_law_r8 _ (List.mem_of_getElem? (i := 14) rfl)
theorem ml_X3_117 : Cond.methodLink RX3 117 yX3_stillWith ∈ wsL_law := win_wsL_law_r8 _ (List.mem_of_getElem? (i := 15) rfl)
theorem im_X3_stillWith : Cond.instanceMethod yX3_stillWith ∈ wsL_law := win_wsL_law_r8 _ (List.mem_of_getElem? (i := 16) rfl)
theorem se_X3_stillWith : Cond.selects RX3 yX3_stillWith yX3_stillWith ∈ wsL_law := win_wsL_law_r8 _ (List.mem_of_getElem? (i := 17) rfl)
theorem co_X3_stillWith : Cond.code yX3_stillWith cX3_stillWith 4 (some .int) ∈ wsL_law := win_wsL_law_r8 _ (List.mem_of_getElem? (i := 18) rfl)
theorem sm_X4_packed : Cond.static yX4_packed ∈ wsL_law := win_wsL_law_r8 _ (List.mem_of_getElem? (i := 19) rfl)
theorem co_X4_packed : Cond.code yX4_packed cX4_packed 2 (some .int) ∈ wsL_law := win_wsL_law_r8 _ (List.mem_of_getElem? (i := 20) rfl)
theorem ml_X3_103 : Cond.methodLink RX3 103 yX3_restPlaceX ∈ wsL_law := win_wsL_law_r8 _ (List.mem_of_getElem? (i := 21) rfl)
theorem im_X3_restPlaceX : Cond.instanceMethod yX3_restPlaceX ∈ wsL_law := win_wsL_law_r8 _ (List.mem_of_getElem? (i := 22) rfl)
theorem se_X3_restPlaceX : Cond.selects RX3 yX3_restPlaceX yX3_restPlaceX ∈ wsL_law := win_wsL_law_r8 _ (List.mem_of_getElem? (i := 23) rfl)
theorem co_X3_restPlaceX : Cond.code yX3_restPlaceX cX3_restPlaceX 1 (some .int) ∈ wsL_law := win_wsL_law_r9 _ (List.mem_of_getElem? (i := 0) rfl)
theorem ml_X3_126 : Cond.methodLink RX3 126 yX3_leanOf ∈ wsL_law := win_wsL_law_r9 _ (List.mem_of_getElem? (i := 1) rfl)
theorem im_X3_leanOf : Cond.instanceMethod yX3_leanOf ∈ wsL_law := win_wsL_law_r9 _ (List.mem_of_getElem? (i := 2) rfl)
theorem se_X3_leanOf : Cond.selects RX3 yX3_leanOf yX3_leanOf ∈ wsL_law := win_wsL_law_r9 _ (List.mem_of_getElem? (i := 3) rfl)
theorem co_X3_leanOf : Cond.code yX3_leanOf cX3_leanOf 4 (some .int) ∈ wsL_law := win_wsL_law_r9 _ (List.mem_of_getElem? (i := 4) rfl)
theorem ml_X3_132 : Cond.methodLink RX3 132 Lib.Math.min.name ∈ wsL_law := win_wsL_law_r9 _ (List.mem_of_getElem? (i := 5) rfl)
theorem sm_Lib_Math_min_name : Cond.static Lib.Math.min.name ∈ wsL_law := win_wsL_law_r9 _ (List.mem_of_getElem? (i := 6) rfl)
theorem co_Lib_Math_min_name : Cond.code Lib.Math.min.name Lib.Math.min.code 2 (some .int) ∈ wsL_law := win_wsL_law_r9 _ (List.mem_of_getElem? (i := 7) rfl)
theorem sm_X4_quotient : Cond.static yX4_quotient ∈ wsL_law := win_wsL_law_r9 _ (List.mem_of_getElem? (i := 8) rfl)
theorem co_X4_quotient : Cond.code yX4_quotient cX4_quotient 2 (some .int) ∈ wsL_law := win_wsL_law_r9 _ (List.mem_of_getElem? (i := 9) rfl)
theorem ml_X3_107 : Cond.methodLink RX3 107 yX3_restPlaceY ∈ wsL_law := win_wsL_law_r9 _ (List.mem_of_getElem? (i := 10) rfl)
theorem im_X3_restPlaceY : Cond.instanceMethod yX3_restPlaceY ∈ wsL_law := win_wsL_law_r9 _ (List.mem_of_getElem? (i := 11) rfl)
theorem se_X3_restPlaceY : Cond.selects RX3 yX3_restPlaceY yX3_restPlaceY ∈ wsL_law := win_wsL_law_r9 _ (List.mem_of_getElem? (i := 12) rfl)
theorem co_X3_restPlaceY : Cond.code yX3_restPlaceY cX3_restPlaceY 1 (some .int) ∈ wsL_law := win_wsL_law_r9 _ (List.mem_of_getElem? (i := 13) rfl)
theorem ml_X3_138 : Cond.methodLink RX3 138 yX3_comeToRest ∈ wsL_law := win_wsL_law_r9 _ (List.mem_of_getElem? (i := 14) rfl)
theorem im_X3_comeToRest : Cond.instanceMethod yX3_comeToRest ∈ wsL_law := win_wsL_law_r9 _ (List.mem_of_getElem? (i := 15) rfl)
theorem se_X3_comeToRest : Cond.selects RX3 yX3_comeToRest yX3_comeToRest ∈ wsL_law := win_wsL_law_r9 _ (List.mem_of_getElem? (i := 16) rfl)
theorem co_X3_comeToRest : Cond.code yX3_comeToRest cX3_comeToRest 3 none ∈ wsL_law := win_wsL_law_r9 _ (List.mem_of_getElem? (i := 17) rfl)
theorem ml_X3_149 : Cond.methodLink RX3 149 yX3_tellsSomething ∈ wsL_law := win_wsL_law_r9 _ (List.mem_of_getElem? (i := 18) rfl)
theorem im_X3_tellsSomething : Cond.instanceMethod yX3_tellsSomething ∈ wsL_law := win_wsL_law_r9 _ (List.mem_of_getElem? (i := 19) rfl)
theorem se_X3_tellsSomething : Cond.selects RX3 yX3_tellsSomething yX3_tellsSomething ∈ wsL_law := win_wsL_law_r9 _ (List.mem_of_getElem? (i := 20) rfl)
theorem co_X3_tellsSomething : Cond.code yX3_tellsSomething cX3_tellsSomething 1 (some .boolean) ∈ wsL_law := win_wsL_law_r9 _ (List.mem_of_getElem? (i := 21) rfl)
theorem ml_X3_161 : Cond.methodLink RX3 161 yX3_fitZone ∈ wsL_law := win_wsL_law_r9 _ (List.mem_of_getElem? (i := 22) rfl)
theorem im_X3_fitZone : Cond.instanceMethod yX3_fitZone ∈ wsL_law := win_wsL_law_r9 _ (List.mem_of_getElem? (i := 23) rfl)
theorem se_X3_fitZone : Cond.selects RX3 yX3_fitZone yX3_fitZone ∈ wsL_law := win_wsL_law_r10 _ (List.mem_of_getElem? (i := 0) rfl)
theorem co_X3_fitZone : Cond.code yX3_fitZone cX3_fitZone 2 none ∈ wsL_law := win_wsL_law_r10 _ (List.mem_of_getElem? (i := 1) rfl)
theorem ml_X3_142 : Cond.methodLink RX3 142 yX3_driftTo ∈ wsL_law := win_wsL_law_r10 _ (List.mem_of_getElem? (i := 2) rfl)
theorem im_X3_driftTo : Cond.instanceMethod yX3_driftTo ∈ wsL_law := win_wsL_law_r10 _ (List.mem_of_getElem? (i := 3) rfl)
theorem se_X3_driftTo : Cond.selects RX3 yX3_driftTo yX3_driftTo ∈ wsL_law := win_wsL_law_r10 _ (List.mem_of_getElem? (i := 4) rfl)
theorem co_X3_driftTo : Cond.code yX3_driftTo cX3_driftTo 3 none ∈ wsL_law := win_wsL_law_r10 _ (List.mem_of_getElem? (i := 5) rfl)
theorem ml_X3_145 : Cond.methodLink RX3 145 yX3_tell ∈ wsL_law := win_wsL_law_r10 _ (List.mem_of_getElem? (i := 6) rfl)
theorem im_X3_tell : Cond.instanceMethod yX3_tell ∈ wsL_law := win_wsL_law_r10 _ (List.mem_of_getElem? (i := 7) rfl)
theorem se_X3_tell : Cond.selects RX3 yX3_tell yX3_tell ∈ wsL_law := win_wsL_law_r10 _ (List.mem_of_getElem? (i := 8) rfl)
theorem co_X3_tell : Cond.code yX3_tell cX3_tell 2 none ∈ wsL_law := win_wsL_law_r10 _ (List.mem_of_getElem? (i := 9) rfl)
theorem ml_X3_153 : Cond.methodLink RX3 153 yJ6_compare_7cf53 ∈ wsL_law := win_wsL_law_r10 _ (List.mem_of_getElem? (i := 10) rfl)
theorem sm_J6_compare_7cf53 : Cond.static yJ6_compare_7cf53 ∈ wsL_law := win_wsL_law_r10 _ (List.mem_of_getElem? (i := 11) rfl)
theorem it_RJ6 : Cond.initialized "java/lang/Integer" ∈ wsL_law := win_wsL_law_r10 _ (List.mem_of_getElem? (i := 12) rfl)
theorem co_J6_compare_7cf53 : Cond.code yJ6_compare_7cf53 cJ6_compare_7cf53 2 (some .int) ∈ wsL_law := win_wsL_law_r10 _ (List.mem_of_getElem? (i := 13) rfl)
theorem ml_X3_158 : Cond.methodLink RX3 158 yX0_note ∈ wsL_law := win_wsL_law_r10 _ (List.mem_of_getElem? (i := 14) rfl)
theorem im_X0_note : Cond.instanceMethod yX0_note ∈ wsL_law := win_wsL_law_r10 _ (List.mem_of_getElem? (i := 15) rfl)
theorem se_X0_note : Cond.selects RX0 yX0_note yX0_note ∈ wsL_law := win_wsL_law_r10 _ (List.mem_of_getElem? (i := 16) rfl)
theorem co_X0_note : Cond.code yX0_note cX0_note 4 none ∈ wsL_law := win_wsL_law_r10 _ (List.mem_of_getElem? (i := 17) rfl)
theorem ml_X0_37 : Cond.methodLink RX0 37 Lib.Math.max.name ∈ wsL_law := win_wsL_law_r10 _ (List.mem_of_getElem? (i := 18) rfl)
theorem ml_X4_63 : Cond.methodLink RX4 63 yX3_telling ∈ wsL_law := win_wsL_law_r10 _ (List.mem_of_getElem? (i := 19) rfl)
theorem im_X3_telling : Cond.instanceMethod yX3_telling ∈ wsL_law := win_wsL_law_r10 _ (List.mem_of_getElem? (i := 20) rfl)
theorem se_X3_telling : Cond.selects RX3 yX3_telling yX3_telling ∈ wsL_law := win_wsL_law_r10 _ (List.mem_of_getElem? (i := 21) rfl)
theorem co_X3_telling : Cond.code yX3_telling cX3_telling 1 (some .int) ∈ wsL_law := win_wsL_law_r10 _ (List.mem_of_getElem? (i := 22) rfl)
theorem ml_L_21 : Cond.methodLink RL 21 yX5_sample ∈ wsL_law := win_wsL_law_r10 _ (List.mem_of_getElem? (i := 23) rfl)
theorem im_X5_sample : Cond.instanceMethod yX5_sample ∈ wsL_law := win_wsL_law_r11 _ (List.mem_of_getElem? (i := 0) rfl)
theorem se_X5_sample : Cond.selects RX5 yX5_sample yX5_sample ∈ wsL_law := win_wsL_law_r11 _ (List.mem_of_getElem? (i := 1) rfl)
theorem co_X5_sample : Cond.code yX5_sample cX5_sample 4 (some .int) ∈ wsL_law := win_wsL_law_r11 _ (List.mem_of_getElem? (i := 2) rfl)
theorem ml_X5_86 : Cond.methodLink RX5 86 yX5_whyNot ∈ wsL_law := win_wsL_law_r11 _ (List.mem_of_getElem? (i := 3) rfl)
theorem im_X5_whyNot : Cond.instanceMethod yX5_whyNot ∈ wsL_law := win_wsL_law_r11 _ (List.mem_of_getElem? (i := 4) rfl)
theorem se_X5_whyNot : Cond.selects RX5 yX5_whyNot yX5_whyNot ∈ wsL_law := win_wsL_law_r11 _ (List.mem_of_getElem? (i := 5) rfl)
theorem co_X5_whyNot : Cond.code yX5_whyNot cX5_whyNot 4 (some .int) ∈ wsL_law := win_wsL_law_r11 _ (List.mem_of_getElem? (i := 6) rfl)
theorem ml_X5_82 : Cond.methodLink RX5 82 yX5_areRight ∈ wsL_law := win_wsL_law_r11 _ (List.mem_of_getElem? (i := 7) rfl)
theorem sm_X5_areRight : Cond.static yX5_areRight ∈ wsL_law := win_wsL_law_r11 _ (List.mem_of_getElem? (i := 8) rfl)
theorem co_X5_areRight : Cond.code yX5_areRight cX5_areRight 2 (some .boolean) ∈ wsL_law := win_wsL_law_r11 _ (List.mem_of_getElem? (i := 9) rfl)
theorem ml_X5_89 : Cond.methodLink RX5 89 yX5_samples ∈ wsL_law := win_wsL_law_r11 _ (List.mem_of_getElem? (i := 10) rfl)
theorem im_X5_samples : Cond.instanceMethod yX5_samples ∈ wsL_law := win_wsL_law_r11 _ (List.mem_of_getElem? (i := 11) rfl)
theorem se_X5_samples : Cond.selects RX5 yX5_samples yX5_samples ∈ wsL_law := win_wsL_law_r11 _ (List.mem_of_getElem? (i := 12) rfl)
theorem co_X5_samples : Cond.code yX5_samples cX5_samples 5 none ∈ wsL_law := win_wsL_law_r11 _ (List.mem_of_getElem? (i := 13) rfl)
theorem ml_X5_38 : Cond.methodLink RX5 38 yX5_size ∈ wsL_law := win_wsL_law_r11 _ (List.mem_of_getElem? (i := 14) rfl)
theorem sm_X5_size : Cond.static yX5_size ∈ wsL_law := win_wsL_law_r11 _ (List.mem_of_getElem? (i := 15) rfl)
theorem co_X5_size : Cond.code yX5_size cX5_size 1 (some .int) ∈ wsL_law := win_wsL_law_r11 _ (List.mem_of_getElem? (i := 16) rfl)
theorem ml_X5_50 : Cond.methodLink RX5 50 yX5_far ∈ wsL_law := win_wsL_law_r11 _ (List.mem_of_getElem? (i := 17) rfl)
theorem im_X5_far : Cond.instanceMethod yX5_far ∈ wsL_law := win_wsL_law_r11 _ (List.mem_of_getElem? (i := 18) rfl)
theorem se_X5_far : Cond.selects RX5 yX5_far yX5_far ∈ wsL_law := win_wsL_law_r11 _ (List.mem_of_getElem? (i := 19) rfl)
theorem co_X5_far : Cond.code yX5_far cX5_far 4 (some .int) ∈ wsL_law := win_wsL_law_r11 _ (List.mem_of_getElem? (i := 20) rfl)
theorem ml_X5_34 : Cond.methodLink RX5 34 yX5_off ∈ wsL_law := win_wsL_law_r11 _ (List.mem_of_getElem? (i := 21) rfl)
theorem im_X5_off : Cond.instanceMethod yX5_off ∈ wsL_law := win_wsL_law_r11 _ (List.mem_of_getElem? (i := 22) rfl)
theorem se_X5_off : Cond.selects RX5 yX5_off yX5_off ∈ wsL_law := win_wsL_law_r11 _ (List.mem_of_getElem? (i := 23) rfl)
theorem co_X5_off : Cond.code yX5_off cX5_off 4 (some .int) ∈ wsL_law := win_wsL_law_r12 _ (List.mem_of_getElem? (i := 0) rfl)
theorem ml_X5_42 : Cond.methodLink RX5 42 yX5_greater ∈ wsL_law := win_wsL_law_r12 _ (List.mem_of_getElem? (i := 1) rfl)
theorem sm_X5_greater : Cond.static yX5_greater ∈ wsL_law := win_wsL_law_r12 _ (List.mem_of_getElem? (i := 2) rfl)
theorem co_X5_greater : Cond.code yX5_greater cX5_greater 2 (some .int) ∈ wsL_law := win_wsL_law_r12 _ (List.mem_of_getElem? (i := 3) rfl)
theorem ml_X5_63 : Cond.methodLink RX5 63 yX5_rests ∈ wsL_law := win_wsL_law_r12 _ (List.mem_of_getElem? (i := 4) rfl)
theorem im_X5_rests : Cond.instanceMethod yX5_rests ∈ wsL_law := win_wsL_law_r12 _ (List.mem_of_getElem? (i := 5) rfl)
theorem se_X5_rests : Cond.selects RX5 yX5_rests yX5_rests ∈ wsL_law := win_wsL_law_r12 _ (List.mem_of_getElem? (i := 6) rfl)
theorem co_X5_rests : Cond.code yX5_rests cX5_rests 6 none ∈ wsL_law := win_wsL_law_r12 _ (List.mem_of_getElem? (i := 7) rfl)
theorem ml_X5_46 : Cond.methodLink RX5 46 yX5_isTelling ∈ wsL_law := win_wsL_law_r12 _ (List.mem_of_getElem? (i := 8) rfl)
theorem im_X5_isTelling : Cond.instanceMethod yX5_isTelling ∈ wsL_law := win_wsL_law_r12 _ (List.mem_of_getElem? (i := 9) rfl)
theorem se_X5_isTelling : Cond.selects RX5 yX5_isTelling yX5_isTelling ∈ wsL_law := win_wsL_law_r12 _ (List.mem_of_getElem? (i := 10) rfl)
theorem co_X5_isTelling : Cond.code yX5_isTelling cX5_isTelling 2 (some .boolean) ∈ wsL_law := win_wsL_law_r12 _ (List.mem_of_getElem? (i := 11) rfl)
theorem ml_X5_53 : Cond.methodLink RX5 53 yX5_learns ∈ wsL_law := win_wsL_law_r12 _ (List.mem_of_getElem? (i := 12) rfl)
theorem im_X5_learns : Cond.instanceMethod yX5_learns ∈ wsL_law := win_wsL_law_r12 _ (List.mem_of_getElem? (i := 13) rfl)
theorem se_X5_learns : Cond.selects RX5 yX5_learns yX5_learns ∈ wsL_law := win_wsL_law_r12 _ (List.mem_of_getElem? (i := 14) rfl)
theorem co_X5_learns : Cond.code yX5_learns cX5_learns 4 none ∈ wsL_law := win_wsL_law_r12 _ (List.mem_of_getElem? (i := 15) rfl)
theorem ml_X5_66 : Cond.methodLink RX5 66 yX5_tells ∈ wsL_law := win_wsL_law_r12 _ (List.mem_of_getElem? (i := 16) rfl)
theorem im_X5_tells : Cond.instanceMethod yX5_tells ∈ wsL_law := win_wsL_law_r12 _ (List.mem_of_getElem? (i := 17) rfl)
theorem se_X5_tells : Cond.selects RX5 yX5_tells yX5_tells ∈ wsL_law := win_wsL_law_r12 _ (List.mem_of_getElem? (i := 18) rfl)
theorem co_X5_tells : Cond.code yX5_tells cX5_tells 9 none ∈ wsL_law := win_wsL_law_r12 _ (List.mem_of_getElem? (i := 19) rfl)
theorem ml_X5_57 : Cond.methodLink RX5 57 yX5_axis ∈ wsL_law := win_wsL_law_r12 _ (List.mem_of_getElem? (i := 20) rfl)
theorem im_X5_axis : Cond.instanceMethod yX5_axis ∈ wsL_law := win_wsL_law_r12 _ (List.mem_of_getElem? (i := 21) rfl)
theorem se_X5_axis : Cond.selects RX5 yX5_axis yX5_axis ∈ wsL_law := win_wsL_law_r12 _ (List.mem_of_getElem? (i := 22) rfl)
theorem co_X5_axis : Cond.code yX5_axis cX5_axis 5 (some .int) ∈ wsL_law := win_wsL_law_r12 _ (List.mem_of_getElem? (i := 23) rfl)
theorem ml_X5_69 : Cond.methodLink RX5 69 yX5_counts ∈ wsL_law := win_wsL_law_r13 _ (List.mem_of_getElem? (i := 0) rfl)
theorem im_X5_counts : Cond.instanceMethod yX5_counts ∈ wsL_law := win_wsL_law_r13 _ (List.mem_of_getElem? (i := 1) rfl)
theorem se_X5_counts : Cond.selects RX5 yX5_counts yX5_counts ∈ wsL_law := win_wsL_law_r13 _ (List.mem_of_getElem? (i := 2) rfl)
theorem co_X5_counts : Cond.code yX5_counts cX5_counts 6 none ∈ wsL_law := win_wsL_law_r13 _ (List.mem_of_getElem? (i := 3) rfl)
theorem ml_X5_60 : Cond.methodLink RX5 60 yX5_sign ∈ wsL_law := win_wsL_law_r13 _ (List.mem_of_getElem? (i := 4) rfl)
theorem sm_X5_sign : Cond.static yX5_sign ∈ wsL_law := win_wsL_law_r13 _ (List.mem_of_getElem? (i := 5) rfl)
theorem co_X5_sign : Cond.code yX5_sign cX5_sign 1 (some .int) ∈ wsL_law := win_wsL_law_r13 _ (List.mem_of_getElem? (i := 6) rfl)
theorem ml_X5_92 : Cond.methodLink RX5 92 yX5_told ∈ wsL_law := win_wsL_law_r13 _ (List.mem_of_getElem? (i := 7) rfl)
theorem im_X5_told : Cond.instanceMethod yX5_told ∈ wsL_law := win_wsL_law_r13 _ (List.mem_of_getElem? (i := 8) rfl)
theorem se_X5_told : Cond.selects RX5 yX5_told yX5_told ∈ wsL_law := win_wsL_law_r13 _ (List.mem_of_getElem? (i := 9) rfl)
theorem co_X5_told : Cond.code yX5_told cX5_told 2 (some .int) ∈ wsL_law := win_wsL_law_r13 _ (List.mem_of_getElem? (i := 10) rfl)
theorem ml_L_22 : Cond.methodLink RL 22 yX4_hold ∈ wsL_law := win_wsL_law_r13 _ (List.mem_of_getElem? (i := 11) rfl)
theorem im_X4_hold : Cond.instanceMethod yX4_hold ∈ wsL_law := win_wsL_law_r13 _ (List.mem_of_getElem? (i := 12) rfl)
theorem se_X4_hold : Cond.selects RX4 yX4_hold yX4_hold ∈ wsL_law := win_wsL_law_r13 _ (List.mem_of_getElem? (i := 13) rfl)
theorem co_X4_hold : Cond.code yX4_hold cX4_hold 4 (some .int) ∈ wsL_law := win_wsL_law_r13 _ (List.mem_of_getElem? (i := 14) rfl)
theorem ml_L_26 : Cond.methodLink RL 26 yX5_hold ∈ wsL_law := win_wsL_law_r13 _ (List.mem_of_getElem? (i := 15) rfl)
theorem im_X5_hold : Cond.instanceMethod yX5_hold ∈ wsL_law := win_wsL_law_r13 _ (List.mem_of_getElem? (i := 16) rfl)
theorem se_X5_hold : Cond.selects RX5 yX5_hold yX5_hold ∈ wsL_law := win_wsL_law_r13 _ (List.mem_of_getElem? (i := 17) rfl)
theorem co_X5_hold : Cond.code yX5_hold cX5_hold 6 (some .int) ∈ wsL_law := win_wsL_law_r13 _ (List.mem_of_getElem? (i := 18) rfl)
theorem ml_L_27 : Cond.methodLink RL 27 yX4_press ∈ wsL_law := win_wsL_law_r13 _ (List.mem_of_getElem? (i := 19) rfl)
theorem im_X4_press : Cond.instanceMethod yX4_press ∈ wsL_law := win_wsL_law_r13 _ (List.mem_of_getElem? (i := 20) rfl)
theorem se_X4_press : Cond.selects RX4 yX4_press yX4_press ∈ wsL_law := win_wsL_law_r13 _ (List.mem_of_getElem? (i := 21) rfl)
theorem co_X4_press : Cond.code yX4_press cX4_press 3 (some .int) ∈ wsL_law := win_wsL_law_r13 _ (List.mem_of_getElem? (i := 22) rfl)
theorem ml_X4_67 : Cond.methodLink RX4 67 yX3_refusalOfPress ∈ wsL_law := win_wsL_law_r13 _ (List.mem_of_getElem? (i := 23) rfl)
theorem im_X3_refusalOfPress : Cond.instanceMethod yX3_refusalOfPress ∈ wsL_law := win_wsL_law_r14 _ (List.mem_of_getElem? (i := 0) rfl)
theorem se_X3_refusalOfPress : Cond.selects RX3 yX3_refusalOfPress yX3_refusalOfPress ∈ wsL_law := win_wsL_law_r14 _ (List.mem_of_getElem? (i := 1) rfl)
theorem co_X3_refusalOfPress : Cond.code yX3_refusalOfPress cX3_refusalOfPress 2 (some .int) ∈ wsL_law := win_wsL_law_r14 _ (List.mem_of_getElem? (i := 2) rfl)
theorem ml_X3_92 : Cond.methodLink RX3 92 yX3_isButton ∈ wsL_law := win_wsL_law_r14 _ (List.mem_of_getElem? (i := 3) rfl)
theorem sm_X3_isButton : Cond.static yX3_isButton ∈ wsL_law := win_wsL_law_r14 _ (List.mem_of_getElem? (i := 4) rfl)
theorem co_X3_isButton : Cond.code yX3_isButton cX3_isButton 1 (some .boolean) ∈ wsL_law := win_wsL_law_r14 _ (List.mem_of_getElem? (i := 5) rfl)
theorem ml_X3_96 : Cond.methodLink RX3 96 yX3_isDown ∈ wsL_law := win_wsL_law_r14 _ (List.mem_of_getElem? (i := 6) rfl)
theorem im_X3_isDown : Cond.instanceMethod yX3_isDown ∈ wsL_law := win_wsL_law_r14 _ (List.mem_of_getElem? (i := 7) rfl)
theorem se_X3_isDown : Cond.selects RX3 yX3_isDown yX3_isDown ∈ wsL_law := win_wsL_law_r14 _ (List.mem_of_getElem? (i := 8) rfl)
theorem co_X3_isDown : Cond.code yX3_isDown cX3_isDown 2 (some .boolean) ∈ wsL_law := win_wsL_law_r14 _ (List.mem_of_getElem? (i := 9) rfl)
theorem ml_X4_71 : Cond.methodLink RX4 71 yX3_pushDown ∈ wsL_law := win_wsL_law_r14 _ (List.mem_of_getElem? (i := 10) rfl)
theorem im_X3_pushDown : Cond.instanceMethod yX3_pushDown ∈ wsL_law := win_wsL_law_r14 _ (List.mem_of_getElem? (i := 11) rfl)
theorem se_X3_pushDown : Cond.selects RX3 yX3_pushDown yX3_pushDown ∈ wsL_law := win_wsL_law_r14 _ (List.mem_of_getElem? (i := 12) rfl)
theorem co_X3_pushDown : Cond.code yX3_pushDown cX3_pushDown 2 (some .int) ∈ wsL_law := win_wsL_law_r14 _ (List.mem_of_getElem? (i := 13) rfl)
theorem ml_L_31 : Cond.methodLink RL 31 yX5_press ∈ wsL_law := win_wsL_law_r14 _ (List.mem_of_getElem? (i := 14) rfl)
theorem im_X5_press : Cond.instanceMethod yX5_press ∈ wsL_law := win_wsL_law_r14 _ (List.mem_of_getElem? (i := 15) rfl)
theorem se_X5_press : Cond.selects RX5 yX5_press yX5_press ∈ wsL_law := win_wsL_law_r14 _ (List.mem_of_getElem? (i := 16) rfl)
theorem co_X5_press : Cond.code yX5_press cX5_press 3 (some .int) ∈ wsL_law := win_wsL_law_r14 _ (List.mem_of_getElem? (i := 17) rfl)
theorem ml_X5_98 : Cond.methodLink RX5 98 yX5_whyNotPress ∈ wsL_law := win_wsL_law_r14 _ (List.mem_of_getElem? (i := 18) rfl)
theorem im_X5_whyNotPress : Cond.instanceMethod yX5_whyNotPress ∈ wsL_law := win_wsL_law_r14 _ (List.mem_of_getElem? (i := 19) rfl)
theorem se_X5_whyNotPress : Cond.selects RX5 yX5_whyNotPress yX5_whyNotPress ∈ wsL_law := win_wsL_law_r14 _ (List.mem_of_getElem? (i := 20) rfl)
theorem co_X5_whyNotPress : Cond.code yX5_whyNotPress cX5_whyNotPress 3 (some .int) ∈ wsL_law := win_wsL_law_r14 _ (List.mem_of_getElem? (i := 21) rfl)
theorem ml_X5_95 : Cond.methodLink RX5 95 yX5_isDown ∈ wsL_law := win_wsL_law_r14 _ (List.mem_of_getElem? (i := 22) rfl)
theorem im_X5_isDown : Cond.instanceMethod yX5_isDown ∈ wsL_law := win_wsL_law_r14 _ (List.mem_of_getElem? (i := 23) rfl)
theorem se_X5_isDown : Cond.selects RX5 yX5_isDown yX5_isDown ∈ wsL_law := win_wsL_law_r15 _ (List.mem_of_getElem? (i := 0) rfl)
theorem co_X5_isDown : Cond.code yX5_isDown cX5_isDown 2 (some .boolean) ∈ wsL_law := win_wsL_law_r15 _ (List.mem_of_getElem? (i := 1) rfl)
theorem ml_X5_102 : Cond.methodLink RX5 102 yX5_presses ∈ wsL_law := win_wsL_law_r15 _ (List.mem_of_getElem? (i := 2) rfl)
theorem im_X5_presses : Cond.instanceMethod yX5_presses ∈ wsL_law := win_wsL_law_r15 _ (List.mem_of_getElem? (i := 3) rfl)
theorem se_X5_presses : Cond.selects RX5 yX5_presses yX5_presses ∈ wsL_law := win_wsL_law_r15 _ (List.mem_of_getElem? (i := 4) rfl)
theorem co_X5_presses : Cond.code yX5_presses cX5_presses 2 (some .int) ∈ wsL_law := win_wsL_law_r15 _ (List.mem_of_getElem? (i := 5) rfl)
theorem ml_L_32 : Cond.methodLink RL 32 yX4_letUp ∈ wsL_law := win_wsL_law_r15 _ (List.mem_of_getElem? (i := 6) rfl)
theorem im_X4_letUp : Cond.instanceMethod yX4_letUp ∈ wsL_law := win_wsL_law_r15 _ (List.mem_of_getElem? (i := 7) rfl)
theorem se_X4_letUp : Cond.selects RX4 yX4_letUp yX4_letUp ∈ wsL_law := win_wsL_law_r15 _ (List.mem_of_getElem? (i := 8) rfl)
theorem co_X4_letUp : Cond.code yX4_letUp cX4_letUp 3 (some .int) ∈ wsL_law := win_wsL_law_r15 _ (List.mem_of_getElem? (i := 9) rfl)
theorem ml_X4_74 : Cond.methodLink RX4 74 yX3_refusalOfLetUp ∈ wsL_law := win_wsL_law_r15 _ (List.mem_of_getElem? (i := 10) rfl)
theorem im_X3_refusalOfLetUp : Cond.instanceMethod yX3_refusalOfLetUp ∈ wsL_law := win_wsL_law_r15 _ (List.mem_of_getElem? (i := 11) rfl)
theorem se_X3_refusalOfLetUp : Cond.selects RX3 yX3_refusalOfLetUp yX3_refusalOfLetUp ∈ wsL_law := win_wsL_law_r15 _ (List.mem_of_getElem? (i := 12) rfl)
theorem co_X3_refusalOfLetUp : Cond.code yX3_refusalOfLetUp cX3_refusalOfLetUp 2 (some .int) ∈ wsL_law := win_wsL_law_r15 _ (List.mem_of_getElem? (i := 13) rfl)
theorem ml_X4_77 : Cond.methodLink RX4 77 yX3_release ∈ wsL_law := win_wsL_law_r15 _ (List.mem_of_getElem? (i := 14) rfl)
theorem im_X3_release : Cond.instanceMethod yX3_release ∈ wsL_law := win_wsL_law_r15 _ (List.mem_of_getElem? (i := 15) rfl)
theorem se_X3_release : Cond.selects RX3 yX3_release yX3_release ∈ wsL_law := win_wsL_law_r15 _ (List.mem_of_getElem? (i := 16) rfl)
theorem co_X3_release : Cond.code yX3_release cX3_release 2 (some .int) ∈ wsL_law := win_wsL_law_r15 _ (List.mem_of_getElem? (i := 17) rfl)
theorem ml_L_35 : Cond.methodLink RL 35 yX5_letUp ∈ wsL_law := win_wsL_law_r15 _ (List.mem_of_getElem? (i := 18) rfl)
theorem im_X5_letUp : Cond.instanceMethod yX5_letUp ∈ wsL_law := win_wsL_law_r15 _ (List.mem_of_getElem? (i := 19) rfl)
theorem se_X5_letUp : Cond.selects RX5 yX5_letUp yX5_letUp ∈ wsL_law := win_wsL_law_r15 _ (List.mem_of_getElem? (i := 20) rfl)
theorem co_X5_letUp : Cond.code yX5_letUp cX5_letUp 3 (some .int) ∈ wsL_law := win_wsL_law_r15 _ (List.mem_of_getElem? (i := 21) rfl)
theorem ml_X5_105 : Cond.methodLink RX5 105 yX5_letsUp ∈ wsL_law := win_wsL_law_r15 _ (List.mem_of_getElem? (i := 22) rfl)
theorem im_X5_letsUp : Cond.instanceMethod yX5_letsUp ∈ wsL_law := win_wsL_law_r15 _ (List.mem_of_getElem? (i := 23) rfl)
theorem se_X5_letsUp : Cond.selects RX5 yX5_letsUp yX5_letsUp ∈ wsL_law := win_wsL_law_r16 _ (List.mem_of_getElem? (i := 0) rfl)
theorem co_X5_letsUp : Cond.code yX5_letsUp cX5_letsUp 2 (some .int) ∈ wsL_law := win_wsL_law_r16 _ (List.mem_of_getElem? (i := 1) rfl)
theorem ml_L_36 : Cond.methodLink RL 36 yX4_reset ∈ wsL_law := win_wsL_law_r16 _ (List.mem_of_getElem? (i := 2) rfl)
theorem im_X4_reset : Cond.instanceMethod yX4_reset ∈ wsL_law := win_wsL_law_r16 _ (List.mem_of_getElem? (i := 3) rfl)
theorem se_X4_reset : Cond.selects RX4 yX4_reset yX4_reset ∈ wsL_law := win_wsL_law_r16 _ (List.mem_of_getElem? (i := 4) rfl)
theorem co_X4_reset : Cond.code yX4_reset cX4_reset 1 (some .int) ∈ wsL_law := win_wsL_law_r16 _ (List.mem_of_getElem? (i := 5) rfl)
theorem ml_X4_80 : Cond.methodLink RX4 80 yX3_toMiddle ∈ wsL_law := win_wsL_law_r16 _ (List.mem_of_getElem? (i := 6) rfl)
theorem im_X3_toMiddle : Cond.instanceMethod yX3_toMiddle ∈ wsL_law := win_wsL_law_r16 _ (List.mem_of_getElem? (i := 7) rfl)
theorem se_X3_toMiddle : Cond.selects RX3 yX3_toMiddle yX3_toMiddle ∈ wsL_law := win_wsL_law_r16 _ (List.mem_of_getElem? (i := 8) rfl)
theorem co_X3_toMiddle : Cond.code yX3_toMiddle cX3_toMiddle 2 (some .int) ∈ wsL_law := win_wsL_law_r16 _ (List.mem_of_getElem? (i := 9) rfl)
theorem ml_L_40 : Cond.methodLink RL 40 yX5_reset ∈ wsL_law := win_wsL_law_r16 _ (List.mem_of_getElem? (i := 10) rfl)
theorem im_X5_reset : Cond.instanceMethod yX5_reset ∈ wsL_law := win_wsL_law_r16 _ (List.mem_of_getElem? (i := 11) rfl)
theorem se_X5_reset : Cond.selects RX5 yX5_reset yX5_reset ∈ wsL_law := win_wsL_law_r16 _ (List.mem_of_getElem? (i := 12) rfl)
theorem co_X5_reset : Cond.code yX5_reset cX5_reset 2 (some .int) ∈ wsL_law := win_wsL_law_r16 _ (List.mem_of_getElem? (i := 13) rfl)
theorem ml_L_41 : Cond.methodLink RL 41 yX4_of ∈ wsL_law := win_wsL_law_r16 _ (List.mem_of_getElem? (i := 14) rfl)
theorem im_X4_of : Cond.instanceMethod yX4_of ∈ wsL_law := win_wsL_law_r16 _ (List.mem_of_getElem? (i := 15) rfl)
theorem se_X4_of : Cond.selects RX4 yX4_of yX4_of ∈ wsL_law := win_wsL_law_r16 _ (List.mem_of_getElem? (i := 16) rfl)
theorem co_X4_of : Cond.code yX4_of cX4_of 3 (some .int) ∈ wsL_law := win_wsL_law_r16 _ (List.mem_of_getElem? (i := 17) rfl)
theorem ml_X4_83 : Cond.methodLink RX4 83 yX3_aboutX ∈ wsL_law := win_wsL_law_r16 _ (List.mem_of_getElem? (i := 18) rfl)
theorem im_X3_aboutX : Cond.instanceMethod yX3_aboutX ∈ wsL_law := win_wsL_law_r16 _ (List.mem_of_getElem? (i := 19) rfl)
theorem se_X3_aboutX : Cond.selects RX3 yX3_aboutX yX3_aboutX ∈ wsL_law := win_wsL_law_r16 _ (List.mem_of_getElem? (i := 20) rfl)
theorem co_X3_aboutX : Cond.code yX3_aboutX cX3_aboutX 2 (some .int) ∈ wsL_law := win_wsL_law_r16 _ (List.mem_of_getElem? (i := 21) rfl)
theorem ml_X3_164 : Cond.methodLink RX3 164 yX3_about ∈ wsL_law := win_wsL_law_r16 _ (List.mem_of_getElem? (i := 22) rfl)
theorem im_X3_about : Cond.instanceMethod yX3_about ∈ wsL_law := win_wsL_law_r16 _ (List.mem_of_getElem? (i := 23) rfl)
theorem se_X3_about : Cond.selects RX3 yX3_about yX3_about ∈ wsL_law := win_wsL_law_r17 _ (List.mem_of_getElem? (i := 0) rfl)
theorem co_X3_about : Cond.code yX3_about cX3_about 5 (some .int) ∈ wsL_law := win_wsL_law_r17 _ (List.mem_of_getElem? (i := 1) rfl)
theorem ml_X4_86 : Cond.methodLink RX4 86 yX3_aboutY ∈ wsL_law := win_wsL_law_r17 _ (List.mem_of_getElem? (i := 2) rfl)
theorem im_X3_aboutY : Cond.instanceMethod yX3_aboutY ∈ wsL_law := win_wsL_law_r17 _ (List.mem_of_getElem? (i := 3) rfl)
theorem se_X3_aboutY : Cond.selects RX3 yX3_aboutY yX3_aboutY ∈ wsL_law := win_wsL_law_r17 _ (List.mem_of_getElem? (i := 4) rfl)
theorem co_X3_aboutY : Cond.code yX3_aboutY cX3_aboutY 2 (some .int) ∈ wsL_law := win_wsL_law_r17 _ (List.mem_of_getElem? (i := 5) rfl)
theorem ml_L_44 : Cond.methodLink RL 44 yX5_of ∈ wsL_law := win_wsL_law_r17 _ (List.mem_of_getElem? (i := 6) rfl)
theorem im_X5_of : Cond.instanceMethod yX5_of ∈ wsL_law := win_wsL_law_r17 _ (List.mem_of_getElem? (i := 7) rfl)
theorem se_X5_of : Cond.selects RX5 yX5_of yX5_of ∈ wsL_law := win_wsL_law_r17 _ (List.mem_of_getElem? (i := 8) rfl)
theorem co_X5_of : Cond.code yX5_of cX5_of 4 (some .int) ∈ wsL_law := win_wsL_law_r17 _ (List.mem_of_getElem? (i := 9) rfl)
theorem ml_L_45 : Cond.methodLink RL 45 yX4_direction ∈ wsL_law := win_wsL_law_r17 _ (List.mem_of_getElem? (i := 10) rfl)
theorem im_X4_direction : Cond.instanceMethod yX4_direction ∈ wsL_law := win_wsL_law_r17 _ (List.mem_of_getElem? (i := 11) rfl)
theorem se_X4_direction : Cond.selects RX4 yX4_direction yX4_direction ∈ wsL_law := win_wsL_law_r17 _ (List.mem_of_getElem? (i := 12) rfl)
theorem co_X4_direction : Cond.code yX4_direction cX4_direction 3 (some .int) ∈ wsL_law := win_wsL_law_r17 _ (List.mem_of_getElem? (i := 13) rfl)
theorem ml_X4_93 : Cond.methodLink RX4 93 yX0_about ∈ wsL_law := win_wsL_law_r17 _ (List.mem_of_getElem? (i := 14) rfl)
theorem im_X0_about : Cond.instanceMethod yX0_about ∈ wsL_law := win_wsL_law_r17 _ (List.mem_of_getElem? (i := 15) rfl)
theorem se_X0_about : Cond.selects RX0 yX0_about yX0_about ∈ wsL_law := win_wsL_law_r17 _ (List.mem_of_getElem? (i := 16) rfl)
theorem co_X0_about : Cond.code yX0_about cX0_about 4 (some .int) ∈ wsL_law := win_wsL_law_r17 _ (List.mem_of_getElem? (i := 17) rfl)
theorem ml_L_48 : Cond.methodLink RL 48 yX5_direction ∈ wsL_law := win_wsL_law_r17 _ (List.mem_of_getElem? (i := 18) rfl)
theorem im_X5_direction : Cond.instanceMethod yX5_direction ∈ wsL_law := win_wsL_law_r17 _ (List.mem_of_getElem? (i := 19) rfl)
theorem se_X5_direction : Cond.selects RX5 yX5_direction yX5_direction ∈ wsL_law := win_wsL_law_r17 _ (List.mem_of_getElem? (i := 20) rfl)
theorem co_X5_direction : Cond.code yX5_direction cX5_direction 3 (some .int) ∈ wsL_law := win_wsL_law_r17 _ (List.mem_of_getElem? (i := 21) rfl)
theorem ml_L_49 : Cond.methodLink RL 49 yX4_count ∈ wsL_law := win_wsL_law_r17 _ (List.mem_of_getElem? (i := 22) rfl)
theorem im_X4_count : Cond.instanceMethod yX4_count ∈ wsL_law := win_wsL_law_r17 _ (List.mem_of_getElem? (i := 23) rfl)
theorem se_X4_count : Cond.selects RX4 yX4_count yX4_count ∈ wsL_law := win_wsL_law_r18 _ (List.mem_of_getElem? (i := 0) rfl)
theorem co_X4_count : Cond.code yX4_count cX4_count 2 (some .int) ∈ wsL_law := win_wsL_law_r18 _ (List.mem_of_getElem? (i := 1) rfl)
theorem ml_X4_105 : Cond.methodLink RX4 105 yX3_number ∈ wsL_law := win_wsL_law_r18 _ (List.mem_of_getElem? (i := 2) rfl)
theorem im_X3_number : Cond.instanceMethod yX3_number ∈ wsL_law := win_wsL_law_r18 _ (List.mem_of_getElem? (i := 3) rfl)
theorem se_X3_number : Cond.selects RX3 yX3_number yX3_number ∈ wsL_law := win_wsL_law_r18 _ (List.mem_of_getElem? (i := 4) rfl)
theorem co_X3_number : Cond.code yX3_number cX3_number 2 (some .int) ∈ wsL_law := win_wsL_law_r18 _ (List.mem_of_getElem? (i := 5) rfl)
theorem ml_L_52 : Cond.methodLink RL 52 yX5_count ∈ wsL_law := win_wsL_law_r18 _ (List.mem_of_getElem? (i := 6) rfl)
theorem im_X5_count : Cond.instanceMethod yX5_count ∈ wsL_law := win_wsL_law_r18 _ (List.mem_of_getElem? (i := 7) rfl)
theorem se_X5_count : Cond.selects RX5 yX5_count yX5_count ∈ wsL_law := win_wsL_law_r18 _ (List.mem_of_getElem? (i := 8) rfl)
theorem co_X5_count : Cond.code yX5_count cX5_count 2 (some .int) ∈ wsL_law := win_wsL_law_r18 _ (List.mem_of_getElem? (i := 9) rfl)
theorem fl_X5_108 : Cond.fieldLink RX5 108 "StickRestsModel" "length" "I" ∈ wsL_law := win_wsL_law_r18 _ (List.mem_of_getElem? (i := 10) rfl)
theorem ml_L_53 : Cond.methodLink RL 53 yX4_wouldTell ∈ wsL_law := win_wsL_law_r18 _ (List.mem_of_getElem? (i := 11) rfl)
theorem im_X4_wouldTell : Cond.instanceMethod yX4_wouldTell ∈ wsL_law := win_wsL_law_r18 _ (List.mem_of_getElem? (i := 12) rfl)
theorem se_X4_wouldTell : Cond.selects RX4 yX4_wouldTell yX4_wouldTell ∈ wsL_law := win_wsL_law_r18 _ (List.mem_of_getElem? (i := 13) rfl)
theorem co_X4_wouldTell : Cond.code yX4_wouldTell cX4_wouldTell 3 (some .int) ∈ wsL_law := win_wsL_law_r18 _ (List.mem_of_getElem? (i := 14) rfl)
theorem ml_X4_108 : Cond.methodLink RX4 108 yX4_isSample ∈ wsL_law := win_wsL_law_r18 _ (List.mem_of_getElem? (i := 15) rfl)
theorem ml_X4_112 : Cond.methodLink RX4 112 yX3_tellingAt ∈ wsL_law := win_wsL_law_r18 _ (List.mem_of_getElem? (i := 16) rfl)
theorem ml_L_56 : Cond.methodLink RL 56 yX5_wouldTell ∈ wsL_law := win_wsL_law_r18 _ (List.mem_of_getElem? (i := 17) rfl)
theorem im_X5_wouldTell : Cond.instanceMethod yX5_wouldTell ∈ wsL_law := win_wsL_law_r18 _ (List.mem_of_getElem? (i := 18) rfl)
theorem se_X5_wouldTell : Cond.selects RX5 yX5_wouldTell yX5_wouldTell ∈ wsL_law := win_wsL_law_r18 _ (List.mem_of_getElem? (i := 19) rfl)
theorem co_X5_wouldTell : Cond.code yX5_wouldTell cX5_wouldTell 3 (some .int) ∈ wsL_law := win_wsL_law_r18 _ (List.mem_of_getElem? (i := 20) rfl)
theorem ml_X5_111 : Cond.methodLink RX5 111 yX5_copies ∈ wsL_law := win_wsL_law_r18 _ (List.mem_of_getElem? (i := 21) rfl)
theorem im_X5_copies : Cond.instanceMethod yX5_copies ∈ wsL_law := win_wsL_law_r18 _ (List.mem_of_getElem? (i := 22) rfl)
theorem se_X5_copies : Cond.selects RX5 yX5_copies yX5_copies ∈ wsL_law := win_wsL_law_r18 _ (List.mem_of_getElem? (i := 23) rfl)
theorem co_X5_copies : Cond.code yX5_copies cX5_copies 2 none ∈ wsL_law := win_wsL_law_r19 _ (List.mem_of_getElem? (i := 0) rfl)
theorem ml_L_57 : Cond.methodLink RL 57 yX4_learnedIn ∈ wsL_law := win_wsL_law_r19 _ (List.mem_of_getElem? (i := 1) rfl)
theorem im_X4_learnedIn : Cond.instanceMethod yX4_learnedIn ∈ wsL_law := win_wsL_law_r19 _ (List.mem_of_getElem? (i := 2) rfl)
theorem se_X4_learnedIn : Cond.selects RX4 yX4_learnedIn yX4_learnedIn ∈ wsL_law := win_wsL_law_r19 _ (List.mem_of_getElem? (i := 3) rfl)
theorem co_X4_learnedIn : Cond.code yX4_learnedIn cX4_learnedIn 4 (some .int) ∈ wsL_law := win_wsL_law_r19 _ (List.mem_of_getElem? (i := 4) rfl)
theorem ml_X4_115 : Cond.methodLink RX4 115 yX3_becomeLike ∈ wsL_law := win_wsL_law_r19 _ (List.mem_of_getElem? (i := 5) rfl)
theorem ml_X4_118 : Cond.methodLink RX4 118 yX3_isOffByNothing ∈ wsL_law := win_wsL_law_r19 _ (List.mem_of_getElem? (i := 6) rfl)
theorem im_X3_isOffByNothing : Cond.instanceMethod yX3_isOffByNothing ∈ wsL_law := win_wsL_law_r19 _ (List.mem_of_getElem? (i := 7) rfl)
theorem se_X3_isOffByNothing : Cond.selects RX3 yX3_isOffByNothing yX3_isOffByNothing ∈ wsL_law := win_wsL_law_r19 _ (List.mem_of_getElem? (i := 8) rfl)
theorem co_X3_isOffByNothing : Cond.code yX3_isOffByNothing cX3_isOffByNothing 3 (some .boolean) ∈ wsL_law := win_wsL_law_r19 _ (List.mem_of_getElem? (i := 9) rfl)
theorem ml_L_60 : Cond.methodLink RL 60 yX5_learnedIn ∈ wsL_law := win_wsL_law_r19 _ (List.mem_of_getElem? (i := 10) rfl)
theorem im_X5_learnedIn : Cond.instanceMethod yX5_learnedIn ∈ wsL_law := win_wsL_law_r19 _ (List.mem_of_getElem? (i := 11) rfl)
theorem se_X5_learnedIn : Cond.selects RX5 yX5_learnedIn yX5_learnedIn ∈ wsL_law := win_wsL_law_r19 _ (List.mem_of_getElem? (i := 12) rfl)
theorem co_X5_learnedIn : Cond.code yX5_learnedIn cX5_learnedIn 4 (some .int) ∈ wsL_law := win_wsL_law_r19 _ (List.mem_of_getElem? (i := 13) rfl)
theorem ml_L_61 : Cond.methodLink RL 61 yX4_edge ∈ wsL_law := win_wsL_law_r19 _ (List.mem_of_getElem? (i := 14) rfl)
theorem im_X4_edge : Cond.instanceMethod yX4_edge ∈ wsL_law := win_wsL_law_r19 _ (List.mem_of_getElem? (i := 15) rfl)
theorem se_X4_edge : Cond.selects RX4 yX4_edge yX4_edge ∈ wsL_law := win_wsL_law_r19 _ (List.mem_of_getElem? (i := 16) rfl)
theorem co_X4_edge : Cond.code yX4_edge cX4_edge 7 (some .int) ∈ wsL_law := win_wsL_law_r19 _ (List.mem_of_getElem? (i := 17) rfl)
theorem ml_X4_121 : Cond.methodLink RX4 121 yX3_restPlaceX ∈ wsL_law := win_wsL_law_r19 _ (List.mem_of_getElem? (i := 18) rfl)
theorem ml_X4_124 : Cond.methodLink RX4 124 yX3_restPlaceY ∈ wsL_law := win_wsL_law_r19 _ (List.mem_of_getElem? (i := 19) rfl)
theorem ml_X4_127 : Cond.methodLink RX4 127 yX4_packed ∈ wsL_law := win_wsL_law_r19 _ (List.mem_of_getElem? (i := 20) rfl)
theorem ml_L_64 : Cond.methodLink RL 64 yX5_edge ∈ wsL_law := win_wsL_law_r19 _ (List.mem_of_getElem? (i := 21) rfl)
theorem im_X5_edge : Cond.instanceMethod yX5_edge ∈ wsL_law := win_wsL_law_r19 _ (List.mem_of_getElem? (i := 22) rfl)
theorem se_X5_edge : Cond.selects RX5 yX5_edge yX5_edge ∈ wsL_law := win_wsL_law_r19 _ (List.mem_of_getElem? (i := 23) rfl)
theorem co_X5_edge : Cond.code yX5_edge cX5_edge 9 (some .int) ∈ wsL_law := win_wsL_law_r20 _ (List.mem_of_getElem? (i := 0) rfl)
theorem ml_L_65 : Cond.methodLink RL 65 yX4_driftsIn ∈ wsL_law := win_wsL_law_r20 _ (List.mem_of_getElem? (i := 1) rfl)
theorem im_X4_driftsIn : Cond.instanceMethod yX4_driftsIn ∈ wsL_law := win_wsL_law_r20 _ (List.mem_of_getElem? (i := 2) rfl)
theorem se_X4_driftsIn : Cond.selects RX4 yX4_driftsIn yX4_driftsIn ∈ wsL_law := win_wsL_law_r20 _ (List.mem_of_getElem? (i := 3) rfl)
theorem co_X4_driftsIn : Cond.code yX4_driftsIn cX4_driftsIn 4 (some .int) ∈ wsL_law := win_wsL_law_r20 _ (List.mem_of_getElem? (i := 4) rfl)
theorem ml_X4_130 : Cond.methodLink RX4 130 yX3_wouldDrift ∈ wsL_law := win_wsL_law_r20 _ (List.mem_of_getElem? (i := 5) rfl)
theorem ml_L_68 : Cond.methodLink RL 68 yX5_driftsIn ∈ wsL_law := win_wsL_law_r20 _ (List.mem_of_getElem? (i := 6) rfl)
theorem im_X5_driftsIn : Cond.instanceMethod yX5_driftsIn ∈ wsL_law := win_wsL_law_r20 _ (List.mem_of_getElem? (i := 7) rfl)
theorem se_X5_driftsIn : Cond.selects RX5 yX5_driftsIn yX5_driftsIn ∈ wsL_law := win_wsL_law_r20 _ (List.mem_of_getElem? (i := 8) rfl)
theorem co_X5_driftsIn : Cond.code yX5_driftsIn cX5_driftsIn 4 (some .int) ∈ wsL_law := win_wsL_law_r20 _ (List.mem_of_getElem? (i := 9) rfl)
theorem ml_L_71 : Cond.methodLink RL 71 yX4_put ∈ wsL_law := win_wsL_law_r20 _ (List.mem_of_getElem? (i := 10) rfl)
theorem im_X4_put : Cond.instanceMethod yX4_put ∈ wsL_law := win_wsL_law_r20 _ (List.mem_of_getElem? (i := 11) rfl)
theorem se_X4_put : Cond.selects RX4 yX4_put yX4_put ∈ wsL_law := win_wsL_law_r20 _ (List.mem_of_getElem? (i := 12) rfl)
theorem co_X4_put : Cond.code yX4_put cX4_put 3 (some .int) ∈ wsL_law := win_wsL_law_r20 _ (List.mem_of_getElem? (i := 13) rfl)
theorem ml_X4_133 : Cond.methodLink RX4 133 yX2_append ∈ wsL_law := win_wsL_law_r20 _ (List.mem_of_getElem? (i := 14) rfl)
theorem im_X2_append : Cond.instanceMethod yX2_append ∈ wsL_law := win_wsL_law_r20 _ (List.mem_of_getElem? (i := 15) rfl)
theorem se_X2_append : Cond.selects RX2 yX2_append yX2_append ∈ wsL_law := win_wsL_law_r20 _ (List.mem_of_getElem? (i := 16) rfl)
theorem co_X2_append : Cond.code yX2_append cX2_append 5 (some .int) ∈ wsL_law := win_wsL_law_r20 _ (List.mem_of_getElem? (i := 17) rfl)
theorem fl_X2_19 : Cond.fieldLink RX2 19 "StickRests$Pad" "length" "I" ∈ wsL_law := win_wsL_law_r20 _ (List.mem_of_getElem? (i := 18) rfl)
theorem kl_X2_23 : Cond.constantLong RX2 23 255 ∈ wsL_law := win_wsL_law_r20 _ (List.mem_of_getElem? (i := 19) rfl)
theorem ml_X2_15 : Cond.methodLink RX2 15 yX2_charactersIn ∈ wsL_law := win_wsL_law_r20 _ (List.mem_of_getElem? (i := 20) rfl)
theorem sm_X2_charactersIn : Cond.static yX2_charactersIn ∈ wsL_law := win_wsL_law_r20 _ (List.mem_of_getElem? (i := 21) rfl)
theorem co_X2_charactersIn : Cond.code yX2_charactersIn cX2_charactersIn 7 (some .int) ∈ wsL_law := win_wsL_law_r20 _ (List.mem_of_getElem? (i := 22) rfl)
theorem kl_X2_25 : Cond.constantLong RX2 25 33 ∈ wsL_law := win_wsL_law_r20 _ (List.mem_of_getElem? (i := 23) rfl)
theorem kl_X2_27 : Cond.constantLong RX2 27 126 ∈ wsL_law := win_wsL_law_r21 _ (List.mem_of_getElem? (i := 0) rfl)
theorem ml_L_75 : Cond.methodLink RL 75 yX5_put ∈ wsL_law := win_wsL_law_r21 _ (List.mem_of_getElem? (i := 1) rfl)
theorem im_X5_put : Cond.instanceMethod yX5_put ∈ wsL_law := win_wsL_law_r21 _ (List.mem_of_getElem? (i := 2) rfl)
theorem se_X5_put : Cond.selects RX5 yX5_put yX5_put ∈ wsL_law := win_wsL_law_r21 _ (List.mem_of_getElem? (i := 3) rfl)
theorem co_X5_put : Cond.code yX5_put cX5_put 8 (some .int) ∈ wsL_law := win_wsL_law_r21 _ (List.mem_of_getElem? (i := 4) rfl)
theorem kl_X5_114 : Cond.constantLong RX5 114 255 ∈ wsL_law := win_wsL_law_r21 _ (List.mem_of_getElem? (i := 5) rfl)
theorem ml_L_76 : Cond.methodLink RL 76 yX4_wipe ∈ wsL_law := win_wsL_law_r21 _ (List.mem_of_getElem? (i := 6) rfl)
theorem im_X4_wipe : Cond.instanceMethod yX4_wipe ∈ wsL_law := win_wsL_law_r21 _ (List.mem_of_getElem? (i := 7) rfl)
theorem se_X4_wipe : Cond.selects RX4 yX4_wipe yX4_wipe ∈ wsL_law := win_wsL_law_r21 _ (List.mem_of_getElem? (i := 8) rfl)
theorem co_X4_wipe : Cond.code yX4_wipe cX4_wipe 1 (some .int) ∈ wsL_law := win_wsL_law_r21 _ (List.mem_of_getElem? (i := 9) rfl)
theorem ml_X4_137 : Cond.methodLink RX4 137 yX2_empty ∈ wsL_law := win_wsL_law_r21 _ (List.mem_of_getElem? (i := 10) rfl)
theorem im_X2_empty : Cond.instanceMethod yX2_empty ∈ wsL_law := win_wsL_law_r21 _ (List.mem_of_getElem? (i := 11) rfl)
theorem se_X2_empty : Cond.selects RX2 yX2_empty yX2_empty ∈ wsL_law := win_wsL_law_r21 _ (List.mem_of_getElem? (i := 12) rfl)
theorem co_X2_empty : Cond.code yX2_empty cX2_empty 2 (some .int) ∈ wsL_law := win_wsL_law_r21 _ (List.mem_of_getElem? (i := 13) rfl)
theorem ml_L_79 : Cond.methodLink RL 79 yX5_wipe ∈ wsL_law := win_wsL_law_r21 _ (List.mem_of_getElem? (i := 14) rfl)
theorem im_X5_wipe : Cond.instanceMethod yX5_wipe ∈ wsL_law := win_wsL_law_r21 _ (List.mem_of_getElem? (i := 15) rfl)
theorem se_X5_wipe : Cond.selects RX5 yX5_wipe yX5_wipe ∈ wsL_law := win_wsL_law_r21 _ (List.mem_of_getElem? (i := 16) rfl)
theorem co_X5_wipe : Cond.code yX5_wipe cX5_wipe 2 (some .int) ∈ wsL_law := win_wsL_law_r21 _ (List.mem_of_getElem? (i := 17) rfl)
theorem ml_L_80 : Cond.methodLink RL 80 yX4_fault ∈ wsL_law := win_wsL_law_r21 _ (List.mem_of_getElem? (i := 18) rfl)
theorem im_X4_fault : Cond.instanceMethod yX4_fault ∈ wsL_law := win_wsL_law_r21 _ (List.mem_of_getElem? (i := 19) rfl)
theorem se_X4_fault : Cond.selects RX4 yX4_fault yX4_fault ∈ wsL_law := win_wsL_law_r21 _ (List.mem_of_getElem? (i := 20) rfl)
theorem co_X4_fault : Cond.code yX4_fault cX4_fault 1 (some .int) ∈ wsL_law := win_wsL_law_r21 _ (List.mem_of_getElem? (i := 21) rfl)
theorem ml_X4_140 : Cond.methodLink RX4 140 yX2_firstFault ∈ wsL_law := win_wsL_law_r21 _ (List.mem_of_getElem? (i := 22) rfl)
theorem im_X2_firstFault : Cond.instanceMethod yX2_firstFault ∈ wsL_law := win_wsL_law_r21 _ (List.mem_of_getElem? (i := 23) rfl)
theorem se_X2_firstFault : Cond.selects RX2 yX2_firstFault yX2_firstFault ∈ wsL_law := win_wsL_law_r22 _ (List.mem_of_getElem? (i := 0) rfl)
theorem co_X2_firstFault : Cond.code yX2_firstFault cX2_firstFault 2 (some .int) ∈ wsL_law := win_wsL_law_r22 _ (List.mem_of_getElem? (i := 1) rfl)
theorem fl_X2_36 : Cond.fieldLink RX2 36 "StickRests$Pad" "place" "I" ∈ wsL_law := win_wsL_law_r22 _ (List.mem_of_getElem? (i := 2) rfl)
theorem ml_X2_29 : Cond.methodLink RX2 29 yX2_goToStart ∈ wsL_law := win_wsL_law_r22 _ (List.mem_of_getElem? (i := 3) rfl)
theorem im_X2_goToStart : Cond.instanceMethod yX2_goToStart ∈ wsL_law := win_wsL_law_r22 _ (List.mem_of_getElem? (i := 4) rfl)
theorem se_X2_goToStart : Cond.selects RX2 yX2_goToStart yX2_goToStart ∈ wsL_law := win_wsL_law_r22 _ (List.mem_of_getElem? (i := 5) rfl)
theorem co_X2_goToStart : Cond.code yX2_goToStart cX2_goToStart 1 none ∈ wsL_law := win_wsL_law_r22 _ (List.mem_of_getElem? (i := 6) rfl)
theorem ml_X2_32 : Cond.methodLink RX2 32 yX2_readOrder ∈ wsL_law := win_wsL_law_r22 _ (List.mem_of_getElem? (i := 7) rfl)
theorem im_X2_readOrder : Cond.instanceMethod yX2_readOrder ∈ wsL_law := win_wsL_law_r22 _ (List.mem_of_getElem? (i := 8) rfl)
theorem se_X2_readOrder : Cond.selects RX2 yX2_readOrder yX2_readOrder ∈ wsL_law := win_wsL_law_r22 _ (List.mem_of_getElem? (i := 9) rfl)
theorem co_X2_readOrder : Cond.code yX2_readOrder cX2_readOrder 1 (some .boolean) ∈ wsL_law := win_wsL_law_r22 _ (List.mem_of_getElem? (i := 10) rfl)
theorem fl_X2_47 : Cond.fieldLink RX2 47 "StickRests$Pad" "kind" "C" ∈ wsL_law := win_wsL_law_r22 _ (List.mem_of_getElem? (i := 11) rfl)
theorem fl_X2_51 : Cond.fieldLink RX2 51 "StickRests$Pad" "times" "I" ∈ wsL_law := win_wsL_law_r22 _ (List.mem_of_getElem? (i := 12) rfl)
theorem fl_X2_61 : Cond.fieldLink RX2 61 "StickRests$Pad" "first" "I" ∈ wsL_law := win_wsL_law_r22 _ (List.mem_of_getElem? (i := 13) rfl)
theorem ml_X2_43 : Cond.methodLink RX2 43 yX2_next ∈ wsL_law := win_wsL_law_r22 _ (List.mem_of_getElem? (i := 14) rfl)
theorem im_X2_next : Cond.instanceMethod yX2_next ∈ wsL_law := win_wsL_law_r22 _ (List.mem_of_getElem? (i := 15) rfl)
theorem se_X2_next : Cond.selects RX2 yX2_next yX2_next ∈ wsL_law := win_wsL_law_r22 _ (List.mem_of_getElem? (i := 16) rfl)
theorem co_X2_next : Cond.code yX2_next cX2_next 1 (some .char) ∈ wsL_law := win_wsL_law_r22 _ (List.mem_of_getElem? (i := 17) rfl)
theorem ml_X2_54 : Cond.methodLink RX2 54 yX2_readSamples ∈ wsL_law := win_wsL_law_r22 _ (List.mem_of_getElem? (i := 18) rfl)
theorem im_X2_readSamples : Cond.instanceMethod yX2_readSamples ∈ wsL_law := win_wsL_law_r22 _ (List.mem_of_getElem? (i := 19) rfl)
theorem se_X2_readSamples : Cond.selects RX2 yX2_readSamples yX2_readSamples ∈ wsL_law := win_wsL_law_r22 _ (List.mem_of_getElem? (i := 20) rfl)
theorem co_X2_readSamples : Cond.code yX2_readSamples cX2_readSamples 1 (some .boolean) ∈ wsL_law := win_wsL_law_r22 _ (List.mem_of_getElem? (i := 21) rfl)
theorem fl_X2_67 : Cond.fieldLink RX2 67 "StickRests$Pad" "second" "I" ∈ wsL_law := win_wsL_law_r22 _ (List.mem_of_getElem? (i := 22) rfl)
theorem ml_X2_64 : Cond.methodLink RX2 64 yX2_readNumber ∈ wsL_law := win_wsL_law_r22 _ (List.mem_of_getElem? (i := 23) rfl)
theorem im_X2_readNumber : Cond.instanceMethod yX2_readNumber ∈ wsL_law := win_wsL_law_r23 _ (List.mem_of_getElem? (i := 0) rfl)
theorem se_X2_readNumber : Cond.selects RX2 yX2_readNumber yX2_readNumber ∈ wsL_law := win_wsL_law_r23 _ (List.mem_of_getElem? (i := 1) rfl)
theorem co_X2_readNumber : Cond.code yX2_readNumber cX2_readNumber 4 (some .int) ∈ wsL_law := win_wsL_law_r23 _ (List.mem_of_getElem? (i := 2) rfl)
theorem ml_X2_57 : Cond.methodLink RX2 57 yX2_readDigit ∈ wsL_law := win_wsL_law_r23 _ (List.mem_of_getElem? (i := 3) rfl)
theorem im_X2_readDigit : Cond.instanceMethod yX2_readDigit ∈ wsL_law := win_wsL_law_r23 _ (List.mem_of_getElem? (i := 4) rfl)
theorem se_X2_readDigit : Cond.selects RX2 yX2_readDigit yX2_readDigit ∈ wsL_law := win_wsL_law_r23 _ (List.mem_of_getElem? (i := 5) rfl)
theorem co_X2_readDigit : Cond.code yX2_readDigit cX2_readDigit 2 (some .int) ∈ wsL_law := win_wsL_law_r23 _ (List.mem_of_getElem? (i := 6) rfl)
theorem ml_X2_39 : Cond.methodLink RX2 39 yX2_skip ∈ wsL_law := win_wsL_law_r23 _ (List.mem_of_getElem? (i := 7) rfl)
theorem im_X2_skip : Cond.instanceMethod yX2_skip ∈ wsL_law := win_wsL_law_r23 _ (List.mem_of_getElem? (i := 8) rfl)
theorem se_X2_skip : Cond.selects RX2 yX2_skip yX2_skip ∈ wsL_law := win_wsL_law_r23 _ (List.mem_of_getElem? (i := 9) rfl)
theorem co_X2_skip : Cond.code yX2_skip cX2_skip 2 (some .boolean) ∈ wsL_law := win_wsL_law_r23 _ (List.mem_of_getElem? (i := 10) rfl)
theorem ml_L_83 : Cond.methodLink RL 83 yX5_fault ∈ wsL_law := win_wsL_law_r23 _ (List.mem_of_getElem? (i := 11) rfl)
theorem im_X5_fault : Cond.instanceMethod yX5_fault ∈ wsL_law := win_wsL_law_r23 _ (List.mem_of_getElem? (i := 12) rfl)
theorem se_X5_fault : Cond.selects RX5 yX5_fault yX5_fault ∈ wsL_law := win_wsL_law_r23 _ (List.mem_of_getElem? (i := 13) rfl)
theorem co_X5_fault : Cond.code yX5_fault cX5_fault 4 (some .int) ∈ wsL_law := win_wsL_law_r23 _ (List.mem_of_getElem? (i := 14) rfl)
theorem ml_X5_128 : Cond.methodLink RX5 128 yX5_orderEnd ∈ wsL_law := win_wsL_law_r23 _ (List.mem_of_getElem? (i := 15) rfl)
theorem im_X5_orderEnd : Cond.instanceMethod yX5_orderEnd ∈ wsL_law := win_wsL_law_r23 _ (List.mem_of_getElem? (i := 16) rfl)
theorem se_X5_orderEnd : Cond.selects RX5 yX5_orderEnd yX5_orderEnd ∈ wsL_law := win_wsL_law_r23 _ (List.mem_of_getElem? (i := 17) rfl)
theorem co_X5_orderEnd : Cond.code yX5_orderEnd cX5_orderEnd 3 (some .int) ∈ wsL_law := win_wsL_law_r23 _ (List.mem_of_getElem? (i := 18) rfl)
theorem ml_X5_116 : Cond.methodLink RX5 116 yX5_signAt ∈ wsL_law := win_wsL_law_r23 _ (List.mem_of_getElem? (i := 19) rfl)
theorem im_X5_signAt : Cond.instanceMethod yX5_signAt ∈ wsL_law := win_wsL_law_r23 _ (List.mem_of_getElem? (i := 20) rfl)
theorem se_X5_signAt : Cond.selects RX5 yX5_signAt yX5_signAt ∈ wsL_law := win_wsL_law_r23 _ (List.mem_of_getElem? (i := 21) rfl)
theorem co_X5_signAt : Cond.code yX5_signAt cX5_signAt 2 (some .int) ∈ wsL_law := win_wsL_law_r23 _ (List.mem_of_getElem? (i := 22) rfl)
theorem ml_X5_122 : Cond.methodLink RX5 122 yX5_numberEnd ∈ wsL_law := win_wsL_law_r23 _ (List.mem_of_getElem? (i := 23) rfl)
theorem im_X5_numberEnd : Cond.instanceMethod yX5_numberEnd ∈ wsL_law := win_wsL_law_r24 _ (List.mem_of_getElem? (i := 0) rfl)
theorem se_X5_numberEnd : Cond.selects RX5 yX5_numberEnd yX5_numberEnd ∈ wsL_law := win_wsL_law_r24 _ (List.mem_of_getElem? (i := 1) rfl)
theorem co_X5_numberEnd : Cond.code yX5_numberEnd cX5_numberEnd 3 (some .int) ∈ wsL_law := win_wsL_law_r24 _ (List.mem_of_getElem? (i := 2) rfl)
theorem ml_X5_119 : Cond.methodLink RX5 119 yX5_digit ∈ wsL_law := win_wsL_law_r24 _ (List.mem_of_getElem? (i := 3) rfl)
theorem im_X5_digit : Cond.instanceMethod yX5_digit ∈ wsL_law := win_wsL_law_r24 _ (List.mem_of_getElem? (i := 4) rfl)
theorem se_X5_digit : Cond.selects RX5 yX5_digit yX5_digit ∈ wsL_law := win_wsL_law_r24 _ (List.mem_of_getElem? (i := 5) rfl)
theorem co_X5_digit : Cond.code yX5_digit cX5_digit 2 (some .int) ∈ wsL_law := win_wsL_law_r24 _ (List.mem_of_getElem? (i := 6) rfl)
theorem ml_X5_125 : Cond.methodLink RX5 125 yX5_behind ∈ wsL_law := win_wsL_law_r24 _ (List.mem_of_getElem? (i := 7) rfl)
theorem im_X5_behind : Cond.instanceMethod yX5_behind ∈ wsL_law := win_wsL_law_r24 _ (List.mem_of_getElem? (i := 8) rfl)
theorem se_X5_behind : Cond.selects RX5 yX5_behind yX5_behind ∈ wsL_law := win_wsL_law_r24 _ (List.mem_of_getElem? (i := 9) rfl)
theorem co_X5_behind : Cond.code yX5_behind cX5_behind 3 (some .int) ∈ wsL_law := win_wsL_law_r24 _ (List.mem_of_getElem? (i := 10) rfl)
theorem ml_L_84 : Cond.methodLink RL 84 yX4_carryOut ∈ wsL_law := win_wsL_law_r24 _ (List.mem_of_getElem? (i := 11) rfl)
theorem im_X4_carryOut : Cond.instanceMethod yX4_carryOut ∈ wsL_law := win_wsL_law_r24 _ (List.mem_of_getElem? (i := 12) rfl)
theorem se_X4_carryOut : Cond.selects RX4 yX4_carryOut yX4_carryOut ∈ wsL_law := win_wsL_law_r24 _ (List.mem_of_getElem? (i := 13) rfl)
theorem co_X4_carryOut : Cond.code yX4_carryOut cX4_carryOut 2 (some .int) ∈ wsL_law := win_wsL_law_r24 _ (List.mem_of_getElem? (i := 14) rfl)
theorem ml_X4_143 : Cond.methodLink RX4 143 yX4_carryOutOrders ∈ wsL_law := win_wsL_law_r24 _ (List.mem_of_getElem? (i := 15) rfl)
theorem im_X4_carryOutOrders : Cond.instanceMethod yX4_carryOutOrders ∈ wsL_law := win_wsL_law_r24 _ (List.mem_of_getElem? (i := 16) rfl)
theorem se_X4_carryOutOrders : Cond.selects RX4 yX4_carryOutOrders yX4_carryOutOrders ∈ wsL_law := win_wsL_law_r24 _ (List.mem_of_getElem? (i := 17) rfl)
theorem co_X4_carryOutOrders : Cond.code yX4_carryOutOrders cX4_carryOutOrders 4 (some .int) ∈ wsL_law := win_wsL_law_r24 _ (List.mem_of_getElem? (i := 18) rfl)
theorem ml_X4_146 : Cond.methodLink RX4 146 yX2_goToStart ∈ wsL_law := win_wsL_law_r24 _ (List.mem_of_getElem? (i := 19) rfl)
theorem ml_X4_149 : Cond.methodLink RX4 149 yX2_readOrder ∈ wsL_law := win_wsL_law_r24 _ (List.mem_of_getElem? (i := 20) rfl)
theorem ml_X4_157 : Cond.methodLink RX4 157 yX4_takeFromPad ∈ wsL_law := win_wsL_law_r24 _ (List.mem_of_getElem? (i := 21) rfl)
theorem im_X4_takeFromPad : Cond.instanceMethod yX4_takeFromPad ∈ wsL_law := win_wsL_law_r24 _ (List.mem_of_getElem? (i := 22) rfl)
theorem se_X4_takeFromPad : Cond.selects RX4 yX4_takeFromPad yX4_takeFromPad ∈ wsL_law := win_wsL_law_r24 _ (List.mem_of_getElem? (i := 23) rfl)
theorem co_X4_takeFromPad : Cond.code yX4_takeFromPad cX4_takeFromPad 2 (some .int) ∈ wsL_law := win_wsL_law_r25 _ (List.mem_of_getElem? (i := 0) rfl)
theorem ml_X4_160 : Cond.methodLink RX4 160 yX4_moveButtonFromPad ∈ wsL_law := win_wsL_law_r25 _ (List.mem_of_getElem? (i := 1) rfl)
theorem im_X4_moveButtonFromPad : Cond.instanceMethod yX4_moveButtonFromPad ∈ wsL_law := win_wsL_law_r25 _ (List.mem_of_getElem? (i := 2) rfl)
theorem se_X4_moveButtonFromPad : Cond.selects RX4 yX4_moveButtonFromPad yX4_moveButtonFromPad ∈ wsL_law := win_wsL_law_r25 _ (List.mem_of_getElem? (i := 3) rfl)
theorem co_X4_moveButtonFromPad : Cond.code yX4_moveButtonFromPad cX4_moveButtonFromPad 4 (some .int) ∈ wsL_law := win_wsL_law_r25 _ (List.mem_of_getElem? (i := 4) rfl)
theorem ml_X4_166 : Cond.methodLink RX4 166 yX2_skip ∈ wsL_law := win_wsL_law_r25 _ (List.mem_of_getElem? (i := 5) rfl)
theorem ml_L_87 : Cond.methodLink RL 87 yX5_carryOut ∈ wsL_law := win_wsL_law_r25 _ (List.mem_of_getElem? (i := 6) rfl)
theorem im_X5_carryOut : Cond.instanceMethod yX5_carryOut ∈ wsL_law := win_wsL_law_r25 _ (List.mem_of_getElem? (i := 7) rfl)
theorem se_X5_carryOut : Cond.selects RX5 yX5_carryOut yX5_carryOut ∈ wsL_law := win_wsL_law_r25 _ (List.mem_of_getElem? (i := 8) rfl)
theorem co_X5_carryOut : Cond.code yX5_carryOut cX5_carryOut 5 (some .int) ∈ wsL_law := win_wsL_law_r25 _ (List.mem_of_getElem? (i := 9) rfl)
theorem ml_X5_134 : Cond.methodLink RX5 134 yX5_fault ∈ wsL_law := win_wsL_law_r25 _ (List.mem_of_getElem? (i := 10) rfl)
theorem ml_X5_138 : Cond.methodLink RX5 138 yX5_ordersAt ∈ wsL_law := win_wsL_law_r25 _ (List.mem_of_getElem? (i := 11) rfl)
theorem im_X5_ordersAt : Cond.instanceMethod yX5_ordersAt ∈ wsL_law := win_wsL_law_r25 _ (List.mem_of_getElem? (i := 12) rfl)
theorem se_X5_ordersAt : Cond.selects RX5 yX5_ordersAt yX5_ordersAt ∈ wsL_law := win_wsL_law_r25 _ (List.mem_of_getElem? (i := 13) rfl)
theorem co_X5_ordersAt : Cond.code yX5_ordersAt cX5_ordersAt 3 (some .int) ∈ wsL_law := win_wsL_law_r25 _ (List.mem_of_getElem? (i := 14) rfl)
theorem ml_X5_131 : Cond.methodLink RX5 131 yX5_numberAt ∈ wsL_law := win_wsL_law_r25 _ (List.mem_of_getElem? (i := 15) rfl)
theorem im_X5_numberAt : Cond.instanceMethod yX5_numberAt ∈ wsL_law := win_wsL_law_r25 _ (List.mem_of_getElem? (i := 16) rfl)
theorem se_X5_numberAt : Cond.selects RX5 yX5_numberAt yX5_numberAt ∈ wsL_law := win_wsL_law_r25 _ (List.mem_of_getElem? (i := 17) rfl)
theorem co_X5_numberAt : Cond.code yX5_numberAt cX5_numberAt 4 (some .int) ∈ wsL_law := win_wsL_law_r25 _ (List.mem_of_getElem? (i := 18) rfl)
theorem ml_X5_141 : Cond.methodLink RX5 141 yX5_carries ∈ wsL_law := win_wsL_law_r25 _ (List.mem_of_getElem? (i := 19) rfl)
theorem im_X5_carries : Cond.instanceMethod yX5_carries ∈ wsL_law := win_wsL_law_r25 _ (List.mem_of_getElem? (i := 20) rfl)
theorem se_X5_carries : Cond.selects RX5 yX5_carries yX5_carries ∈ wsL_law := win_wsL_law_r25 _ (List.mem_of_getElem? (i := 21) rfl)
theorem co_X5_carries : Cond.code yX5_carries cX5_carries 7 (some .int) ∈ wsL_law := win_wsL_law_r25 _ (List.mem_of_getElem? (i := 22) rfl)
theorem ml_L_88 : Cond.methodLink RL 88 yX4_undo ∈ wsL_law := win_wsL_law_r25 _ (List.mem_of_getElem? (i := 23) rfl)
theorem im_X4_undo : Cond.instanceMethod yX4_undo ∈ wsL_law := win_wsL_law_r26 _ (List.mem_of_getElem? (i := 0) rfl)
theorem se_X4_undo : Cond.selects RX4 yX4_undo yX4_undo ∈ wsL_law := win_wsL_law_r26 _ (List.mem_of_getElem? (i := 1) rfl)
theorem co_X4_undo : Cond.code yX4_undo cX4_undo 1 (some .int) ∈ wsL_law := win_wsL_law_r26 _ (List.mem_of_getElem? (i := 2) rfl)
theorem ml_X4_176 : Cond.methodLink RX4 176 yX1_takeBack ∈ wsL_law := win_wsL_law_r26 _ (List.mem_of_getElem? (i := 3) rfl)
theorem im_X1_takeBack : Cond.instanceMethod yX1_takeBack ∈ wsL_law := win_wsL_law_r26 _ (List.mem_of_getElem? (i := 4) rfl)
theorem se_X1_takeBack : Cond.selects RX1 yX1_takeBack yX1_takeBack ∈ wsL_law := win_wsL_law_r26 _ (List.mem_of_getElem? (i := 5) rfl)
theorem co_X1_takeBack : Cond.code yX1_takeBack cX1_takeBack 4 (some .int) ∈ wsL_law := win_wsL_law_r26 _ (List.mem_of_getElem? (i := 6) rfl)
theorem ml_L_91 : Cond.methodLink RL 91 yX5_undo ∈ wsL_law := win_wsL_law_r26 _ (List.mem_of_getElem? (i := 7) rfl)
theorem im_X5_undo : Cond.instanceMethod yX5_undo ∈ wsL_law := win_wsL_law_r26 _ (List.mem_of_getElem? (i := 8) rfl)
theorem se_X5_undo : Cond.selects RX5 yX5_undo yX5_undo ∈ wsL_law := win_wsL_law_r26 _ (List.mem_of_getElem? (i := 9) rfl)
theorem co_X5_undo : Cond.code yX5_undo cX5_undo 2 (some .int) ∈ wsL_law := win_wsL_law_r26 _ (List.mem_of_getElem? (i := 10) rfl)
theorem ml_L_92 : Cond.methodLink RL 92 yX4_save ∈ wsL_law := win_wsL_law_r26 _ (List.mem_of_getElem? (i := 11) rfl)
theorem im_X4_save : Cond.instanceMethod yX4_save ∈ wsL_law := win_wsL_law_r26 _ (List.mem_of_getElem? (i := 12) rfl)
theorem se_X4_save : Cond.selects RX4 yX4_save yX4_save ∈ wsL_law := win_wsL_law_r26 _ (List.mem_of_getElem? (i := 13) rfl)
theorem co_X4_save : Cond.code yX4_save cX4_save 3 (some .int) ∈ wsL_law := win_wsL_law_r26 _ (List.mem_of_getElem? (i := 14) rfl)
theorem ml_L_95 : Cond.methodLink RL 95 yX5_save ∈ wsL_law := win_wsL_law_r26 _ (List.mem_of_getElem? (i := 15) rfl)
theorem im_X5_save : Cond.instanceMethod yX5_save ∈ wsL_law := win_wsL_law_r26 _ (List.mem_of_getElem? (i := 16) rfl)
theorem se_X5_save : Cond.selects RX5 yX5_save yX5_save ∈ wsL_law := win_wsL_law_r26 _ (List.mem_of_getElem? (i := 17) rfl)
theorem co_X5_save : Cond.code yX5_save cX5_save 3 (some .int) ∈ wsL_law := win_wsL_law_r26 _ (List.mem_of_getElem? (i := 18) rfl)
theorem ml_L_96 : Cond.methodLink RL 96 yX4_restore ∈ wsL_law := win_wsL_law_r26 _ (List.mem_of_getElem? (i := 19) rfl)
theorem im_X4_restore : Cond.instanceMethod yX4_restore ∈ wsL_law := win_wsL_law_r26 _ (List.mem_of_getElem? (i := 20) rfl)
theorem se_X4_restore : Cond.selects RX4 yX4_restore yX4_restore ∈ wsL_law := win_wsL_law_r26 _ (List.mem_of_getElem? (i := 21) rfl)
theorem co_X4_restore : Cond.code yX4_restore cX4_restore 3 (some .int) ∈ wsL_law := win_wsL_law_r26 _ (List.mem_of_getElem? (i := 22) rfl)
theorem ml_L_99 : Cond.methodLink RL 99 yX5_restore ∈ wsL_law := win_wsL_law_r26 _ (List.mem_of_getElem? (i := 23) rfl)
theorem im_X5_restore : Cond.instanceMethod yX5_restore ∈ wsL_law := win_wsL_law_r27 _ (List.mem_of_getElem? (i := 0) rfl)
theorem se_X5_restore : Cond.selects RX5 yX5_restore yX5_restore ∈ wsL_law := win_wsL_law_r27 _ (List.mem_of_getElem? (i := 1) rfl)
theorem co_X5_restore : Cond.code yX5_restore cX5_restore 3 (some .int) ∈ wsL_law := win_wsL_law_r27 _ (List.mem_of_getElem? (i := 2) rfl)
theorem ux_same : Cond.sameMethod "[I" "java/lang/Object" "clone" "()Ljava/lang/Object;" ∈ wsL_law := win_wsL_law_r2 _ (List.mem_of_getElem? (i := 8) rfl)
theorem ux_nat : Cond.native ⟨"java/lang/Object", "clone", "()Ljava/lang/Object;"⟩ ∈ wsL_law := win_wsL_law_r2 _ (List.mem_of_getElem? (i := 9) rfl)
theorem ux_inst : Cond.instanceMethod ⟨"java/lang/Object", "clone", "()Ljava/lang/Object;"⟩ ∈ wsL_law := win_wsL_law_r2 _ (List.mem_of_getElem? (i := 10) rfl)
theorem ux_sel : Cond.selects "[I" ⟨"[I", "clone", "()Ljava/lang/Object;"⟩ ⟨"java/lang/Object", "clone", "()Ljava/lang/Object;"⟩ ∈ wsL_law := win_wsL_law_r2 _ (List.mem_of_getElem? (i := 11) rfl)
theorem ux_cnat : Cond.native arraycopyName ∈ wsL_law := win_wsL_law_r5 _ (List.mem_of_getElem? (i := 6) rfl)
theorem um_math : Cond.initialized "java/lang/Math" ∈ wsL_law := it_RJ9
theorem um_max_st : Cond.static Lib.Math.max.name ∈ wsL_law := sm_Lib_Math_max_name
theorem um_max_code : Cond.code Lib.Math.max.name Lib.Math.max.code 2 (some .int) ∈ wsL_law := co_Lib_Math_max_name
theorem um_min_st : Cond.static Lib.Math.min.name ∈ wsL_law := sm_Lib_Math_min_name
theorem um_min_code : Cond.code Lib.Math.min.name Lib.Math.min.code 2 (some .int) ∈ wsL_law := co_Lib_Math_min_name
theorem um_abs_st : Cond.static Lib.Math.abs.name ∈ wsL_law := sm_Lib_Math_abs_name
theorem um_abs_code : Cond.code Lib.Math.abs.name Lib.Math.abs.code 1 (some .int) ∈ wsL_law := co_Lib_Math_abs_name
theorem um_obj_in : Cond.instanceMethod objectInit ∈ wsL_law := im_objectInit
theorem um_obj_code : Cond.code objectInit ⟨#[0xb1]⟩ 1 none ∈ wsL_law := co_objectInit
set_option maxRecDepth 20000 in
theorem wg_wsL_law_r1 : ∀ w ∈ wsL_law_r1, goodWord w = true := List.all_eq_true.mp (by decide +kernel)
set_option maxRecDepth 20000 in
theorem wg_wsL_law_r2 : ∀ w ∈ wsL_law_r2, goodWord w = true := List.all_eq_true.mp (by decide +kernel)
set_option maxRecDepth 20000 in
theorem wg_wsL_law_r3 : ∀ w ∈ wsL_law_r3, goodWord w = true := List.all_eq_true.mp (by decide +kernel)
set_option maxRecDepth 20000 in
theorem wg_wsL_law_r4 : ∀ w ∈ wsL_law_r4, goodWord w = true := List.all_eq_true.mp (by decide +kernel)
set_option maxRecDepth 20000 in
theorem wg_wsL_law_r5 : ∀ w ∈ wsL_law_r5, goodWord w = true := List.all_eq_true.mp (by decide +kernel)
set_option maxRecDepth 20000 in
theorem wg_wsL_law_r6 : ∀ w ∈ wsL_law_r6, goodWord w = true := List.all_eq_true.mp (by decide +kernel)
set_option maxRecDepth 20000 in
theorem wg_wsL_law_r7 : ∀ w ∈ wsL_law_r7, goodWord w = true := List.all_eq_true.mp (by decide +kernel)
set_option maxRecDepth 20000 in
theorem wg_wsL_law_r8 : ∀ w ∈ wsL_law_r8, goodWord w = true := List.all_eq_true.mp (by decide +kernel)
set_option maxRecDepth 20000 in
theorem wg_wsL_law_r9 : ∀ w ∈ wsL_law_r9, goodWord w = true := List.all_eq_true.mp (by decide +kernel)
set_option maxRecDepth 20000 in
theorem wg_wsL_law_r10 : ∀ w ∈ wsL_law_r10, goodWord w = true := List.all_eq_true.mp (by decide +kernel)
set_option maxRecDepth 20000 in
theorem wg_wsL_law_r11 : ∀ w ∈ wsL_law_r11, goodWord w = true := List.all_eq_true.mp (by decide +kernel)
set_option maxRecDepth 20000 in
theorem wg_wsL_law_r12 : ∀ w ∈ wsL_law_r12, goodWord w = true := List.all_eq_true.mp (by decide +kernel)
set_option maxRecDepth 20000 in
theorem wg_wsL_law_r13 : ∀ w ∈ wsL_law_r13, goodWord w = true := List.all_eq_true.mp (by decide +kernel)
set_option maxRecDepth 20000 in
theorem wg_wsL_law_r14 : ∀ w ∈ wsL_law_r14, goodWord w = true := List.all_eq_true.mp (by decide +kernel)
set_option maxRecDepth 20000 in
theorem wg_wsL_law_r15 : ∀ w ∈ wsL_law_r15, goodWord w = true := List.all_eq_true.mp (by decide +kernel)
set_option maxRecDepth 20000 in
theorem wg_wsL_law_r16 : ∀ w ∈ wsL_law_r16, goodWord w = true := List.all_eq_true.mp (by decide +kernel)
set_option maxRecDepth 20000 in
theorem wg_wsL_law_r17 : ∀ w ∈ wsL_law_r17, goodWord w = true := List.all_eq_true.mp (by decide +kernel)
set_option maxRecDepth 20000 in
theorem wg_wsL_law_r18 : ∀ w ∈ wsL_law_r18, goodWord w = true := List.all_eq_true.mp (by decide +kernel)
set_option maxRecDepth 20000 in
theorem wg_wsL_law_r19 : ∀ w ∈ wsL_law_r19, goodWord w = true := List.all_eq_true.mp (by decide +kernel)
set_option maxRecDepth 20000 in
theorem wg_wsL_law_r20 : ∀ w ∈ wsL_law_r20, goodWord w = true := List.all_eq_true.mp (by decide +kernel)
set_option maxRecDepth 20000 in
theorem wg_wsL_law_r21 : ∀ w ∈ wsL_law_r21, goodWord w = true := List.all_eq_true.mp (by decide +kernel)
set_option maxRecDepth 20000 in
theorem wg_wsL_law_r22 : ∀ w ∈ wsL_law_r22, goodWord w = true := List.all_eq_true.mp (by decide +kernel)
set_option maxRecDepth 20000 in
theorem wg_wsL_law_r23 : ∀ w ∈ wsL_law_r23, goodWord w = true := List.all_eq_true.mp (by decide +kernel)
set_option maxRecDepth 20000 in
theorem wg_wsL_law_r24 : ∀ w ∈ wsL_law_r24, goodWord w = true := List.all_eq_true.mp (by decide +kernel)
set_option maxRecDepth 20000 in
theorem wg_wsL_law_r25 : ∀ w ∈ wsL_law_r25, goodWord w = true := List.all_eq_true.mp (by decide +kernel)
set_option maxRecDepth 20000 in
theorem wg_wsL_law_r26 : ∀ w ∈ wsL_law_r26, goodWord w = true := List.all_eq_true.mp (by decide +kernel)
set_option maxRecDepth 20000 in
theorem wg_wsL_law_r27 : ∀ w ∈ wsL_law_r27, goodWord w = true := List.all_eq_true.mp (by decide +kernel)
set_option maxRecDepth 20000 in
theorem wg_wsX40 : ∀ w ∈ wsX40, goodWord w = true := List.all_eq_true.mp (by decide +kernel)
set_option maxRecDepth 20000 in
theorem wg_wsX50 : ∀ w ∈ wsX50, goodWord w = true := List.all_eq_true.mp (by decide +kernel)
set_option maxRecDepth 20000 in
theorem wg_wsX30 : ∀ w ∈ wsX30, goodWord w = true := List.all_eq_true.mp (by decide +kernel)
set_option maxRecDepth 20000 in
theorem wg_wsX20 : ∀ w ∈ wsX20, goodWord w = true := List.all_eq_true.mp (by decide +kernel)
set_option maxRecDepth 20000 in
theorem wg_wsX10 : ∀ w ∈ wsX10, goodWord w = true := List.all_eq_true.mp (by decide +kernel)
set_option maxRecDepth 20000 in
theorem wg_wsX00 : ∀ w ∈ wsX00, goodWord w = true := List.all_eq_true.mp (by decide +kernel)
theorem wg_all : ∀ w ∈ wsL_law, goodWord w = true := List.forall_mem_append.mpr ⟨List.forall_mem_append.mpr ⟨List.forall_mem_append.mpr ⟨List.forall_mem_append.mpr ⟨List.forall_mem_append.mpr ⟨List.forall_mem_append.mpr ⟨List.forall_mem_append.mpr ⟨List.forall_mem_append.mpr ⟨wg_wsL_law_r1, List.forall_mem_append.mpr ⟨wg_wsL_law_r2, List.forall_mem_append.mpr ⟨wg_wsL_law_r3, List.forall_mem_append.mpr ⟨wg_wsL_law_r4, List.forall_mem_append.mpr ⟨wg_wsL_law_r5, List.forall_mem_append.mpr ⟨wg_wsL_law_r6, List.forall_mem_append.mpr ⟨wg_wsL_law_r7, List.forall_mem_append.mpr ⟨wg_wsL_law_r8, List.forall_mem_append.mpr ⟨wg_wsL_law_r9, List.forall_mem_append.mpr ⟨wg_wsL_law_r10, List.forall_mem_append.mpr ⟨wg_wsL_law_r11, List.forall_mem_append.mpr ⟨wg_wsL_law_r12, List.forall_mem_append.mpr ⟨wg_wsL_law_r13, List.forall_mem_append.mpr ⟨wg_wsL_law_r14, List.forall_mem_append.mpr ⟨wg_wsL_law_r15, List.forall_mem_append.mpr ⟨wg_wsL_law_r16, List.forall_mem_append.mpr ⟨wg_wsL_law_r17, List.forall_mem_append.mpr ⟨wg_wsL_law_r18, List.forall_mem_append.mpr ⟨wg_wsL_law_r19, List.forall_mem_append.mpr ⟨wg_wsL_law_r20, List.forall_mem_append.mpr ⟨wg_wsL_law_r21, List.forall_mem_append.mpr ⟨wg_wsL_law_r22, List.forall_mem_append.mpr ⟨wg_wsL_law_r23, List.forall_mem_append.mpr ⟨wg_wsL_law_r24, List.forall_mem_append.mpr ⟨wg_wsL_law_r25, List.forall_mem_append.mpr ⟨wg_wsL_law_r26, wg_wsL_law_r27⟩⟩⟩⟩⟩⟩⟩⟩⟩⟩⟩⟩⟩⟩⟩⟩⟩⟩⟩⟩⟩⟩⟩⟩⟩⟩, wg_wsX40⟩, wg_wsX50⟩, wg_wsX30⟩, wg_wsX20⟩, wg_wsX10⟩, wg_wsX00⟩, fun _ h => absurd h List.not_mem_nil⟩
/-- a method's words: its code, and all words of the law -/
def uw (y : MethodName) (cb : ByteArray) (maxL : Nat) (ret : Option FieldType) : List Cond := .code y cb maxL ret :: wsL_law
theorem uw_good {y : MethodName} {cb : ByteArray} {maxL : Nat} {ret : Option FieldType} (h : Cond.code y cb maxL ret ∈ wsL_law) : GoodIn wsL_law (uw y cb maxL ret) := by
  intro w hw
  have hm : w ∈ wsL_law := by
    rcases List.mem_cons.mp hw with rfl | h1
    · exact h
    · exact h1
  exact ⟨hm, good_of_word (wg_all w hm)⟩
end
section
theorem dX0_init_0 : decode cX0_init 0 = .ok (.aload_n 0, 1) := by decide +kernel
theorem dX0_init_1 : decode cX0_init 1 = .ok (.invokespecial 3, 3) := by decide +kernel
theorem dX0_init_4 : decode cX0_init 4 = .ok (.aload_n 0, 1) := by decide +kernel
theorem dX0_init_5 : decode cX0_init 5 = .ok (.bipush 9, 2) := by decide +kernel
theorem dX0_init_7 : decode cX0_init 7 = .ok (.newarray .int, 2) := by decide +kernel
theorem dX0_init_9 : decode cX0_init 9 = .ok (.putfield 9, 3) := by decide +kernel
theorem dX0_init_12 : decode cX0_init 12 = .ok (.aload_n 0, 1) := by decide +kernel
theorem dX0_init_13 : decode cX0_init 13 = .ok (.bipush 9, 2) := by decide +kernel
theorem dX0_init_15 : decode cX0_init 15 = .ok (.newarray .int, 2) := by decide +kernel
theorem dX0_init_17 : decode cX0_init 17 = .ok (.putfield 15, 3) := by decide +kernel
theorem dX0_init_20 : decode cX0_init 20 = .ok (.aload_n 0, 1) := by decide +kernel
theorem dX0_init_21 : decode cX0_init 21 = .ok (.bipush 9, 2) := by decide +kernel
theorem dX0_init_23 : decode cX0_init 23 = .ok (.newarray .int, 2) := by decide +kernel
theorem dX0_init_25 : decode cX0_init 25 = .ok (.putfield 18, 3) := by decide +kernel
theorem dX0_init_28 : decode cX0_init 28 = .ok (.aload_n 0, 1) := by decide +kernel
theorem dX0_init_29 : decode cX0_init 29 = .ok (.bipush (-6), 2) := by decide +kernel
theorem dX0_init_31 : decode cX0_init 31 = .ok (.putfield 21, 3) := by decide +kernel
theorem dX0_init_34 : decode cX0_init 34 = .ok (.return_, 1) := by decide +kernel
theorem dX0_becomeLike_0 : decode cX0_becomeLike 0 = .ok (.aload_n 1, 1) := by decide +kernel
theorem dX0_becomeLike_1 : decode cX0_becomeLike 1 = .ok (.getfield 9, 3) := by decide +kernel
theorem dX0_becomeLike_4 : decode cX0_becomeLike 4 = .ok (.iconst 0, 1) := by decide +kernel
theorem dX0_becomeLike_5 : decode cX0_becomeLike 5 = .ok (.aload_n 0, 1) := by decide +kernel
theorem dX0_becomeLike_6 : decode cX0_becomeLike 6 = .ok (.getfield 9, 3) := by decide +kernel
theorem dX0_becomeLike_9 : decode cX0_becomeLike 9 = .ok (.iconst 0, 1) := by decide +kernel
theorem dX0_becomeLike_10 : decode cX0_becomeLike 10 = .ok (.bipush 9, 2) := by decide +kernel
theorem dX0_becomeLike_12 : decode cX0_becomeLike 12 = .ok (.invokestatic 25, 3) := by decide +kernel
theorem dX0_becomeLike_15 : decode cX0_becomeLike 15 = .ok (.aload_n 1, 1) := by decide +kernel
theorem dX0_becomeLike_16 : decode cX0_becomeLike 16 = .ok (.getfield 15, 3) := by decide +kernel
theorem dX0_becomeLike_19 : decode cX0_becomeLike 19 = .ok (.iconst 0, 1) := by decide +kernel
theorem dX0_becomeLike_20 : decode cX0_becomeLike 20 = .ok (.aload_n 0, 1) := by decide +kernel
theorem dX0_becomeLike_21 : decode cX0_becomeLike 21 = .ok (.getfield 15, 3) := by decide +kernel
theorem dX0_becomeLike_24 : decode cX0_becomeLike 24 = .ok (.iconst 0, 1) := by decide +kernel
theorem dX0_becomeLike_25 : decode cX0_becomeLike 25 = .ok (.bipush 9, 2) := by decide +kernel
theorem dX0_becomeLike_27 : decode cX0_becomeLike 27 = .ok (.invokestatic 25, 3) := by decide +kernel
theorem dX0_becomeLike_30 : decode cX0_becomeLike 30 = .ok (.aload_n 1, 1) := by decide +kernel
theorem dX0_becomeLike_31 : decode cX0_becomeLike 31 = .ok (.getfield 18, 3) := by decide +kernel
theorem dX0_becomeLike_34 : decode cX0_becomeLike 34 = .ok (.iconst 0, 1) := by decide +kernel
theorem dX0_becomeLike_35 : decode cX0_becomeLike 35 = .ok (.aload_n 0, 1) := by decide +kernel
theorem dX0_becomeLike_36 : decode cX0_becomeLike 36 = .ok (.getfield 18, 3) := by decide +kernel
theorem dX0_becomeLike_39 : decode cX0_becomeLike 39 = .ok (.iconst 0, 1) := by decide +kernel
theorem dX0_becomeLike_40 : decode cX0_becomeLike 40 = .ok (.bipush 9, 2) := by decide +kernel
theorem dX0_becomeLike_42 : decode cX0_becomeLike 42 = .ok (.invokestatic 25, 3) := by decide +kernel
theorem dX0_becomeLike_45 : decode cX0_becomeLike 45 = .ok (.aload_n 0, 1) := by decide +kernel
theorem dX0_becomeLike_46 : decode cX0_becomeLike 46 = .ok (.aload_n 1, 1) := by decide +kernel
theorem dX0_becomeLike_47 : decode cX0_becomeLike 47 = .ok (.getfield 31, 3) := by decide +kernel
theorem dX0_becomeLike_50 : decode cX0_becomeLike 50 = .ok (.putfield 31, 3) := by decide +kernel
theorem dX0_becomeLike_53 : decode cX0_becomeLike 53 = .ok (.aload_n 0, 1) := by decide +kernel
theorem dX0_becomeLike_54 : decode cX0_becomeLike 54 = .ok (.aload_n 1, 1) := by decide +kernel
theorem dX0_becomeLike_55 : decode cX0_becomeLike 55 = .ok (.getfield 21, 3) := by decide +kernel
theorem dX0_becomeLike_58 : decode cX0_becomeLike 58 = .ok (.putfield 21, 3) := by decide +kernel
theorem dX0_becomeLike_61 : decode cX0_becomeLike 61 = .ok (.aload_n 0, 1) := by decide +kernel
theorem dX0_becomeLike_62 : decode cX0_becomeLike 62 = .ok (.aload_n 1, 1) := by decide +kernel
theorem dX0_becomeLike_63 : decode cX0_becomeLike 63 = .ok (.getfield 34, 3) := by decide +kernel
theorem dX0_becomeLike_66 : decode cX0_becomeLike 66 = .ok (.putfield 34, 3) := by decide +kernel
theorem dX0_becomeLike_69 : decode cX0_becomeLike 69 = .ok (.return_, 1) := by decide +kernel
theorem dX0_note_0 : decode cX0_note 0 = .ok (.iconst 3, 1) := by decide +kernel
theorem dX0_note_1 : decode cX0_note 1 = .ok (.iload_n 1, 1) := by decide +kernel
theorem dX0_note_2 : decode cX0_note 2 = .ok (.iconst 1, 1) := by decide +kernel
theorem dX0_note_3 : decode cX0_note 3 = .ok (.iadd, 1) := by decide +kernel
theorem dX0_note_4 : decode cX0_note 4 = .ok (.imul, 1) := by decide +kernel
theorem dX0_note_5 : decode cX0_note 5 = .ok (.iload_n 2, 1) := by decide +kernel
theorem dX0_note_6 : decode cX0_note 6 = .ok (.iadd, 1) := by decide +kernel
theorem dX0_note_7 : decode cX0_note 7 = .ok (.iconst 1, 1) := by decide +kernel
theorem dX0_note_8 : decode cX0_note 8 = .ok (.iadd, 1) := by decide +kernel
theorem dX0_note_9 : decode cX0_note 9 = .ok (.istore_n 3, 1) := by decide +kernel
theorem dX0_note_10 : decode cX0_note 10 = .ok (.iload_n 3, 1) := by decide +kernel
theorem dX0_note_11 : decode cX0_note 11 = .ok (.ifCond .lt 9, 3) := by decide +kernel
theorem dX0_note_14 : decode cX0_note 14 = .ok (.iload_n 3, 1) := by decide +kernel
theorem dX0_note_15 : decode cX0_note 15 = .ok (.bipush 9, 2) := by decide +kernel
theorem dX0_note_17 : decode cX0_note 17 = .ok (.if_icmp .lt 4, 3) := by decide +kernel
theorem dX0_note_20 : decode cX0_note 20 = .ok (.return_, 1) := by decide +kernel
theorem dX0_note_21 : decode cX0_note 21 = .ok (.aload_n 0, 1) := by decide +kernel
theorem dX0_note_22 : decode cX0_note 22 = .ok (.getfield 15, 3) := by decide +kernel
theorem dX0_note_25 : decode cX0_note 25 = .ok (.iload_n 3, 1) := by decide +kernel
theorem dX0_note_26 : decode cX0_note 26 = .ok (.iaload, 1) := by decide +kernel
theorem dX0_note_27 : decode cX0_note 27 = .ok (.ifCond .ne 32, 3) := by decide +kernel
theorem dX0_note_30 : decode cX0_note 30 = .ok (.aload_n 0, 1) := by decide +kernel
theorem dX0_note_31 : decode cX0_note 31 = .ok (.getfield 31, 3) := by decide +kernel
theorem dX0_note_34 : decode cX0_note 34 = .ok (.bipush 9, 2) := by decide +kernel
theorem dX0_note_36 : decode cX0_note 36 = .ok (.if_icmp .ge 23, 3) := by decide +kernel
theorem dX0_note_39 : decode cX0_note 39 = .ok (.aload_n 0, 1) := by decide +kernel
theorem dX0_note_40 : decode cX0_note 40 = .ok (.getfield 9, 3) := by decide +kernel
theorem dX0_note_43 : decode cX0_note 43 = .ok (.aload_n 0, 1) := by decide +kernel
theorem dX0_note_44 : decode cX0_note 44 = .ok (.getfield 31, 3) := by decide +kernel
theorem dX0_note_47 : decode cX0_note 47 = .ok (.iload_n 3, 1) := by decide +kernel
theorem dX0_note_48 : decode cX0_note 48 = .ok (.iastore, 1) := by decide +kernel
theorem dX0_note_49 : decode cX0_note 49 = .ok (.aload_n 0, 1) := by decide +kernel
theorem dX0_note_50 : decode cX0_note 50 = .ok (.dup, 1) := by decide +kernel
theorem dX0_note_51 : decode cX0_note 51 = .ok (.getfield 31, 3) := by decide +kernel
theorem dX0_note_54 : decode cX0_note 54 = .ok (.iconst 1, 1) := by decide +kernel
theorem dX0_note_55 : decode cX0_note 55 = .ok (.iadd, 1) := by decide +kernel
theorem dX0_note_56 : decode cX0_note 56 = .ok (.putfield 31, 3) := by decide +kernel
theorem dX0_note_59 : decode cX0_note 59 = .ok (.aload_n 0, 1) := by decide +kernel
theorem dX0_note_60 : decode cX0_note 60 = .ok (.iload_n 3, 1) := by decide +kernel
theorem dX0_note_61 : decode cX0_note 61 = .ok (.aload_n 0, 1) := by decide +kernel
theorem dX0_note_62 : decode cX0_note 62 = .ok (.getfield 21, 3) := by decide +kernel
theorem dX0_note_65 : decode cX0_note 65 = .ok (.if_icmp .ne 12, 3) := by decide +kernel
theorem dX0_note_68 : decode cX0_note 68 = .ok (.aload_n 0, 1) := by decide +kernel
theorem dX0_note_69 : decode cX0_note 69 = .ok (.getfield 34, 3) := by decide +kernel
theorem dX0_note_72 : decode cX0_note 72 = .ok (.iconst 1, 1) := by decide +kernel
theorem dX0_note_73 : decode cX0_note 73 = .ok (.iadd, 1) := by decide +kernel
theorem dX0_note_74 : decode cX0_note 74 = .ok (.goto 4, 3) := by decide +kernel
theorem dX0_note_77 : decode cX0_note 77 = .ok (.iconst 1, 1) := by decide +kernel
theorem dX0_note_78 : decode cX0_note 78 = .ok (.putfield 34, 3) := by decide +kernel
theorem dX0_note_81 : decode cX0_note 81 = .ok (.aload_n 0, 1) := by decide +kernel
theorem dX0_note_82 : decode cX0_note 82 = .ok (.iload_n 3, 1) := by decide +kernel
theorem dX0_note_83 : decode cX0_note 83 = .ok (.putfield 21, 3) := by decide +kernel
theorem dX0_note_86 : decode cX0_note 86 = .ok (.aload_n 0, 1) := by decide +kernel
theorem dX0_note_87 : decode cX0_note 87 = .ok (.getfield 15, 3) := by decide +kernel
theorem dX0_note_90 : decode cX0_note 90 = .ok (.iload_n 3, 1) := by decide +kernel
theorem dX0_note_91 : decode cX0_note 91 = .ok (.dup2, 1) := by decide +kernel
theorem dX0_note_92 : decode cX0_note 92 = .ok (.iaload, 1) := by decide +kernel
theorem dX0_note_93 : decode cX0_note 93 = .ok (.iconst 1, 1) := by decide +kernel
theorem dX0_note_94 : decode cX0_note 94 = .ok (.iadd, 1) := by decide +kernel
theorem dX0_note_95 : decode cX0_note 95 = .ok (.iastore, 1) := by decide +kernel
theorem dX0_note_96 : decode cX0_note 96 = .ok (.aload_n 0, 1) := by decide +kernel
theorem dX0_note_97 : decode cX0_note 97 = .ok (.getfield 18, 3) := by decide +kernel
theorem dX0_note_100 : decode cX0_note 100 = .ok (.iload_n 3, 1) := by decide +kernel
theorem dX0_note_101 : decode cX0_note 101 = .ok (.aload_n 0, 1) := by decide +kernel
theorem dX0_note_102 : decode cX0_note 102 = .ok (.getfield 18, 3) := by decide +kernel
theorem dX0_note_105 : decode cX0_note 105 = .ok (.iload_n 3, 1) := by decide +kernel
theorem dX0_note_106 : decode cX0_note 106 = .ok (.iaload, 1) := by decide +kernel
theorem dX0_note_107 : decode cX0_note 107 = .ok (.aload_n 0, 1) := by decide +kernel
theorem dX0_note_108 : decode cX0_note 108 = .ok (.getfield 34, 3) := by decide +kernel
theorem dX0_note_111 : decode cX0_note 111 = .ok (.invokestatic 37, 3) := by decide +kernel
theorem dX0_note_114 : decode cX0_note 114 = .ok (.iastore, 1) := by decide +kernel
theorem dX0_note_115 : decode cX0_note 115 = .ok (.return_, 1) := by decide +kernel
theorem dX0_about_0 : decode cX0_about 0 = .ok (.iload_n 1, 1) := by decide +kernel
theorem dX0_about_1 : decode cX0_about 1 = .ok (.ifCond .lt 17, 3) := by decide +kernel
theorem dX0_about_4 : decode cX0_about 4 = .ok (.iload_n 1, 1) := by decide +kernel
theorem dX0_about_5 : decode cX0_about 5 = .ok (.aload_n 0, 1) := by decide +kernel
theorem dX0_about_6 : decode cX0_about 6 = .ok (.getfield 31, 3) := by decide +kernel
theorem dX0_about_9 : decode cX0_about 9 = .ok (.if_icmp .ge 9, 3) := by decide +kernel
theorem dX0_about_12 : decode cX0_about 12 = .ok (.iload_n 1, 1) := by decide +kernel
theorem dX0_about_13 : decode cX0_about 13 = .ok (.bipush 9, 2) := by decide +kernel
theorem dX0_about_15 : decode cX0_about 15 = .ok (.if_icmp .lt 5, 3) := by decide +kernel
theorem dX0_about_18 : decode cX0_about 18 = .ok (.iconst (-1), 1) := by decide +kernel
theorem dX0_about_19 : decode cX0_about 19 = .ok (.ireturn, 1) := by decide +kernel
theorem dX0_about_20 : decode cX0_about 20 = .ok (.aload_n 0, 1) := by decide +kernel
theorem dX0_about_21 : decode cX0_about 21 = .ok (.getfield 9, 3) := by decide +kernel
theorem dX0_about_24 : decode cX0_about 24 = .ok (.iload_n 1, 1) := by decide +kernel
theorem dX0_about_25 : decode cX0_about 25 = .ok (.iaload, 1) := by decide +kernel
theorem dX0_about_26 : decode cX0_about 26 = .ok (.istore_n 3, 1) := by decide +kernel
theorem dX0_about_27 : decode cX0_about 27 = .ok (.iload_n 3, 1) := by decide +kernel
theorem dX0_about_28 : decode cX0_about 28 = .ok (.ifCond .lt 9, 3) := by decide +kernel
theorem dX0_about_31 : decode cX0_about 31 = .ok (.iload_n 3, 1) := by decide +kernel
theorem dX0_about_32 : decode cX0_about 32 = .ok (.bipush 9, 2) := by decide +kernel
theorem dX0_about_34 : decode cX0_about 34 = .ok (.if_icmp .lt 5, 3) := by decide +kernel
theorem dX0_about_37 : decode cX0_about 37 = .ok (.iconst (-1), 1) := by decide +kernel
theorem dX0_about_38 : decode cX0_about 38 = .ok (.ireturn, 1) := by decide +kernel
theorem dX0_about_39 : decode cX0_about 39 = .ok (.iload_n 2, 1) := by decide +kernel
theorem dX0_about_40 : decode cX0_about 40 = .ok (.tableswitch 54 0 3 #[32, 36, 40, 47], 32) := by decide +kernel
theorem dX0_about_72 : decode cX0_about 72 = .ok (.iload_n 3, 1) := by decide +kernel
theorem dX0_about_73 : decode cX0_about 73 = .ok (.iconst 3, 1) := by decide +kernel
theorem dX0_about_74 : decode cX0_about 74 = .ok (.idiv, 1) := by decide +kernel
theorem dX0_about_75 : decode cX0_about 75 = .ok (.ireturn, 1) := by decide +kernel
theorem dX0_about_76 : decode cX0_about 76 = .ok (.iload_n 3, 1) := by decide +kernel
theorem dX0_about_77 : decode cX0_about 77 = .ok (.iconst 3, 1) := by decide +kernel
theorem dX0_about_78 : decode cX0_about 78 = .ok (.irem, 1) := by decide +kernel
theorem dX0_about_79 : decode cX0_about 79 = .ok (.ireturn, 1) := by decide +kernel
theorem dX0_about_80 : decode cX0_about 80 = .ok (.aload_n 0, 1) := by decide +kernel
theorem dX0_about_81 : decode cX0_about 81 = .ok (.getfield 15, 3) := by decide +kernel
theorem dX0_about_84 : decode cX0_about 84 = .ok (.iload_n 3, 1) := by decide +kernel
theorem dX0_about_85 : decode cX0_about 85 = .ok (.iaload, 1) := by decide +kernel
theorem dX0_about_86 : decode cX0_about 86 = .ok (.ireturn, 1) := by decide +kernel
theorem dX0_about_87 : decode cX0_about 87 = .ok (.aload_n 0, 1) := by decide +kernel
theorem dX0_about_88 : decode cX0_about 88 = .ok (.getfield 18, 3) := by decide +kernel
theorem dX0_about_91 : decode cX0_about 91 = .ok (.iload_n 3, 1) := by decide +kernel
theorem dX0_about_92 : decode cX0_about 92 = .ok (.iaload, 1) := by decide +kernel
theorem dX0_about_93 : decode cX0_about 93 = .ok (.ireturn, 1) := by decide +kernel
theorem dX0_about_94 : decode cX0_about 94 = .ok (.bipush (-2), 2) := by decide +kernel
theorem dX0_about_96 : decode cX0_about 96 = .ok (.ireturn, 1) := by decide +kernel
theorem dX1_init_0 : decode cX1_init 0 = .ok (.aload_n 0, 1) := by decide +kernel
theorem dX1_init_1 : decode cX1_init 1 = .ok (.invokespecial 3, 3) := by decide +kernel
theorem dX1_init_4 : decode cX1_init 4 = .ok (.aload_n 0, 1) := by decide +kernel
theorem dX1_init_5 : decode cX1_init 5 = .ok (.bipush 6, 2) := by decide +kernel
theorem dX1_init_7 : decode cX1_init 7 = .ok (.anewarray 9, 3) := by decide +kernel
theorem dX1_init_10 : decode cX1_init 10 = .ok (.putfield 11, 3) := by decide +kernel
theorem dX1_init_13 : decode cX1_init 13 = .ok (.return_, 1) := by decide +kernel
theorem dX1_placeOf_0 : decode cX1_placeOf 0 = .ok (.aload_n 0, 1) := by decide +kernel
theorem dX1_placeOf_1 : decode cX1_placeOf 1 = .ok (.getfield 17, 3) := by decide +kernel
theorem dX1_placeOf_4 : decode cX1_placeOf 4 = .ok (.iload_n 1, 1) := by decide +kernel
theorem dX1_placeOf_5 : decode cX1_placeOf 5 = .ok (.iadd, 1) := by decide +kernel
theorem dX1_placeOf_6 : decode cX1_placeOf 6 = .ok (.bipush 6, 2) := by decide +kernel
theorem dX1_placeOf_8 : decode cX1_placeOf 8 = .ok (.invokestatic 21, 3) := by decide +kernel
theorem dX1_placeOf_11 : decode cX1_placeOf 11 = .ok (.ireturn, 1) := by decide +kernel
theorem dX1_keep_0 : decode cX1_keep 0 = .ok (.aload_n 0, 1) := by decide +kernel
theorem dX1_keep_1 : decode cX1_keep 1 = .ok (.aload_n 0, 1) := by decide +kernel
theorem dX1_keep_2 : decode cX1_keep 2 = .ok (.getfield 27, 3) := by decide +kernel
theorem dX1_keep_5 : decode cX1_keep 5 = .ok (.invokevirtual 30, 3) := by decide +kernel
theorem dX1_keep_8 : decode cX1_keep 8 = .ok (.istore_n 2, 1) := by decide +kernel
theorem dX1_keep_9 : decode cX1_keep 9 = .ok (.iload_n 2, 1) := by decide +kernel
theorem dX1_keep_10 : decode cX1_keep 10 = .ok (.ifCond .lt 12, 3) := by decide +kernel
theorem dX1_keep_13 : decode cX1_keep 13 = .ok (.iload_n 2, 1) := by decide +kernel
theorem dX1_keep_14 : decode cX1_keep 14 = .ok (.aload_n 0, 1) := by decide +kernel
theorem dX1_keep_15 : decode cX1_keep 15 = .ok (.getfield 11, 3) := by decide +kernel
theorem dX1_keep_18 : decode cX1_keep 18 = .ok (.arraylength, 1) := by decide +kernel
theorem dX1_keep_19 : decode cX1_keep 19 = .ok (.if_icmp .lt 4, 3) := by decide +kernel
theorem dX1_keep_22 : decode cX1_keep 22 = .ok (.return_, 1) := by decide +kernel
theorem dX1_keep_23 : decode cX1_keep 23 = .ok (.aload_n 0, 1) := by decide +kernel
theorem dX1_keep_24 : decode cX1_keep 24 = .ok (.getfield 11, 3) := by decide +kernel
theorem dX1_keep_27 : decode cX1_keep 27 = .ok (.iload_n 2, 1) := by decide +kernel
theorem dX1_keep_28 : decode cX1_keep 28 = .ok (.aaload, 1) := by decide +kernel
theorem dX1_keep_29 : decode cX1_keep 29 = .ok (.astore_n 3, 1) := by decide +kernel
theorem dX1_keep_30 : decode cX1_keep 30 = .ok (.aload_n 3, 1) := by decide +kernel
theorem dX1_keep_31 : decode cX1_keep 31 = .ok (.ifnonnull 18, 3) := by decide +kernel
theorem dX1_keep_34 : decode cX1_keep 34 = .ok (.new 9, 3) := by decide +kernel
theorem dX1_keep_37 : decode cX1_keep 37 = .ok (.dup, 1) := by decide +kernel
theorem dX1_keep_38 : decode cX1_keep 38 = .ok (.invokespecial 34, 3) := by decide +kernel
theorem dX1_keep_41 : decode cX1_keep 41 = .ok (.astore_n 3, 1) := by decide +kernel
theorem dX1_keep_42 : decode cX1_keep 42 = .ok (.aload_n 0, 1) := by decide +kernel
theorem dX1_keep_43 : decode cX1_keep 43 = .ok (.getfield 11, 3) := by decide +kernel
theorem dX1_keep_46 : decode cX1_keep 46 = .ok (.iload_n 2, 1) := by decide +kernel
theorem dX1_keep_47 : decode cX1_keep 47 = .ok (.aload_n 3, 1) := by decide +kernel
theorem dX1_keep_48 : decode cX1_keep 48 = .ok (.aastore, 1) := by decide +kernel
theorem dX1_keep_49 : decode cX1_keep 49 = .ok (.aload_n 3, 1) := by decide +kernel
theorem dX1_keep_50 : decode cX1_keep 50 = .ok (.aload_n 1, 1) := by decide +kernel
theorem dX1_keep_51 : decode cX1_keep 51 = .ok (.invokevirtual 35, 3) := by decide +kernel
theorem dX1_keep_54 : decode cX1_keep 54 = .ok (.aload_n 0, 1) := by decide +kernel
theorem dX1_keep_55 : decode cX1_keep 55 = .ok (.getfield 27, 3) := by decide +kernel
theorem dX1_keep_58 : decode cX1_keep 58 = .ok (.bipush 6, 2) := by decide +kernel
theorem dX1_keep_60 : decode cX1_keep 60 = .ok (.if_icmp .ge 16, 3) := by decide +kernel
theorem dX1_keep_63 : decode cX1_keep 63 = .ok (.aload_n 0, 1) := by decide +kernel
theorem dX1_keep_64 : decode cX1_keep 64 = .ok (.dup, 1) := by decide +kernel
theorem dX1_keep_65 : decode cX1_keep 65 = .ok (.getfield 27, 3) := by decide +kernel
theorem dX1_keep_68 : decode cX1_keep 68 = .ok (.iconst 1, 1) := by decide +kernel
theorem dX1_keep_69 : decode cX1_keep 69 = .ok (.iadd, 1) := by decide +kernel
theorem dX1_keep_70 : decode cX1_keep 70 = .ok (.putfield 27, 3) := by decide +kernel
theorem dX1_keep_73 : decode cX1_keep 73 = .ok (.goto 12, 3) := by decide +kernel
theorem dX1_keep_76 : decode cX1_keep 76 = .ok (.aload_n 0, 1) := by decide +kernel
theorem dX1_keep_77 : decode cX1_keep 77 = .ok (.aload_n 0, 1) := by decide +kernel
theorem dX1_keep_78 : decode cX1_keep 78 = .ok (.iconst 1, 1) := by decide +kernel
theorem dX1_keep_79 : decode cX1_keep 79 = .ok (.invokevirtual 30, 3) := by decide +kernel
theorem dX1_keep_82 : decode cX1_keep 82 = .ok (.putfield 17, 3) := by decide +kernel
theorem dX1_keep_85 : decode cX1_keep 85 = .ok (.return_, 1) := by decide +kernel
theorem dX1_takeBack_0 : decode cX1_takeBack 0 = .ok (.aload_n 0, 1) := by decide +kernel
theorem dX1_takeBack_1 : decode cX1_takeBack 1 = .ok (.aload_n 0, 1) := by decide +kernel
theorem dX1_takeBack_2 : decode cX1_takeBack 2 = .ok (.getfield 27, 3) := by decide +kernel
theorem dX1_takeBack_5 : decode cX1_takeBack 5 = .ok (.iconst 1, 1) := by decide +kernel
theorem dX1_takeBack_6 : decode cX1_takeBack 6 = .ok (.isub, 1) := by decide +kernel
theorem dX1_takeBack_7 : decode cX1_takeBack 7 = .ok (.invokevirtual 30, 3) := by decide +kernel
theorem dX1_takeBack_10 : decode cX1_takeBack 10 = .ok (.istore_n 2, 1) := by decide +kernel
theorem dX1_takeBack_11 : decode cX1_takeBack 11 = .ok (.aload_n 0, 1) := by decide +kernel
theorem dX1_takeBack_12 : decode cX1_takeBack 12 = .ok (.getfield 27, 3) := by decide +kernel
theorem dX1_takeBack_15 : decode cX1_takeBack 15 = .ok (.ifCond .eq 16, 3) := by decide +kernel
theorem dX1_takeBack_18 : decode cX1_takeBack 18 = .ok (.iload_n 2, 1) := by decide +kernel
theorem dX1_takeBack_19 : decode cX1_takeBack 19 = .ok (.ifCond .lt 12, 3) := by decide +kernel
theorem dX1_takeBack_22 : decode cX1_takeBack 22 = .ok (.iload_n 2, 1) := by decide +kernel
theorem dX1_takeBack_23 : decode cX1_takeBack 23 = .ok (.aload_n 0, 1) := by decide +kernel
theorem dX1_takeBack_24 : decode cX1_takeBack 24 = .ok (.getfield 11, 3) := by decide +kernel
theorem dX1_takeBack_27 : decode cX1_takeBack 27 = .ok (.arraylength, 1) := by decide +kernel
theorem dX1_takeBack_28 : decode cX1_takeBack 28 = .ok (.if_icmp .lt 6, 3) := by decide +kernel
theorem dX1_takeBack_31 : decode cX1_takeBack 31 = .ok (.bipush (-5), 2) := by decide +kernel
theorem dX1_takeBack_33 : decode cX1_takeBack 33 = .ok (.ireturn, 1) := by decide +kernel
theorem dX1_takeBack_34 : decode cX1_takeBack 34 = .ok (.aload_n 0, 1) := by decide +kernel
theorem dX1_takeBack_35 : decode cX1_takeBack 35 = .ok (.getfield 11, 3) := by decide +kernel
theorem dX1_takeBack_38 : decode cX1_takeBack 38 = .ok (.iload_n 2, 1) := by decide +kernel
theorem dX1_takeBack_39 : decode cX1_takeBack 39 = .ok (.aaload, 1) := by decide +kernel
theorem dX1_takeBack_40 : decode cX1_takeBack 40 = .ok (.astore_n 3, 1) := by decide +kernel
theorem dX1_takeBack_41 : decode cX1_takeBack 41 = .ok (.aload_n 3, 1) := by decide +kernel
theorem dX1_takeBack_42 : decode cX1_takeBack 42 = .ok (.ifnonnull 6, 3) := by decide +kernel
theorem dX1_takeBack_45 : decode cX1_takeBack 45 = .ok (.bipush (-5), 2) := by decide +kernel
theorem dX1_takeBack_47 : decode cX1_takeBack 47 = .ok (.ireturn, 1) := by decide +kernel
theorem dX1_takeBack_48 : decode cX1_takeBack 48 = .ok (.aload_n 1, 1) := by decide +kernel
theorem dX1_takeBack_49 : decode cX1_takeBack 49 = .ok (.aload_n 3, 1) := by decide +kernel
theorem dX1_takeBack_50 : decode cX1_takeBack 50 = .ok (.invokevirtual 35, 3) := by decide +kernel
theorem dX1_takeBack_53 : decode cX1_takeBack 53 = .ok (.aload_n 0, 1) := by decide +kernel
theorem dX1_takeBack_54 : decode cX1_takeBack 54 = .ok (.dup, 1) := by decide +kernel
theorem dX1_takeBack_55 : decode cX1_takeBack 55 = .ok (.getfield 27, 3) := by decide +kernel
theorem dX1_takeBack_58 : decode cX1_takeBack 58 = .ok (.iconst 1, 1) := by decide +kernel
theorem dX1_takeBack_59 : decode cX1_takeBack 59 = .ok (.isub, 1) := by decide +kernel
theorem dX1_takeBack_60 : decode cX1_takeBack 60 = .ok (.putfield 27, 3) := by decide +kernel
theorem dX1_takeBack_63 : decode cX1_takeBack 63 = .ok (.aload_n 0, 1) := by decide +kernel
theorem dX1_takeBack_64 : decode cX1_takeBack 64 = .ok (.getfield 27, 3) := by decide +kernel
theorem dX1_takeBack_67 : decode cX1_takeBack 67 = .ok (.ireturn, 1) := by decide +kernel
theorem dX2_init_0 : decode cX2_init 0 = .ok (.aload_n 0, 1) := by decide +kernel
theorem dX2_init_1 : decode cX2_init 1 = .ok (.invokespecial 3, 3) := by decide +kernel
theorem dX2_init_4 : decode cX2_init 4 = .ok (.aload_n 0, 1) := by decide +kernel
theorem dX2_init_5 : decode cX2_init 5 = .ok (.bipush 80, 2) := by decide +kernel
theorem dX2_init_7 : decode cX2_init 7 = .ok (.newarray .char, 2) := by decide +kernel
theorem dX2_init_9 : decode cX2_init 9 = .ok (.putfield 9, 3) := by decide +kernel
theorem dX2_init_12 : decode cX2_init 12 = .ok (.return_, 1) := by decide +kernel
theorem dX2_append_0 : decode cX2_append 0 = .ok (.lload_n 1, 1) := by decide +kernel
theorem dX2_append_1 : decode cX2_append 1 = .ok (.invokestatic 15, 3) := by decide +kernel
theorem dX2_append_4 : decode cX2_append 4 = .ok (.istore_n 3, 1) := by decide +kernel
theorem dX2_append_5 : decode cX2_append 5 = .ok (.iload_n 3, 1) := by decide +kernel
theorem dX2_append_6 : decode cX2_append 6 = .ok (.ifCond .ne 6, 3) := by decide +kernel
theorem dX2_append_9 : decode cX2_append 9 = .ok (.bipush (-2), 2) := by decide +kernel
theorem dX2_append_11 : decode cX2_append 11 = .ok (.ireturn, 1) := by decide +kernel
theorem dX2_append_12 : decode cX2_append 12 = .ok (.aload_n 0, 1) := by decide +kernel
theorem dX2_append_13 : decode cX2_append 13 = .ok (.getfield 19, 3) := by decide +kernel
theorem dX2_append_16 : decode cX2_append 16 = .ok (.iload_n 3, 1) := by decide +kernel
theorem dX2_append_17 : decode cX2_append 17 = .ok (.iadd, 1) := by decide +kernel
theorem dX2_append_18 : decode cX2_append 18 = .ok (.bipush 80, 2) := by decide +kernel
theorem dX2_append_20 : decode cX2_append 20 = .ok (.if_icmp .le 6, 3) := by decide +kernel
theorem dX2_append_23 : decode cX2_append 23 = .ok (.bipush (-4), 2) := by decide +kernel
theorem dX2_append_25 : decode cX2_append 25 = .ok (.ireturn, 1) := by decide +kernel
theorem dX2_append_26 : decode cX2_append 26 = .ok (.iload_n 3, 1) := by decide +kernel
theorem dX2_append_27 : decode cX2_append 27 = .ok (.iconst 1, 1) := by decide +kernel
theorem dX2_append_28 : decode cX2_append 28 = .ok (.isub, 1) := by decide +kernel
theorem dX2_append_29 : decode cX2_append 29 = .ok (.istore 4, 2) := by decide +kernel
theorem dX2_append_31 : decode cX2_append 31 = .ok (.iload 4, 2) := by decide +kernel
theorem dX2_append_33 : decode cX2_append 33 = .ok (.ifCond .lt 53, 3) := by decide +kernel
theorem dX2_append_36 : decode cX2_append 36 = .ok (.aload_n 0, 1) := by decide +kernel
theorem dX2_append_37 : decode cX2_append 37 = .ok (.getfield 19, 3) := by decide +kernel
theorem dX2_append_40 : decode cX2_append 40 = .ok (.aload_n 0, 1) := by decide +kernel
theorem dX2_append_41 : decode cX2_append 41 = .ok (.getfield 9, 3) := by decide +kernel
theorem dX2_append_44 : decode cX2_append 44 = .ok (.arraylength, 1) := by decide +kernel
theorem dX2_append_45 : decode cX2_append 45 = .ok (.if_icmp .ge 41, 3) := by decide +kernel
theorem dX2_append_48 : decode cX2_append 48 = .ok (.aload_n 0, 1) := by decide +kernel
theorem dX2_append_49 : decode cX2_append 49 = .ok (.getfield 9, 3) := by decide +kernel
theorem dX2_append_52 : decode cX2_append 52 = .ok (.aload_n 0, 1) := by decide +kernel
theorem dX2_append_53 : decode cX2_append 53 = .ok (.getfield 19, 3) := by decide +kernel
theorem dX2_append_56 : decode cX2_append 56 = .ok (.lload_n 1, 1) := by decide +kernel
theorem dX2_append_57 : decode cX2_append 57 = .ok (.bipush 8, 2) := by decide +kernel
theorem dX2_append_59 : decode cX2_append 59 = .ok (.iload 4, 2) := by decide +kernel
theorem dX2_append_61 : decode cX2_append 61 = .ok (.imul, 1) := by decide +kernel
theorem dX2_append_62 : decode cX2_append 62 = .ok (.lushr, 1) := by decide +kernel
theorem dX2_append_63 : decode cX2_append 63 = .ok (.ldc2_w 23, 3) := by decide +kernel
theorem dX2_append_66 : decode cX2_append 66 = .ok (.land, 1) := by decide +kernel
theorem dX2_append_67 : decode cX2_append 67 = .ok (.l2i, 1) := by decide +kernel
theorem dX2_append_68 : decode cX2_append 68 = .ok (.i2c, 1) := by decide +kernel
theorem dX2_append_69 : decode cX2_append 69 = .ok (.castore, 1) := by decide +kernel
theorem dX2_append_70 : decode cX2_append 70 = .ok (.aload_n 0, 1) := by decide +kernel
theorem dX2_append_71 : decode cX2_append 71 = .ok (.dup, 1) := by decide +kernel
theorem dX2_append_72 : decode cX2_append 72 = .ok (.getfield 19, 3) := by decide +kernel
theorem dX2_append_75 : decode cX2_append 75 = .ok (.iconst 1, 1) := by decide +kernel
theorem dX2_append_76 : decode cX2_append 76 = .ok (.iadd, 1) := by decide +kernel
theorem dX2_append_77 : decode cX2_append 77 = .ok (.putfield 19, 3) := by decide +kernel
theorem dX2_append_80 : decode cX2_append 80 = .ok (.iinc 4 (-1), 3) := by decide +kernel
theorem dX2_append_83 : decode cX2_append 83 = .ok (.goto (-52), 3) := by decide +kernel
theorem dX2_append_86 : decode cX2_append 86 = .ok (.aload_n 0, 1) := by decide +kernel
theorem dX2_append_87 : decode cX2_append 87 = .ok (.getfield 19, 3) := by decide +kernel
theorem dX2_append_90 : decode cX2_append 90 = .ok (.ireturn, 1) := by decide +kernel
theorem dX2_charactersIn_0 : decode cX2_charactersIn 0 = .ok (.iconst 0, 1) := by decide +kernel
theorem dX2_charactersIn_1 : decode cX2_charactersIn 1 = .ok (.istore_n 2, 1) := by decide +kernel
theorem dX2_charactersIn_2 : decode cX2_charactersIn 2 = .ok (.lload_n 0, 1) := by decide +kernel
theorem dX2_charactersIn_3 : decode cX2_charactersIn 3 = .ok (.lstore_n 3, 1) := by decide +kernel
theorem dX2_charactersIn_4 : decode cX2_charactersIn 4 = .ok (.lload_n 3, 1) := by decide +kernel
theorem dX2_charactersIn_5 : decode cX2_charactersIn 5 = .ok (.lconst 0, 1) := by decide +kernel
theorem dX2_charactersIn_6 : decode cX2_charactersIn 6 = .ok (.lcmp, 1) := by decide +kernel
theorem dX2_charactersIn_7 : decode cX2_charactersIn 7 = .ok (.ifCond .eq 47, 3) := by decide +kernel
theorem dX2_charactersIn_10 : decode cX2_charactersIn 10 = .ok (.iload_n 2, 1) := by decide +kernel
theorem dX2_charactersIn_11 : decode cX2_charactersIn 11 = .ok (.bipush 8, 2) := by decide +kernel
theorem dX2_charactersIn_13 : decode cX2_charactersIn 13 = .ok (.if_icmp .ge 41, 3) := by decide +kernel
theorem dX2_charactersIn_16 : decode cX2_charactersIn 16 = .ok (.lload_n 3, 1) := by decide +kernel
theorem dX2_charactersIn_17 : decode cX2_charactersIn 17 = .ok (.ldc2_w 23, 3) := by decide +kernel
theorem dX2_charactersIn_20 : decode cX2_charactersIn 20 = .ok (.land, 1) := by decide +kernel
theorem dX2_charactersIn_21 : decode cX2_charactersIn 21 = .ok (.lstore 5, 2) := by decide +kernel
theorem dX2_charactersIn_23 : decode cX2_charactersIn 23 = .ok (.lload 5, 2) := by decide +kernel
theorem dX2_charactersIn_25 : decode cX2_charactersIn 25 = .ok (.ldc2_w 25, 3) := by decide +kernel
theorem dX2_charactersIn_28 : decode cX2_charactersIn 28 = .ok (.lcmp, 1) := by decide +kernel
theorem dX2_charactersIn_29 : decode cX2_charactersIn 29 = .ok (.ifCond .lt 12, 3) := by decide +kernel
theorem dX2_charactersIn_32 : decode cX2_charactersIn 32 = .ok (.lload 5, 2) := by decide +kernel
theorem dX2_charactersIn_34 : decode cX2_charactersIn 34 = .ok (.ldc2_w 27, 3) := by decide +kernel
theorem dX2_charactersIn_37 : decode cX2_charactersIn 37 = .ok (.lcmp, 1) := by decide +kernel
theorem dX2_charactersIn_38 : decode cX2_charactersIn 38 = .ok (.ifCond .le 5, 3) := by decide +kernel
theorem dX2_charactersIn_41 : decode cX2_charactersIn 41 = .ok (.iconst 0, 1) := by decide +kernel
theorem dX2_charactersIn_42 : decode cX2_charactersIn 42 = .ok (.ireturn, 1) := by decide +kernel
theorem dX2_charactersIn_43 : decode cX2_charactersIn 43 = .ok (.iinc 2 1, 3) := by decide +kernel
theorem dX2_charactersIn_46 : decode cX2_charactersIn 46 = .ok (.lload_n 3, 1) := by decide +kernel
theorem dX2_charactersIn_47 : decode cX2_charactersIn 47 = .ok (.bipush 8, 2) := by decide +kernel
theorem dX2_charactersIn_49 : decode cX2_charactersIn 49 = .ok (.lushr, 1) := by decide +kernel
theorem dX2_charactersIn_50 : decode cX2_charactersIn 50 = .ok (.lstore_n 3, 1) := by decide +kernel
theorem dX2_charactersIn_51 : decode cX2_charactersIn 51 = .ok (.goto (-47), 3) := by decide +kernel
theorem dX2_charactersIn_54 : decode cX2_charactersIn 54 = .ok (.iload_n 2, 1) := by decide +kernel
theorem dX2_charactersIn_55 : decode cX2_charactersIn 55 = .ok (.ireturn, 1) := by decide +kernel
theorem dX2_empty_0 : decode cX2_empty 0 = .ok (.aload_n 0, 1) := by decide +kernel
theorem dX2_empty_1 : decode cX2_empty 1 = .ok (.getfield 19, 3) := by decide +kernel
theorem dX2_empty_4 : decode cX2_empty 4 = .ok (.istore_n 1, 1) := by decide +kernel
theorem dX2_empty_5 : decode cX2_empty 5 = .ok (.aload_n 0, 1) := by decide +kernel
theorem dX2_empty_6 : decode cX2_empty 6 = .ok (.iconst 0, 1) := by decide +kernel
theorem dX2_empty_7 : decode cX2_empty 7 = .ok (.putfield 19, 3) := by decide +kernel
theorem dX2_empty_10 : decode cX2_empty 10 = .ok (.iload_n 1, 1) := by decide +kernel
theorem dX2_empty_11 : decode cX2_empty 11 = .ok (.ireturn, 1) := by decide +kernel
theorem dX2_firstFault_0 : decode cX2_firstFault 0 = .ok (.aload_n 0, 1) := by decide +kernel
theorem dX2_firstFault_1 : decode cX2_firstFault 1 = .ok (.invokevirtual 29, 3) := by decide +kernel
theorem dX2_firstFault_4 : decode cX2_firstFault 4 = .ok (.iconst 0, 1) := by decide +kernel
theorem dX2_firstFault_5 : decode cX2_firstFault 5 = .ok (.istore_n 1, 1) := by decide +kernel
theorem dX2_firstFault_6 : decode cX2_firstFault 6 = .ok (.iload_n 1, 1) := by decide +kernel
theorem dX2_firstFault_7 : decode cX2_firstFault 7 = .ok (.bipush 80, 2) := by decide +kernel
theorem dX2_firstFault_9 : decode cX2_firstFault 9 = .ok (.if_icmp .ge 49, 3) := by decide +kernel
theorem dX2_firstFault_12 : decode cX2_firstFault 12 = .ok (.aload_n 0, 1) := by decide +kernel
theorem dX2_firstFault_13 : decode cX2_firstFault 13 = .ok (.invokevirtual 32, 3) := by decide +kernel
theorem dX2_firstFault_16 : decode cX2_firstFault 16 = .ok (.ifCond .ne 8, 3) := by decide +kernel
theorem dX2_firstFault_19 : decode cX2_firstFault 19 = .ok (.aload_n 0, 1) := by decide +kernel
theorem dX2_firstFault_20 : decode cX2_firstFault 20 = .ok (.getfield 36, 3) := by decide +kernel
theorem dX2_firstFault_23 : decode cX2_firstFault 23 = .ok (.ireturn, 1) := by decide +kernel
theorem dX2_firstFault_24 : decode cX2_firstFault 24 = .ok (.aload_n 0, 1) := by decide +kernel
theorem dX2_firstFault_25 : decode cX2_firstFault 25 = .ok (.getfield 36, 3) := by decide +kernel
theorem dX2_firstFault_28 : decode cX2_firstFault 28 = .ok (.aload_n 0, 1) := by decide +kernel
theorem dX2_firstFault_29 : decode cX2_firstFault 29 = .ok (.getfield 19, 3) := by decide +kernel
theorem dX2_firstFault_32 : decode cX2_firstFault 32 = .ok (.if_icmp .ne 6, 3) := by decide +kernel
theorem dX2_firstFault_35 : decode cX2_firstFault 35 = .ok (.bipush (-6), 2) := by decide +kernel
theorem dX2_firstFault_37 : decode cX2_firstFault 37 = .ok (.ireturn, 1) := by decide +kernel
theorem dX2_firstFault_38 : decode cX2_firstFault 38 = .ok (.aload_n 0, 1) := by decide +kernel
theorem dX2_firstFault_39 : decode cX2_firstFault 39 = .ok (.bipush 59, 2) := by decide +kernel
theorem dX2_firstFault_41 : decode cX2_firstFault 41 = .ok (.invokevirtual 39, 3) := by decide +kernel
theorem dX2_firstFault_44 : decode cX2_firstFault 44 = .ok (.ifCond .ne 8, 3) := by decide +kernel
theorem dX2_firstFault_47 : decode cX2_firstFault 47 = .ok (.aload_n 0, 1) := by decide +kernel
theorem dX2_firstFault_48 : decode cX2_firstFault 48 = .ok (.getfield 36, 3) := by decide +kernel
theorem dX2_firstFault_51 : decode cX2_firstFault 51 = .ok (.ireturn, 1) := by decide +kernel
theorem dX2_firstFault_52 : decode cX2_firstFault 52 = .ok (.iinc 1 1, 3) := by decide +kernel
theorem dX2_firstFault_55 : decode cX2_firstFault 55 = .ok (.goto (-49), 3) := by decide +kernel
theorem dX2_firstFault_58 : decode cX2_firstFault 58 = .ok (.aload_n 0, 1) := by decide +kernel
theorem dX2_firstFault_59 : decode cX2_firstFault 59 = .ok (.getfield 36, 3) := by decide +kernel
theorem dX2_firstFault_62 : decode cX2_firstFault 62 = .ok (.ireturn, 1) := by decide +kernel
theorem dX2_goToStart_0 : decode cX2_goToStart 0 = .ok (.aload_n 0, 1) := by decide +kernel
theorem dX2_goToStart_1 : decode cX2_goToStart 1 = .ok (.iconst 0, 1) := by decide +kernel
theorem dX2_goToStart_2 : decode cX2_goToStart 2 = .ok (.putfield 36, 3) := by decide +kernel
theorem dX2_goToStart_5 : decode cX2_goToStart 5 = .ok (.return_, 1) := by decide +kernel
theorem dX2_skip_0 : decode cX2_skip 0 = .ok (.aload_n 0, 1) := by decide +kernel
theorem dX2_skip_1 : decode cX2_skip 1 = .ok (.invokevirtual 43, 3) := by decide +kernel
theorem dX2_skip_4 : decode cX2_skip 4 = .ok (.iload_n 1, 1) := by decide +kernel
theorem dX2_skip_5 : decode cX2_skip 5 = .ok (.if_icmp .eq 5, 3) := by decide +kernel
theorem dX2_skip_8 : decode cX2_skip 8 = .ok (.iconst 0, 1) := by decide +kernel
theorem dX2_skip_9 : decode cX2_skip 9 = .ok (.ireturn, 1) := by decide +kernel
theorem dX2_skip_10 : decode cX2_skip 10 = .ok (.aload_n 0, 1) := by decide +kernel
theorem dX2_skip_11 : decode cX2_skip 11 = .ok (.dup, 1) := by decide +kernel
theorem dX2_skip_12 : decode cX2_skip 12 = .ok (.getfield 36, 3) := by decide +kernel
theorem dX2_skip_15 : decode cX2_skip 15 = .ok (.iconst 1, 1) := by decide +kernel
theorem dX2_skip_16 : decode cX2_skip 16 = .ok (.iadd, 1) := by decide +kernel
theorem dX2_skip_17 : decode cX2_skip 17 = .ok (.putfield 36, 3) := by decide +kernel
theorem dX2_skip_20 : decode cX2_skip 20 = .ok (.iconst 1, 1) := by decide +kernel
theorem dX2_skip_21 : decode cX2_skip 21 = .ok (.ireturn, 1) := by decide +kernel
theorem dX2_next_0 : decode cX2_next 0 = .ok (.aload_n 0, 1) := by decide +kernel
theorem dX2_next_1 : decode cX2_next 1 = .ok (.getfield 36, 3) := by decide +kernel
theorem dX2_next_4 : decode cX2_next 4 = .ok (.ifCond .lt 38, 3) := by decide +kernel
theorem dX2_next_7 : decode cX2_next 7 = .ok (.aload_n 0, 1) := by decide +kernel
theorem dX2_next_8 : decode cX2_next 8 = .ok (.getfield 36, 3) := by decide +kernel
theorem dX2_next_11 : decode cX2_next 11 = .ok (.aload_n 0, 1) := by decide +kernel
theorem dX2_next_12 : decode cX2_next 12 = .ok (.getfield 19, 3) := by decide +kernel
theorem dX2_next_15 : decode cX2_next 15 = .ok (.if_icmp .ge 27, 3) := by decide +kernel
theorem dX2_next_18 : decode cX2_next 18 = .ok (.aload_n 0, 1) := by decide +kernel
theorem dX2_next_19 : decode cX2_next 19 = .ok (.getfield 36, 3) := by decide +kernel
theorem dX2_next_22 : decode cX2_next 22 = .ok (.aload_n 0, 1) := by decide +kernel
theorem dX2_next_23 : decode cX2_next 23 = .ok (.getfield 9, 3) := by decide +kernel
theorem dX2_next_26 : decode cX2_next 26 = .ok (.arraylength, 1) := by decide +kernel
theorem dX2_next_27 : decode cX2_next 27 = .ok (.if_icmp .ge 15, 3) := by decide +kernel
theorem dX2_next_30 : decode cX2_next 30 = .ok (.aload_n 0, 1) := by decide +kernel
theorem dX2_next_31 : decode cX2_next 31 = .ok (.getfield 9, 3) := by decide +kernel
theorem dX2_next_34 : decode cX2_next 34 = .ok (.aload_n 0, 1) := by decide +kernel
theorem dX2_next_35 : decode cX2_next 35 = .ok (.getfield 36, 3) := by decide +kernel
theorem dX2_next_38 : decode cX2_next 38 = .ok (.caload, 1) := by decide +kernel
theorem dX2_next_39 : decode cX2_next 39 = .ok (.goto 4, 3) := by decide +kernel
theorem dX2_next_42 : decode cX2_next 42 = .ok (.iconst 0, 1) := by decide +kernel
theorem dX2_next_43 : decode cX2_next 43 = .ok (.ireturn, 1) := by decide +kernel
theorem dX2_readOrder_0 : decode cX2_readOrder 0 = .ok (.aload_n 0, 1) := by decide +kernel
theorem dX2_readOrder_1 : decode cX2_readOrder 1 = .ok (.aload_n 0, 1) := by decide +kernel
theorem dX2_readOrder_2 : decode cX2_readOrder 2 = .ok (.invokevirtual 43, 3) := by decide +kernel
theorem dX2_readOrder_5 : decode cX2_readOrder 5 = .ok (.putfield 47, 3) := by decide +kernel
theorem dX2_readOrder_8 : decode cX2_readOrder 8 = .ok (.aload_n 0, 1) := by decide +kernel
theorem dX2_readOrder_9 : decode cX2_readOrder 9 = .ok (.iconst 1, 1) := by decide +kernel
theorem dX2_readOrder_10 : decode cX2_readOrder 10 = .ok (.putfield 51, 3) := by decide +kernel
theorem dX2_readOrder_13 : decode cX2_readOrder 13 = .ok (.aload_n 0, 1) := by decide +kernel
theorem dX2_readOrder_14 : decode cX2_readOrder 14 = .ok (.getfield 47, 3) := by decide +kernel
theorem dX2_readOrder_17 : decode cX2_readOrder 17 = .ok (.bipush 115, 2) := by decide +kernel
theorem dX2_readOrder_19 : decode cX2_readOrder 19 = .ok (.if_icmp .ne 18, 3) := by decide +kernel
theorem dX2_readOrder_22 : decode cX2_readOrder 22 = .ok (.aload_n 0, 1) := by decide +kernel
theorem dX2_readOrder_23 : decode cX2_readOrder 23 = .ok (.dup, 1) := by decide +kernel
theorem dX2_readOrder_24 : decode cX2_readOrder 24 = .ok (.getfield 36, 3) := by decide +kernel
theorem dX2_readOrder_27 : decode cX2_readOrder 27 = .ok (.iconst 1, 1) := by decide +kernel
theorem dX2_readOrder_28 : decode cX2_readOrder 28 = .ok (.iadd, 1) := by decide +kernel
theorem dX2_readOrder_29 : decode cX2_readOrder 29 = .ok (.putfield 36, 3) := by decide +kernel
theorem dX2_readOrder_32 : decode cX2_readOrder 32 = .ok (.aload_n 0, 1) := by decide +kernel
theorem dX2_readOrder_33 : decode cX2_readOrder 33 = .ok (.invokevirtual 54, 3) := by decide +kernel
theorem dX2_readOrder_36 : decode cX2_readOrder 36 = .ok (.ireturn, 1) := by decide +kernel
theorem dX2_readOrder_37 : decode cX2_readOrder 37 = .ok (.aload_n 0, 1) := by decide +kernel
theorem dX2_readOrder_38 : decode cX2_readOrder 38 = .ok (.getfield 47, 3) := by decide +kernel
theorem dX2_readOrder_41 : decode cX2_readOrder 41 = .ok (.bipush 98, 2) := by decide +kernel
theorem dX2_readOrder_43 : decode cX2_readOrder 43 = .ok (.if_icmp .eq 12, 3) := by decide +kernel
theorem dX2_readOrder_46 : decode cX2_readOrder 46 = .ok (.aload_n 0, 1) := by decide +kernel
theorem dX2_readOrder_47 : decode cX2_readOrder 47 = .ok (.getfield 47, 3) := by decide +kernel
theorem dX2_readOrder_50 : decode cX2_readOrder 50 = .ok (.bipush 117, 2) := by decide +kernel
theorem dX2_readOrder_52 : decode cX2_readOrder 52 = .ok (.if_icmp .ne 34, 3) := by decide +kernel
theorem dX2_readOrder_55 : decode cX2_readOrder 55 = .ok (.aload_n 0, 1) := by decide +kernel
theorem dX2_readOrder_56 : decode cX2_readOrder 56 = .ok (.dup, 1) := by decide +kernel
theorem dX2_readOrder_57 : decode cX2_readOrder 57 = .ok (.getfield 36, 3) := by decide +kernel
theorem dX2_readOrder_60 : decode cX2_readOrder 60 = .ok (.iconst 1, 1) := by decide +kernel
theorem dX2_readOrder_61 : decode cX2_readOrder 61 = .ok (.iadd, 1) := by decide +kernel
theorem dX2_readOrder_62 : decode cX2_readOrder 62 = .ok (.putfield 36, 3) := by decide +kernel
theorem dX2_readOrder_65 : decode cX2_readOrder 65 = .ok (.aload_n 0, 1) := by decide +kernel
theorem dX2_readOrder_66 : decode cX2_readOrder 66 = .ok (.aload_n 0, 1) := by decide +kernel
theorem dX2_readOrder_67 : decode cX2_readOrder 67 = .ok (.invokevirtual 57, 3) := by decide +kernel
theorem dX2_readOrder_70 : decode cX2_readOrder 70 = .ok (.putfield 61, 3) := by decide +kernel
theorem dX2_readOrder_73 : decode cX2_readOrder 73 = .ok (.aload_n 0, 1) := by decide +kernel
theorem dX2_readOrder_74 : decode cX2_readOrder 74 = .ok (.getfield 61, 3) := by decide +kernel
theorem dX2_readOrder_77 : decode cX2_readOrder 77 = .ok (.ifCond .lt 7, 3) := by decide +kernel
theorem dX2_readOrder_80 : decode cX2_readOrder 80 = .ok (.iconst 1, 1) := by decide +kernel
theorem dX2_readOrder_81 : decode cX2_readOrder 81 = .ok (.goto 4, 3) := by decide +kernel
theorem dX2_readOrder_84 : decode cX2_readOrder 84 = .ok (.iconst 0, 1) := by decide +kernel
theorem dX2_readOrder_85 : decode cX2_readOrder 85 = .ok (.ireturn, 1) := by decide +kernel
theorem dX2_readOrder_86 : decode cX2_readOrder 86 = .ok (.iconst 0, 1) := by decide +kernel
theorem dX2_readOrder_87 : decode cX2_readOrder 87 = .ok (.ireturn, 1) := by decide +kernel
theorem dX2_readSamples_0 : decode cX2_readSamples 0 = .ok (.aload_n 0, 1) := by decide +kernel
theorem dX2_readSamples_1 : decode cX2_readSamples 1 = .ok (.aload_n 0, 1) := by decide +kernel
theorem dX2_readSamples_2 : decode cX2_readSamples 2 = .ok (.invokevirtual 64, 3) := by decide +kernel
theorem dX2_readSamples_5 : decode cX2_readSamples 5 = .ok (.putfield 61, 3) := by decide +kernel
theorem dX2_readSamples_8 : decode cX2_readSamples 8 = .ok (.aload_n 0, 1) := by decide +kernel
theorem dX2_readSamples_9 : decode cX2_readSamples 9 = .ok (.getfield 61, 3) := by decide +kernel
theorem dX2_readSamples_12 : decode cX2_readSamples 12 = .ok (.ifCond .lt 12, 3) := by decide +kernel
theorem dX2_readSamples_15 : decode cX2_readSamples 15 = .ok (.aload_n 0, 1) := by decide +kernel
theorem dX2_readSamples_16 : decode cX2_readSamples 16 = .ok (.bipush 44, 2) := by decide +kernel
theorem dX2_readSamples_18 : decode cX2_readSamples 18 = .ok (.invokevirtual 39, 3) := by decide +kernel
theorem dX2_readSamples_21 : decode cX2_readSamples 21 = .ok (.ifCond .ne 5, 3) := by decide +kernel
theorem dX2_readSamples_24 : decode cX2_readSamples 24 = .ok (.iconst 0, 1) := by decide +kernel
theorem dX2_readSamples_25 : decode cX2_readSamples 25 = .ok (.ireturn, 1) := by decide +kernel
theorem dX2_readSamples_26 : decode cX2_readSamples 26 = .ok (.aload_n 0, 1) := by decide +kernel
theorem dX2_readSamples_27 : decode cX2_readSamples 27 = .ok (.aload_n 0, 1) := by decide +kernel
theorem dX2_readSamples_28 : decode cX2_readSamples 28 = .ok (.invokevirtual 64, 3) := by decide +kernel
theorem dX2_readSamples_31 : decode cX2_readSamples 31 = .ok (.putfield 67, 3) := by decide +kernel
theorem dX2_readSamples_34 : decode cX2_readSamples 34 = .ok (.aload_n 0, 1) := by decide +kernel
theorem dX2_readSamples_35 : decode cX2_readSamples 35 = .ok (.getfield 67, 3) := by decide +kernel
theorem dX2_readSamples_38 : decode cX2_readSamples 38 = .ok (.ifCond .lt 12, 3) := by decide +kernel
theorem dX2_readSamples_41 : decode cX2_readSamples 41 = .ok (.aload_n 0, 1) := by decide +kernel
theorem dX2_readSamples_42 : decode cX2_readSamples 42 = .ok (.bipush 42, 2) := by decide +kernel
theorem dX2_readSamples_44 : decode cX2_readSamples 44 = .ok (.invokevirtual 39, 3) := by decide +kernel
theorem dX2_readSamples_47 : decode cX2_readSamples 47 = .ok (.ifCond .ne 16, 3) := by decide +kernel
theorem dX2_readSamples_50 : decode cX2_readSamples 50 = .ok (.aload_n 0, 1) := by decide +kernel
theorem dX2_readSamples_51 : decode cX2_readSamples 51 = .ok (.getfield 67, 3) := by decide +kernel
theorem dX2_readSamples_54 : decode cX2_readSamples 54 = .ok (.ifCond .lt 7, 3) := by decide +kernel
theorem dX2_readSamples_57 : decode cX2_readSamples 57 = .ok (.iconst 1, 1) := by decide +kernel
theorem dX2_readSamples_58 : decode cX2_readSamples 58 = .ok (.goto 4, 3) := by decide +kernel
theorem dX2_readSamples_61 : decode cX2_readSamples 61 = .ok (.iconst 0, 1) := by decide +kernel
theorem dX2_readSamples_62 : decode cX2_readSamples 62 = .ok (.ireturn, 1) := by decide +kernel
theorem dX2_readSamples_63 : decode cX2_readSamples 63 = .ok (.aload_n 0, 1) := by decide +kernel
theorem dX2_readSamples_64 : decode cX2_readSamples 64 = .ok (.aload_n 0, 1) := by decide +kernel
theorem dX2_readSamples_65 : decode cX2_readSamples 65 = .ok (.invokevirtual 64, 3) := by decide +kernel
theorem dX2_readSamples_68 : decode cX2_readSamples 68 = .ok (.putfield 51, 3) := by decide +kernel
theorem dX2_readSamples_71 : decode cX2_readSamples 71 = .ok (.aload_n 0, 1) := by decide +kernel
theorem dX2_readSamples_72 : decode cX2_readSamples 72 = .ok (.getfield 51, 3) := by decide +kernel
theorem dX2_readSamples_75 : decode cX2_readSamples 75 = .ok (.ifCond .lt 7, 3) := by decide +kernel
theorem dX2_readSamples_78 : decode cX2_readSamples 78 = .ok (.iconst 1, 1) := by decide +kernel
theorem dX2_readSamples_79 : decode cX2_readSamples 79 = .ok (.goto 4, 3) := by decide +kernel
theorem dX2_readSamples_82 : decode cX2_readSamples 82 = .ok (.iconst 0, 1) := by decide +kernel
theorem dX2_readSamples_83 : decode cX2_readSamples 83 = .ok (.ireturn, 1) := by decide +kernel
theorem dX2_readNumber_0 : decode cX2_readNumber 0 = .ok (.aload_n 0, 1) := by decide +kernel
theorem dX2_readNumber_1 : decode cX2_readNumber 1 = .ok (.invokevirtual 57, 3) := by decide +kernel
theorem dX2_readNumber_4 : decode cX2_readNumber 4 = .ok (.istore_n 1, 1) := by decide +kernel
theorem dX2_readNumber_5 : decode cX2_readNumber 5 = .ok (.iload_n 1, 1) := by decide +kernel
theorem dX2_readNumber_6 : decode cX2_readNumber 6 = .ok (.ifCond .gt 5, 3) := by decide +kernel
theorem dX2_readNumber_9 : decode cX2_readNumber 9 = .ok (.iload_n 1, 1) := by decide +kernel
theorem dX2_readNumber_10 : decode cX2_readNumber 10 = .ok (.ireturn, 1) := by decide +kernel
theorem dX2_readNumber_11 : decode cX2_readNumber 11 = .ok (.iconst 1, 1) := by decide +kernel
theorem dX2_readNumber_12 : decode cX2_readNumber 12 = .ok (.istore_n 2, 1) := by decide +kernel
theorem dX2_readNumber_13 : decode cX2_readNumber 13 = .ok (.iload_n 2, 1) := by decide +kernel
theorem dX2_readNumber_14 : decode cX2_readNumber 14 = .ok (.iconst 3, 1) := by decide +kernel
theorem dX2_readNumber_15 : decode cX2_readNumber 15 = .ok (.if_icmp .ge 27, 3) := by decide +kernel
theorem dX2_readNumber_18 : decode cX2_readNumber 18 = .ok (.aload_n 0, 1) := by decide +kernel
theorem dX2_readNumber_19 : decode cX2_readNumber 19 = .ok (.invokevirtual 57, 3) := by decide +kernel
theorem dX2_readNumber_22 : decode cX2_readNumber 22 = .ok (.istore_n 3, 1) := by decide +kernel
theorem dX2_readNumber_23 : decode cX2_readNumber 23 = .ok (.iload_n 3, 1) := by decide +kernel
theorem dX2_readNumber_24 : decode cX2_readNumber 24 = .ok (.ifCond .ge 5, 3) := by decide +kernel
theorem dX2_readNumber_27 : decode cX2_readNumber 27 = .ok (.iload_n 1, 1) := by decide +kernel
theorem dX2_readNumber_28 : decode cX2_readNumber 28 = .ok (.ireturn, 1) := by decide +kernel
theorem dX2_readNumber_29 : decode cX2_readNumber 29 = .ok (.bipush 10, 2) := by decide +kernel
theorem dX2_readNumber_31 : decode cX2_readNumber 31 = .ok (.iload_n 1, 1) := by decide +kernel
theorem dX2_readNumber_32 : decode cX2_readNumber 32 = .ok (.imul, 1) := by decide +kernel
theorem dX2_readNumber_33 : decode cX2_readNumber 33 = .ok (.iload_n 3, 1) := by decide +kernel
theorem dX2_readNumber_34 : decode cX2_readNumber 34 = .ok (.iadd, 1) := by decide +kernel
theorem dX2_readNumber_35 : decode cX2_readNumber 35 = .ok (.istore_n 1, 1) := by decide +kernel
theorem dX2_readNumber_36 : decode cX2_readNumber 36 = .ok (.iinc 2 1, 3) := by decide +kernel
theorem dX2_readNumber_39 : decode cX2_readNumber 39 = .ok (.goto (-26), 3) := by decide +kernel
theorem dX2_readNumber_42 : decode cX2_readNumber 42 = .ok (.iload_n 1, 1) := by decide +kernel
theorem dX2_readNumber_43 : decode cX2_readNumber 43 = .ok (.ireturn, 1) := by decide +kernel
theorem dX2_readDigit_0 : decode cX2_readDigit 0 = .ok (.aload_n 0, 1) := by decide +kernel
theorem dX2_readDigit_1 : decode cX2_readDigit 1 = .ok (.invokevirtual 43, 3) := by decide +kernel
theorem dX2_readDigit_4 : decode cX2_readDigit 4 = .ok (.istore_n 1, 1) := by decide +kernel
theorem dX2_readDigit_5 : decode cX2_readDigit 5 = .ok (.iload_n 1, 1) := by decide +kernel
theorem dX2_readDigit_6 : decode cX2_readDigit 6 = .ok (.bipush 48, 2) := by decide +kernel
theorem dX2_readDigit_8 : decode cX2_readDigit 8 = .ok (.if_icmp .lt 9, 3) := by decide +kernel
theorem dX2_readDigit_11 : decode cX2_readDigit 11 = .ok (.iload_n 1, 1) := by decide +kernel
theorem dX2_readDigit_12 : decode cX2_readDigit 12 = .ok (.bipush 57, 2) := by decide +kernel
theorem dX2_readDigit_14 : decode cX2_readDigit 14 = .ok (.if_icmp .le 6, 3) := by decide +kernel
theorem dX2_readDigit_17 : decode cX2_readDigit 17 = .ok (.bipush (-6), 2) := by decide +kernel
theorem dX2_readDigit_19 : decode cX2_readDigit 19 = .ok (.ireturn, 1) := by decide +kernel
theorem dX2_readDigit_20 : decode cX2_readDigit 20 = .ok (.aload_n 0, 1) := by decide +kernel
theorem dX2_readDigit_21 : decode cX2_readDigit 21 = .ok (.dup, 1) := by decide +kernel
theorem dX2_readDigit_22 : decode cX2_readDigit 22 = .ok (.getfield 36, 3) := by decide +kernel
theorem dX2_readDigit_25 : decode cX2_readDigit 25 = .ok (.iconst 1, 1) := by decide +kernel
theorem dX2_readDigit_26 : decode cX2_readDigit 26 = .ok (.iadd, 1) := by decide +kernel
theorem dX2_readDigit_27 : decode cX2_readDigit 27 = .ok (.putfield 36, 3) := by decide +kernel
theorem dX2_readDigit_30 : decode cX2_readDigit 30 = .ok (.iload_n 1, 1) := by decide +kernel
theorem dX2_readDigit_31 : decode cX2_readDigit 31 = .ok (.bipush 48, 2) := by decide +kernel
theorem dX2_readDigit_33 : decode cX2_readDigit 33 = .ok (.isub, 1) := by decide +kernel
theorem dX2_readDigit_34 : decode cX2_readDigit 34 = .ok (.ireturn, 1) := by decide +kernel
theorem dX3_init_0 : decode cX3_init 0 = .ok (.aload_n 0, 1) := by decide +kernel
theorem dX3_init_1 : decode cX3_init 1 = .ok (.invokespecial 3, 3) := by decide +kernel
theorem dX3_init_4 : decode cX3_init 4 = .ok (.aload_n 0, 1) := by decide +kernel
theorem dX3_init_5 : decode cX3_init 5 = .ok (.getstatic 9, 3) := by decide +kernel
theorem dX3_init_8 : decode cX3_init 8 = .ok (.invokevirtual 13, 3) := by decide +kernel
theorem dX3_init_11 : decode cX3_init 11 = .ok (.checkcast 14, 3) := by decide +kernel
theorem dX3_init_14 : decode cX3_init 14 = .ok (.putfield 18, 3) := by decide +kernel
theorem dX3_init_17 : decode cX3_init 17 = .ok (.aload_n 0, 1) := by decide +kernel
theorem dX3_init_18 : decode cX3_init 18 = .ok (.new 23, 3) := by decide +kernel
theorem dX3_init_21 : decode cX3_init 21 = .ok (.dup, 1) := by decide +kernel
theorem dX3_init_22 : decode cX3_init 22 = .ok (.invokespecial 25, 3) := by decide +kernel
theorem dX3_init_25 : decode cX3_init 25 = .ok (.putfield 26, 3) := by decide +kernel
theorem dX3_init_28 : decode cX3_init 28 = .ok (.aload_n 0, 1) := by decide +kernel
theorem dX3_init_29 : decode cX3_init 29 = .ok (.sipush 2048, 3) := by decide +kernel
theorem dX3_init_32 : decode cX3_init 32 = .ok (.putfield 30, 3) := by decide +kernel
theorem dX3_init_35 : decode cX3_init 35 = .ok (.aload_n 0, 1) := by decide +kernel
theorem dX3_init_36 : decode cX3_init 36 = .ok (.sipush 2048, 3) := by decide +kernel
theorem dX3_init_39 : decode cX3_init 39 = .ok (.putfield 34, 3) := by decide +kernel
theorem dX3_init_42 : decode cX3_init 42 = .ok (.aload_n 0, 1) := by decide +kernel
theorem dX3_init_43 : decode cX3_init 43 = .ok (.aload_n 0, 1) := by decide +kernel
theorem dX3_init_44 : decode cX3_init 44 = .ok (.getfield 18, 3) := by decide +kernel
theorem dX3_init_47 : decode cX3_init 47 = .ok (.iconst 1, 1) := by decide +kernel
theorem dX3_init_48 : decode cX3_init 48 = .ok (.iaload, 1) := by decide +kernel
theorem dX3_init_49 : decode cX3_init 49 = .ok (.putfield 37, 3) := by decide +kernel
theorem dX3_init_52 : decode cX3_init 52 = .ok (.return_, 1) := by decide +kernel
theorem dX3_becomeLike_0 : decode cX3_becomeLike 0 = .ok (.aload_n 1, 1) := by decide +kernel
theorem dX3_becomeLike_1 : decode cX3_becomeLike 1 = .ok (.getfield 18, 3) := by decide +kernel
theorem dX3_becomeLike_4 : decode cX3_becomeLike 4 = .ok (.iconst 0, 1) := by decide +kernel
theorem dX3_becomeLike_5 : decode cX3_becomeLike 5 = .ok (.aload_n 0, 1) := by decide +kernel
theorem dX3_becomeLike_6 : decode cX3_becomeLike 6 = .ok (.getfield 18, 3) := by decide +kernel
theorem dX3_becomeLike_9 : decode cX3_becomeLike 9 = .ok (.iconst 0, 1) := by decide +kernel
theorem dX3_becomeLike_10 : decode cX3_becomeLike 10 = .ok (.bipush 7, 2) := by decide +kernel
theorem dX3_becomeLike_12 : decode cX3_becomeLike 12 = .ok (.invokestatic 40, 3) := by decide +kernel
theorem dX3_becomeLike_15 : decode cX3_becomeLike 15 = .ok (.aload_n 0, 1) := by decide +kernel
theorem dX3_becomeLike_16 : decode cX3_becomeLike 16 = .ok (.getfield 26, 3) := by decide +kernel
theorem dX3_becomeLike_19 : decode cX3_becomeLike 19 = .ok (.aload_n 1, 1) := by decide +kernel
theorem dX3_becomeLike_20 : decode cX3_becomeLike 20 = .ok (.getfield 26, 3) := by decide +kernel
theorem dX3_becomeLike_23 : decode cX3_becomeLike 23 = .ok (.invokevirtual 46, 3) := by decide +kernel
theorem dX3_becomeLike_26 : decode cX3_becomeLike 26 = .ok (.aload_n 0, 1) := by decide +kernel
theorem dX3_becomeLike_27 : decode cX3_becomeLike 27 = .ok (.aload_n 1, 1) := by decide +kernel
theorem dX3_becomeLike_28 : decode cX3_becomeLike 28 = .ok (.getfield 30, 3) := by decide +kernel
theorem dX3_becomeLike_31 : decode cX3_becomeLike 31 = .ok (.putfield 30, 3) := by decide +kernel
theorem dX3_becomeLike_34 : decode cX3_becomeLike 34 = .ok (.aload_n 0, 1) := by decide +kernel
theorem dX3_becomeLike_35 : decode cX3_becomeLike 35 = .ok (.aload_n 1, 1) := by decide +kernel
theorem dX3_becomeLike_36 : decode cX3_becomeLike 36 = .ok (.getfield 34, 3) := by decide +kernel
theorem dX3_becomeLike_39 : decode cX3_becomeLike 39 = .ok (.putfield 34, 3) := by decide +kernel
theorem dX3_becomeLike_42 : decode cX3_becomeLike 42 = .ok (.aload_n 0, 1) := by decide +kernel
theorem dX3_becomeLike_43 : decode cX3_becomeLike 43 = .ok (.aload_n 1, 1) := by decide +kernel
theorem dX3_becomeLike_44 : decode cX3_becomeLike 44 = .ok (.getfield 37, 3) := by decide +kernel
theorem dX3_becomeLike_47 : decode cX3_becomeLike 47 = .ok (.putfield 37, 3) := by decide +kernel
theorem dX3_becomeLike_50 : decode cX3_becomeLike 50 = .ok (.aload_n 0, 1) := by decide +kernel
theorem dX3_becomeLike_51 : decode cX3_becomeLike 51 = .ok (.aload_n 1, 1) := by decide +kernel
theorem dX3_becomeLike_52 : decode cX3_becomeLike 52 = .ok (.getfield 50, 3) := by decide +kernel
theorem dX3_becomeLike_55 : decode cX3_becomeLike 55 = .ok (.putfield 50, 3) := by decide +kernel
theorem dX3_becomeLike_58 : decode cX3_becomeLike 58 = .ok (.aload_n 0, 1) := by decide +kernel
theorem dX3_becomeLike_59 : decode cX3_becomeLike 59 = .ok (.aload_n 1, 1) := by decide +kernel
theorem dX3_becomeLike_60 : decode cX3_becomeLike 60 = .ok (.getfield 53, 3) := by decide +kernel
theorem dX3_becomeLike_63 : decode cX3_becomeLike 63 = .ok (.putfield 53, 3) := by decide +kernel
theorem dX3_becomeLike_66 : decode cX3_becomeLike 66 = .ok (.aload_n 0, 1) := by decide +kernel
theorem dX3_becomeLike_67 : decode cX3_becomeLike 67 = .ok (.aload_n 1, 1) := by decide +kernel
theorem dX3_becomeLike_68 : decode cX3_becomeLike 68 = .ok (.getfield 56, 3) := by decide +kernel
theorem dX3_becomeLike_71 : decode cX3_becomeLike 71 = .ok (.putfield 56, 3) := by decide +kernel
theorem dX3_becomeLike_74 : decode cX3_becomeLike 74 = .ok (.aload_n 0, 1) := by decide +kernel
theorem dX3_becomeLike_75 : decode cX3_becomeLike 75 = .ok (.aload_n 1, 1) := by decide +kernel
theorem dX3_becomeLike_76 : decode cX3_becomeLike 76 = .ok (.getfield 59, 3) := by decide +kernel
theorem dX3_becomeLike_79 : decode cX3_becomeLike 79 = .ok (.putfield 59, 3) := by decide +kernel
theorem dX3_becomeLike_82 : decode cX3_becomeLike 82 = .ok (.aload_n 0, 1) := by decide +kernel
theorem dX3_becomeLike_83 : decode cX3_becomeLike 83 = .ok (.aload_n 1, 1) := by decide +kernel
theorem dX3_becomeLike_84 : decode cX3_becomeLike 84 = .ok (.getfield 62, 3) := by decide +kernel
theorem dX3_becomeLike_87 : decode cX3_becomeLike 87 = .ok (.putfield 62, 3) := by decide +kernel
theorem dX3_becomeLike_90 : decode cX3_becomeLike 90 = .ok (.aload_n 0, 1) := by decide +kernel
theorem dX3_becomeLike_91 : decode cX3_becomeLike 91 = .ok (.aload_n 1, 1) := by decide +kernel
theorem dX3_becomeLike_92 : decode cX3_becomeLike 92 = .ok (.getfield 65, 3) := by decide +kernel
theorem dX3_becomeLike_95 : decode cX3_becomeLike 95 = .ok (.putfield 65, 3) := by decide +kernel
theorem dX3_becomeLike_98 : decode cX3_becomeLike 98 = .ok (.aload_n 0, 1) := by decide +kernel
theorem dX3_becomeLike_99 : decode cX3_becomeLike 99 = .ok (.aload_n 1, 1) := by decide +kernel
theorem dX3_becomeLike_100 : decode cX3_becomeLike 100 = .ok (.getfield 68, 3) := by decide +kernel
theorem dX3_becomeLike_103 : decode cX3_becomeLike 103 = .ok (.putfield 68, 3) := by decide +kernel
theorem dX3_becomeLike_106 : decode cX3_becomeLike 106 = .ok (.aload_n 0, 1) := by decide +kernel
theorem dX3_becomeLike_107 : decode cX3_becomeLike 107 = .ok (.aload_n 1, 1) := by decide +kernel
theorem dX3_becomeLike_108 : decode cX3_becomeLike 108 = .ok (.getfield 71, 3) := by decide +kernel
theorem dX3_becomeLike_111 : decode cX3_becomeLike 111 = .ok (.putfield 71, 3) := by decide +kernel
theorem dX3_becomeLike_114 : decode cX3_becomeLike 114 = .ok (.aload_n 0, 1) := by decide +kernel
theorem dX3_becomeLike_115 : decode cX3_becomeLike 115 = .ok (.aload_n 1, 1) := by decide +kernel
theorem dX3_becomeLike_116 : decode cX3_becomeLike 116 = .ok (.getfield 74, 3) := by decide +kernel
theorem dX3_becomeLike_119 : decode cX3_becomeLike 119 = .ok (.putfield 74, 3) := by decide +kernel
theorem dX3_becomeLike_122 : decode cX3_becomeLike 122 = .ok (.aload_n 0, 1) := by decide +kernel
theorem dX3_becomeLike_123 : decode cX3_becomeLike 123 = .ok (.aload_n 1, 1) := by decide +kernel
theorem dX3_becomeLike_124 : decode cX3_becomeLike 124 = .ok (.getfield 77, 3) := by decide +kernel
theorem dX3_becomeLike_127 : decode cX3_becomeLike 127 = .ok (.putfield 77, 3) := by decide +kernel
theorem dX3_becomeLike_130 : decode cX3_becomeLike 130 = .ok (.aload_n 0, 1) := by decide +kernel
theorem dX3_becomeLike_131 : decode cX3_becomeLike 131 = .ok (.aload_n 1, 1) := by decide +kernel
theorem dX3_becomeLike_132 : decode cX3_becomeLike 132 = .ok (.getfield 80, 3) := by decide +kernel
theorem dX3_becomeLike_135 : decode cX3_becomeLike 135 = .ok (.putfield 80, 3) := by decide +kernel
theorem dX3_becomeLike_138 : decode cX3_becomeLike 138 = .ok (.aload_n 0, 1) := by decide +kernel
theorem dX3_becomeLike_139 : decode cX3_becomeLike 139 = .ok (.aload_n 1, 1) := by decide +kernel
theorem dX3_becomeLike_140 : decode cX3_becomeLike 140 = .ok (.getfield 83, 3) := by decide +kernel
theorem dX3_becomeLike_143 : decode cX3_becomeLike 143 = .ok (.putfield 83, 3) := by decide +kernel
theorem dX3_becomeLike_146 : decode cX3_becomeLike 146 = .ok (.return_, 1) := by decide +kernel
theorem dX3_changeSetting_0 : decode cX3_changeSetting 0 = .ok (.iload_n 1, 1) := by decide +kernel
theorem dX3_changeSetting_1 : decode cX3_changeSetting 1 = .ok (.ifCond .lt 9, 3) := by decide +kernel
theorem dX3_changeSetting_4 : decode cX3_changeSetting 4 = .ok (.iload_n 1, 1) := by decide +kernel
theorem dX3_changeSetting_5 : decode cX3_changeSetting 5 = .ok (.bipush 7, 2) := by decide +kernel
theorem dX3_changeSetting_7 : decode cX3_changeSetting 7 = .ok (.if_icmp .lt 6, 3) := by decide +kernel
theorem dX3_changeSetting_10 : decode cX3_changeSetting 10 = .ok (.bipush (-2), 2) := by decide +kernel
theorem dX3_changeSetting_12 : decode cX3_changeSetting 12 = .ok (.ireturn, 1) := by decide +kernel
theorem dX3_changeSetting_13 : decode cX3_changeSetting 13 = .ok (.aload_n 0, 1) := by decide +kernel
theorem dX3_changeSetting_14 : decode cX3_changeSetting 14 = .ok (.getfield 18, 3) := by decide +kernel
theorem dX3_changeSetting_17 : decode cX3_changeSetting 17 = .ok (.iload_n 1, 1) := by decide +kernel
theorem dX3_changeSetting_18 : decode cX3_changeSetting 18 = .ok (.iaload, 1) := by decide +kernel
theorem dX3_changeSetting_19 : decode cX3_changeSetting 19 = .ok (.istore_n 3, 1) := by decide +kernel
theorem dX3_changeSetting_20 : decode cX3_changeSetting 20 = .ok (.aload_n 0, 1) := by decide +kernel
theorem dX3_changeSetting_21 : decode cX3_changeSetting 21 = .ok (.getfield 18, 3) := by decide +kernel
theorem dX3_changeSetting_24 : decode cX3_changeSetting 24 = .ok (.iload_n 1, 1) := by decide +kernel
theorem dX3_changeSetting_25 : decode cX3_changeSetting 25 = .ok (.iload_n 2, 1) := by decide +kernel
theorem dX3_changeSetting_26 : decode cX3_changeSetting 26 = .ok (.iastore, 1) := by decide +kernel
theorem dX3_changeSetting_27 : decode cX3_changeSetting 27 = .ok (.iload_n 1, 1) := by decide +kernel
theorem dX3_changeSetting_28 : decode cX3_changeSetting 28 = .ok (.iconst 1, 1) := by decide +kernel
theorem dX3_changeSetting_29 : decode cX3_changeSetting 29 = .ok (.if_icmp .eq 8, 3) := by decide +kernel
theorem dX3_changeSetting_32 : decode cX3_changeSetting 32 = .ok (.iload_n 1, 1) := by decide +kernel
theorem dX3_changeSetting_33 : decode cX3_changeSetting 33 = .ok (.iconst 2, 1) := by decide +kernel
theorem dX3_changeSetting_34 : decode cX3_changeSetting 34 = .ok (.if_icmp .ne 13, 3) := by decide +kernel
theorem dX3_changeSetting_37 : decode cX3_changeSetting 37 = .ok (.aload_n 0, 1) := by decide +kernel
theorem dX3_changeSetting_38 : decode cX3_changeSetting 38 = .ok (.aload_n 0, 1) := by decide +kernel
theorem dX3_changeSetting_39 : decode cX3_changeSetting 39 = .ok (.getfield 18, 3) := by decide +kernel
theorem dX3_changeSetting_42 : decode cX3_changeSetting 42 = .ok (.iconst 1, 1) := by decide +kernel
theorem dX3_changeSetting_43 : decode cX3_changeSetting 43 = .ok (.iaload, 1) := by decide +kernel
theorem dX3_changeSetting_44 : decode cX3_changeSetting 44 = .ok (.putfield 37, 3) := by decide +kernel
theorem dX3_changeSetting_47 : decode cX3_changeSetting 47 = .ok (.iload_n 3, 1) := by decide +kernel
theorem dX3_changeSetting_48 : decode cX3_changeSetting 48 = .ok (.ireturn, 1) := by decide +kernel
theorem dX3_toMiddle_0 : decode cX3_toMiddle 0 = .ok (.aload_n 0, 1) := by decide +kernel
theorem dX3_toMiddle_1 : decode cX3_toMiddle 1 = .ok (.getfield 30, 3) := by decide +kernel
theorem dX3_toMiddle_4 : decode cX3_toMiddle 4 = .ok (.sipush 2048, 3) := by decide +kernel
theorem dX3_toMiddle_7 : decode cX3_toMiddle 7 = .ok (.isub, 1) := by decide +kernel
theorem dX3_toMiddle_8 : decode cX3_toMiddle 8 = .ok (.invokestatic 86, 3) := by decide +kernel
theorem dX3_toMiddle_11 : decode cX3_toMiddle 11 = .ok (.aload_n 0, 1) := by decide +kernel
theorem dX3_toMiddle_12 : decode cX3_toMiddle 12 = .ok (.getfield 34, 3) := by decide +kernel
theorem dX3_toMiddle_15 : decode cX3_toMiddle 15 = .ok (.sipush 2048, 3) := by decide +kernel
theorem dX3_toMiddle_18 : decode cX3_toMiddle 18 = .ok (.isub, 1) := by decide +kernel
theorem dX3_toMiddle_19 : decode cX3_toMiddle 19 = .ok (.invokestatic 86, 3) := by decide +kernel
theorem dX3_toMiddle_22 : decode cX3_toMiddle 22 = .ok (.iadd, 1) := by decide +kernel
theorem dX3_toMiddle_23 : decode cX3_toMiddle 23 = .ok (.istore_n 1, 1) := by decide +kernel
theorem dX3_toMiddle_24 : decode cX3_toMiddle 24 = .ok (.aload_n 0, 1) := by decide +kernel
theorem dX3_toMiddle_25 : decode cX3_toMiddle 25 = .ok (.sipush 2048, 3) := by decide +kernel
theorem dX3_toMiddle_28 : decode cX3_toMiddle 28 = .ok (.putfield 30, 3) := by decide +kernel
theorem dX3_toMiddle_31 : decode cX3_toMiddle 31 = .ok (.aload_n 0, 1) := by decide +kernel
theorem dX3_toMiddle_32 : decode cX3_toMiddle 32 = .ok (.sipush 2048, 3) := by decide +kernel
theorem dX3_toMiddle_35 : decode cX3_toMiddle 35 = .ok (.putfield 34, 3) := by decide +kernel
theorem dX3_toMiddle_38 : decode cX3_toMiddle 38 = .ok (.aload_n 0, 1) := by decide +kernel
theorem dX3_toMiddle_39 : decode cX3_toMiddle 39 = .ok (.aload_n 0, 1) := by decide +kernel
theorem dX3_toMiddle_40 : decode cX3_toMiddle 40 = .ok (.getfield 18, 3) := by decide +kernel
theorem dX3_toMiddle_43 : decode cX3_toMiddle 43 = .ok (.iconst 1, 1) := by decide +kernel
theorem dX3_toMiddle_44 : decode cX3_toMiddle 44 = .ok (.iaload, 1) := by decide +kernel
theorem dX3_toMiddle_45 : decode cX3_toMiddle 45 = .ok (.putfield 37, 3) := by decide +kernel
theorem dX3_toMiddle_48 : decode cX3_toMiddle 48 = .ok (.aload_n 0, 1) := by decide +kernel
theorem dX3_toMiddle_49 : decode cX3_toMiddle 49 = .ok (.iconst 0, 1) := by decide +kernel
theorem dX3_toMiddle_50 : decode cX3_toMiddle 50 = .ok (.putfield 62, 3) := by decide +kernel
theorem dX3_toMiddle_53 : decode cX3_toMiddle 53 = .ok (.iload_n 1, 1) := by decide +kernel
theorem dX3_toMiddle_54 : decode cX3_toMiddle 54 = .ok (.ireturn, 1) := by decide +kernel
theorem dX3_refusalOfPress_0 : decode cX3_refusalOfPress 0 = .ok (.iload_n 1, 1) := by decide +kernel
theorem dX3_refusalOfPress_1 : decode cX3_refusalOfPress 1 = .ok (.invokestatic 92, 3) := by decide +kernel
theorem dX3_refusalOfPress_4 : decode cX3_refusalOfPress 4 = .ok (.ifCond .ne 5, 3) := by decide +kernel
theorem dX3_refusalOfPress_7 : decode cX3_refusalOfPress 7 = .ok (.iconst (-1), 1) := by decide +kernel
theorem dX3_refusalOfPress_8 : decode cX3_refusalOfPress 8 = .ok (.ireturn, 1) := by decide +kernel
theorem dX3_refusalOfPress_9 : decode cX3_refusalOfPress 9 = .ok (.aload_n 0, 1) := by decide +kernel
theorem dX3_refusalOfPress_10 : decode cX3_refusalOfPress 10 = .ok (.iload_n 1, 1) := by decide +kernel
theorem dX3_refusalOfPress_11 : decode cX3_refusalOfPress 11 = .ok (.invokevirtual 96, 3) := by decide +kernel
theorem dX3_refusalOfPress_14 : decode cX3_refusalOfPress 14 = .ok (.ifCond .eq 8, 3) := by decide +kernel
theorem dX3_refusalOfPress_17 : decode cX3_refusalOfPress 17 = .ok (.bipush (-5), 2) := by decide +kernel
theorem dX3_refusalOfPress_19 : decode cX3_refusalOfPress 19 = .ok (.goto 4, 3) := by decide +kernel
theorem dX3_refusalOfPress_22 : decode cX3_refusalOfPress 22 = .ok (.iconst 0, 1) := by decide +kernel
theorem dX3_refusalOfPress_23 : decode cX3_refusalOfPress 23 = .ok (.ireturn, 1) := by decide +kernel
theorem dX3_refusalOfLetUp_0 : decode cX3_refusalOfLetUp 0 = .ok (.iload_n 1, 1) := by decide +kernel
theorem dX3_refusalOfLetUp_1 : decode cX3_refusalOfLetUp 1 = .ok (.invokestatic 92, 3) := by decide +kernel
theorem dX3_refusalOfLetUp_4 : decode cX3_refusalOfLetUp 4 = .ok (.ifCond .ne 5, 3) := by decide +kernel
theorem dX3_refusalOfLetUp_7 : decode cX3_refusalOfLetUp 7 = .ok (.iconst (-1), 1) := by decide +kernel
theorem dX3_refusalOfLetUp_8 : decode cX3_refusalOfLetUp 8 = .ok (.ireturn, 1) := by decide +kernel
theorem dX3_refusalOfLetUp_9 : decode cX3_refusalOfLetUp 9 = .ok (.aload_n 0, 1) := by decide +kernel
theorem dX3_refusalOfLetUp_10 : decode cX3_refusalOfLetUp 10 = .ok (.iload_n 1, 1) := by decide +kernel
theorem dX3_refusalOfLetUp_11 : decode cX3_refusalOfLetUp 11 = .ok (.invokevirtual 96, 3) := by decide +kernel
theorem dX3_refusalOfLetUp_14 : decode cX3_refusalOfLetUp 14 = .ok (.ifCond .eq 7, 3) := by decide +kernel
theorem dX3_refusalOfLetUp_17 : decode cX3_refusalOfLetUp 17 = .ok (.iconst 0, 1) := by decide +kernel
theorem dX3_refusalOfLetUp_18 : decode cX3_refusalOfLetUp 18 = .ok (.goto 5, 3) := by decide +kernel
theorem dX3_refusalOfLetUp_21 : decode cX3_refusalOfLetUp 21 = .ok (.bipush (-5), 2) := by decide +kernel
theorem dX3_refusalOfLetUp_23 : decode cX3_refusalOfLetUp 23 = .ok (.ireturn, 1) := by decide +kernel
theorem dX3_isButton_0 : decode cX3_isButton 0 = .ok (.iload_n 0, 1) := by decide +kernel
theorem dX3_isButton_1 : decode cX3_isButton 1 = .ok (.ifCond .lt 13, 3) := by decide +kernel
theorem dX3_isButton_4 : decode cX3_isButton 4 = .ok (.iload_n 0, 1) := by decide +kernel
theorem dX3_isButton_5 : decode cX3_isButton 5 = .ok (.bipush 8, 2) := by decide +kernel
theorem dX3_isButton_7 : decode cX3_isButton 7 = .ok (.if_icmp .ge 7, 3) := by decide +kernel
theorem dX3_isButton_10 : decode cX3_isButton 10 = .ok (.iconst 1, 1) := by decide +kernel
theorem dX3_isButton_11 : decode cX3_isButton 11 = .ok (.goto 4, 3) := by decide +kernel
theorem dX3_isButton_14 : decode cX3_isButton 14 = .ok (.iconst 0, 1) := by decide +kernel
theorem dX3_isButton_15 : decode cX3_isButton 15 = .ok (.ireturn, 1) := by decide +kernel
theorem dX3_isDown_0 : decode cX3_isDown 0 = .ok (.aload_n 0, 1) := by decide +kernel
theorem dX3_isDown_1 : decode cX3_isDown 1 = .ok (.getfield 77, 3) := by decide +kernel
theorem dX3_isDown_4 : decode cX3_isDown 4 = .ok (.iload_n 1, 1) := by decide +kernel
theorem dX3_isDown_5 : decode cX3_isDown 5 = .ok (.ishr, 1) := by decide +kernel
theorem dX3_isDown_6 : decode cX3_isDown 6 = .ok (.iconst 1, 1) := by decide +kernel
theorem dX3_isDown_7 : decode cX3_isDown 7 = .ok (.iand, 1) := by decide +kernel
theorem dX3_isDown_8 : decode cX3_isDown 8 = .ok (.iconst 1, 1) := by decide +kernel
theorem dX3_isDown_9 : decode cX3_isDown 9 = .ok (.if_icmp .ne 7, 3) := by decide +kernel
theorem dX3_isDown_12 : decode cX3_isDown 12 = .ok (.iconst 1, 1) := by decide +kernel
theorem dX3_isDown_13 : decode cX3_isDown 13 = .ok (.goto 4, 3) := by decide +kernel
theorem dX3_isDown_16 : decode cX3_isDown 16 = .ok (.iconst 0, 1) := by decide +kernel
theorem dX3_isDown_17 : decode cX3_isDown 17 = .ok (.ireturn, 1) := by decide +kernel
theorem dX3_pushDown_0 : decode cX3_pushDown 0 = .ok (.aload_n 0, 1) := by decide +kernel
theorem dX3_pushDown_1 : decode cX3_pushDown 1 = .ok (.dup, 1) := by decide +kernel
theorem dX3_pushDown_2 : decode cX3_pushDown 2 = .ok (.getfield 77, 3) := by decide +kernel
theorem dX3_pushDown_5 : decode cX3_pushDown 5 = .ok (.iconst 1, 1) := by decide +kernel
theorem dX3_pushDown_6 : decode cX3_pushDown 6 = .ok (.iload_n 1, 1) := by decide +kernel
theorem dX3_pushDown_7 : decode cX3_pushDown 7 = .ok (.ishl, 1) := by decide +kernel
theorem dX3_pushDown_8 : decode cX3_pushDown 8 = .ok (.ior, 1) := by decide +kernel
theorem dX3_pushDown_9 : decode cX3_pushDown 9 = .ok (.putfield 77, 3) := by decide +kernel
theorem dX3_pushDown_12 : decode cX3_pushDown 12 = .ok (.aload_n 0, 1) := by decide +kernel
theorem dX3_pushDown_13 : decode cX3_pushDown 13 = .ok (.aload_n 0, 1) := by decide +kernel
theorem dX3_pushDown_14 : decode cX3_pushDown 14 = .ok (.getfield 18, 3) := by decide +kernel
theorem dX3_pushDown_17 : decode cX3_pushDown 17 = .ok (.bipush 6, 2) := by decide +kernel
theorem dX3_pushDown_19 : decode cX3_pushDown 19 = .ok (.iaload, 1) := by decide +kernel
theorem dX3_pushDown_20 : decode cX3_pushDown 20 = .ok (.putfield 65, 3) := by decide +kernel
theorem dX3_pushDown_23 : decode cX3_pushDown 23 = .ok (.aload_n 0, 1) := by decide +kernel
theorem dX3_pushDown_24 : decode cX3_pushDown 24 = .ok (.getfield 77, 3) := by decide +kernel
theorem dX3_pushDown_27 : decode cX3_pushDown 27 = .ok (.ireturn, 1) := by decide +kernel
theorem dX3_release_0 : decode cX3_release 0 = .ok (.aload_n 0, 1) := by decide +kernel
theorem dX3_release_1 : decode cX3_release 1 = .ok (.dup, 1) := by decide +kernel
theorem dX3_release_2 : decode cX3_release 2 = .ok (.getfield 77, 3) := by decide +kernel
theorem dX3_release_5 : decode cX3_release 5 = .ok (.iconst 1, 1) := by decide +kernel
theorem dX3_release_6 : decode cX3_release 6 = .ok (.iload_n 1, 1) := by decide +kernel
theorem dX3_release_7 : decode cX3_release 7 = .ok (.ishl, 1) := by decide +kernel
theorem dX3_release_8 : decode cX3_release 8 = .ok (.iconst (-1), 1) := by decide +kernel
theorem dX3_release_9 : decode cX3_release 9 = .ok (.ixor, 1) := by decide +kernel
theorem dX3_release_10 : decode cX3_release 10 = .ok (.iand, 1) := by decide +kernel
theorem dX3_release_11 : decode cX3_release 11 = .ok (.putfield 77, 3) := by decide +kernel
theorem dX3_release_14 : decode cX3_release 14 = .ok (.aload_n 0, 1) := by decide +kernel
theorem dX3_release_15 : decode cX3_release 15 = .ok (.getfield 77, 3) := by decide +kernel
theorem dX3_release_18 : decode cX3_release 18 = .ok (.ireturn, 1) := by decide +kernel
theorem dX3_refusalOfSamples_0 : decode cX3_refusalOfSamples 0 = .ok (.iload_n 1, 1) := by decide +kernel
theorem dX3_refusalOfSamples_1 : decode cX3_refusalOfSamples 1 = .ok (.iload_n 2, 1) := by decide +kernel
theorem dX3_refusalOfSamples_2 : decode cX3_refusalOfSamples 2 = .ok (.invokestatic 99, 3) := by decide +kernel
theorem dX3_refusalOfSamples_5 : decode cX3_refusalOfSamples 5 = .ok (.ifCond .ne 6, 3) := by decide +kernel
theorem dX3_refusalOfSamples_8 : decode cX3_refusalOfSamples 8 = .ok (.bipush (-2), 2) := by decide +kernel
theorem dX3_refusalOfSamples_10 : decode cX3_refusalOfSamples 10 = .ok (.ireturn, 1) := by decide +kernel
theorem dX3_refusalOfSamples_11 : decode cX3_refusalOfSamples 11 = .ok (.aload_n 0, 1) := by decide +kernel
theorem dX3_refusalOfSamples_12 : decode cX3_refusalOfSamples 12 = .ok (.getfield 68, 3) := by decide +kernel
theorem dX3_refusalOfSamples_15 : decode cX3_refusalOfSamples 15 = .ok (.iload_n 3, 1) := by decide +kernel
theorem dX3_refusalOfSamples_16 : decode cX3_refusalOfSamples 16 = .ok (.iadd, 1) := by decide +kernel
theorem dX3_refusalOfSamples_17 : decode cX3_refusalOfSamples 17 = .ok (.sipush 9999, 3) := by decide +kernel
theorem dX3_refusalOfSamples_20 : decode cX3_refusalOfSamples 20 = .ok (.if_icmp .le 8, 3) := by decide +kernel
theorem dX3_refusalOfSamples_23 : decode cX3_refusalOfSamples 23 = .ok (.bipush (-5), 2) := by decide +kernel
theorem dX3_refusalOfSamples_25 : decode cX3_refusalOfSamples 25 = .ok (.goto 4, 3) := by decide +kernel
theorem dX3_refusalOfSamples_28 : decode cX3_refusalOfSamples 28 = .ok (.iconst 0, 1) := by decide +kernel
theorem dX3_refusalOfSamples_29 : decode cX3_refusalOfSamples 29 = .ok (.ireturn, 1) := by decide +kernel
theorem dX3_restPlaceX_0 : decode cX3_restPlaceX 0 = .ok (.aload_n 0, 1) := by decide +kernel
theorem dX3_restPlaceX_1 : decode cX3_restPlaceX 1 = .ok (.getfield 30, 3) := by decide +kernel
theorem dX3_restPlaceX_4 : decode cX3_restPlaceX 4 = .ok (.bipush 16, 2) := by decide +kernel
theorem dX3_restPlaceX_6 : decode cX3_restPlaceX 6 = .ok (.idiv, 1) := by decide +kernel
theorem dX3_restPlaceX_7 : decode cX3_restPlaceX 7 = .ok (.ireturn, 1) := by decide +kernel
theorem dX3_restPlaceY_0 : decode cX3_restPlaceY 0 = .ok (.aload_n 0, 1) := by decide +kernel
theorem dX3_restPlaceY_1 : decode cX3_restPlaceY 1 = .ok (.getfield 34, 3) := by decide +kernel
theorem dX3_restPlaceY_4 : decode cX3_restPlaceY 4 = .ok (.bipush 16, 2) := by decide +kernel
theorem dX3_restPlaceY_6 : decode cX3_restPlaceY 6 = .ok (.idiv, 1) := by decide +kernel
theorem dX3_restPlaceY_7 : decode cX3_restPlaceY 7 = .ok (.ireturn, 1) := by decide +kernel
theorem dX3_isOffByNothing_0 : decode cX3_isOffByNothing 0 = .ok (.iload_n 1, 1) := by decide +kernel
theorem dX3_isOffByNothing_1 : decode cX3_isOffByNothing 1 = .ok (.aload_n 0, 1) := by decide +kernel
theorem dX3_isOffByNothing_2 : decode cX3_isOffByNothing 2 = .ok (.invokevirtual 103, 3) := by decide +kernel
theorem dX3_isOffByNothing_5 : decode cX3_isOffByNothing 5 = .ok (.if_icmp .ne 15, 3) := by decide +kernel
theorem dX3_isOffByNothing_8 : decode cX3_isOffByNothing 8 = .ok (.iload_n 2, 1) := by decide +kernel
theorem dX3_isOffByNothing_9 : decode cX3_isOffByNothing 9 = .ok (.aload_n 0, 1) := by decide +kernel
theorem dX3_isOffByNothing_10 : decode cX3_isOffByNothing 10 = .ok (.invokevirtual 107, 3) := by decide +kernel
theorem dX3_isOffByNothing_13 : decode cX3_isOffByNothing 13 = .ok (.if_icmp .ne 7, 3) := by decide +kernel
theorem dX3_isOffByNothing_16 : decode cX3_isOffByNothing 16 = .ok (.iconst 1, 1) := by decide +kernel
theorem dX3_isOffByNothing_17 : decode cX3_isOffByNothing 17 = .ok (.goto 4, 3) := by decide +kernel
theorem dX3_isOffByNothing_20 : decode cX3_isOffByNothing 20 = .ok (.iconst 0, 1) := by decide +kernel
theorem dX3_isOffByNothing_21 : decode cX3_isOffByNothing 21 = .ok (.ireturn, 1) := by decide +kernel
theorem dX3_farthestOff_0 : decode cX3_farthestOff 0 = .ok (.iload_n 1, 1) := by decide +kernel
theorem dX3_farthestOff_1 : decode cX3_farthestOff 1 = .ok (.aload_n 0, 1) := by decide +kernel
theorem dX3_farthestOff_2 : decode cX3_farthestOff 2 = .ok (.getfield 30, 3) := by decide +kernel
theorem dX3_farthestOff_5 : decode cX3_farthestOff 5 = .ok (.bipush 16, 2) := by decide +kernel
theorem dX3_farthestOff_7 : decode cX3_farthestOff 7 = .ok (.idiv, 1) := by decide +kernel
theorem dX3_farthestOff_8 : decode cX3_farthestOff 8 = .ok (.isub, 1) := by decide +kernel
theorem dX3_farthestOff_9 : decode cX3_farthestOff 9 = .ok (.invokestatic 86, 3) := by decide +kernel
theorem dX3_farthestOff_12 : decode cX3_farthestOff 12 = .ok (.iload_n 2, 1) := by decide +kernel
theorem dX3_farthestOff_13 : decode cX3_farthestOff 13 = .ok (.aload_n 0, 1) := by decide +kernel
theorem dX3_farthestOff_14 : decode cX3_farthestOff 14 = .ok (.getfield 34, 3) := by decide +kernel
theorem dX3_farthestOff_17 : decode cX3_farthestOff 17 = .ok (.bipush 16, 2) := by decide +kernel
theorem dX3_farthestOff_19 : decode cX3_farthestOff 19 = .ok (.idiv, 1) := by decide +kernel
theorem dX3_farthestOff_20 : decode cX3_farthestOff 20 = .ok (.isub, 1) := by decide +kernel
theorem dX3_farthestOff_21 : decode cX3_farthestOff 21 = .ok (.invokestatic 86, 3) := by decide +kernel
theorem dX3_farthestOff_24 : decode cX3_farthestOff 24 = .ok (.invokestatic 110, 3) := by decide +kernel
theorem dX3_farthestOff_27 : decode cX3_farthestOff 27 = .ok (.ireturn, 1) := by decide +kernel
theorem dX3_stillWith_0 : decode cX3_stillWith 0 = .ok (.aload_n 0, 1) := by decide +kernel
theorem dX3_stillWith_1 : decode cX3_stillWith 1 = .ok (.getfield 68, 3) := by decide +kernel
theorem dX3_stillWith_4 : decode cX3_stillWith 4 = .ok (.ifCond .le 33, 3) := by decide +kernel
theorem dX3_stillWith_7 : decode cX3_stillWith 7 = .ok (.iload_n 1, 1) := by decide +kernel
theorem dX3_stillWith_8 : decode cX3_stillWith 8 = .ok (.aload_n 0, 1) := by decide +kernel
theorem dX3_stillWith_9 : decode cX3_stillWith 9 = .ok (.getfield 56, 3) := by decide +kernel
theorem dX3_stillWith_12 : decode cX3_stillWith 12 = .ok (.isub, 1) := by decide +kernel
theorem dX3_stillWith_13 : decode cX3_stillWith 13 = .ok (.invokestatic 86, 3) := by decide +kernel
theorem dX3_stillWith_16 : decode cX3_stillWith 16 = .ok (.iconst 1, 1) := by decide +kernel
theorem dX3_stillWith_17 : decode cX3_stillWith 17 = .ok (.if_icmp .gt 20, 3) := by decide +kernel
theorem dX3_stillWith_20 : decode cX3_stillWith 20 = .ok (.iload_n 2, 1) := by decide +kernel
theorem dX3_stillWith_21 : decode cX3_stillWith 21 = .ok (.aload_n 0, 1) := by decide +kernel
theorem dX3_stillWith_22 : decode cX3_stillWith 22 = .ok (.getfield 59, 3) := by decide +kernel
theorem dX3_stillWith_25 : decode cX3_stillWith 25 = .ok (.isub, 1) := by decide +kernel
theorem dX3_stillWith_26 : decode cX3_stillWith 26 = .ok (.invokestatic 86, 3) := by decide +kernel
theorem dX3_stillWith_29 : decode cX3_stillWith 29 = .ok (.iconst 1, 1) := by decide +kernel
theorem dX3_stillWith_30 : decode cX3_stillWith 30 = .ok (.if_icmp .gt 7, 3) := by decide +kernel
theorem dX3_stillWith_33 : decode cX3_stillWith 33 = .ok (.iconst 1, 1) := by decide +kernel
theorem dX3_stillWith_34 : decode cX3_stillWith 34 = .ok (.goto 4, 3) := by decide +kernel
theorem dX3_stillWith_37 : decode cX3_stillWith 37 = .ok (.iconst 0, 1) := by decide +kernel
theorem dX3_stillWith_38 : decode cX3_stillWith 38 = .ok (.istore_n 3, 1) := by decide +kernel
theorem dX3_stillWith_39 : decode cX3_stillWith 39 = .ok (.iload_n 3, 1) := by decide +kernel
theorem dX3_stillWith_40 : decode cX3_stillWith 40 = .ok (.ifCond .eq 12, 3) := by decide +kernel
theorem dX3_stillWith_43 : decode cX3_stillWith 43 = .ok (.aload_n 0, 1) := by decide +kernel
theorem dX3_stillWith_44 : decode cX3_stillWith 44 = .ok (.getfield 62, 3) := by decide +kernel
theorem dX3_stillWith_47 : decode cX3_stillWith 47 = .ok (.iconst 1, 1) := by decide +kernel
theorem dX3_stillWith_48 : decode cX3_stillWith 48 = .ok (.iadd, 1) := by decide +kernel
theorem dX3_stillWith_49 : decode cX3_stillWith 49 = .ok (.goto 4, 3) := by decide +kernel
theorem dX3_stillWith_52 : decode cX3_stillWith 52 = .ok (.iconst 0, 1) := by decide +kernel
theorem dX3_stillWith_53 : decode cX3_stillWith 53 = .ok (.ireturn, 1) := by decide +kernel
theorem dX3_wouldDrift_0 : decode cX3_wouldDrift 0 = .ok (.aload_n 0, 1) := by decide +kernel
theorem dX3_wouldDrift_1 : decode cX3_wouldDrift 1 = .ok (.iload_n 1, 1) := by decide +kernel
theorem dX3_wouldDrift_2 : decode cX3_wouldDrift 2 = .ok (.iload_n 2, 1) := by decide +kernel
theorem dX3_wouldDrift_3 : decode cX3_wouldDrift 3 = .ok (.invokevirtual 114, 3) := by decide +kernel
theorem dX3_wouldDrift_6 : decode cX3_wouldDrift 6 = .ok (.istore_n 3, 1) := by decide +kernel
theorem dX3_wouldDrift_7 : decode cX3_wouldDrift 7 = .ok (.aload_n 0, 1) := by decide +kernel
theorem dX3_wouldDrift_8 : decode cX3_wouldDrift 8 = .ok (.getfield 65, 3) := by decide +kernel
theorem dX3_wouldDrift_11 : decode cX3_wouldDrift 11 = .ok (.ifCond .ne 41, 3) := by decide +kernel
theorem dX3_wouldDrift_14 : decode cX3_wouldDrift 14 = .ok (.iload_n 3, 1) := by decide +kernel
theorem dX3_wouldDrift_15 : decode cX3_wouldDrift 15 = .ok (.aload_n 0, 1) := by decide +kernel
theorem dX3_wouldDrift_16 : decode cX3_wouldDrift 16 = .ok (.getfield 37, 3) := by decide +kernel
theorem dX3_wouldDrift_19 : decode cX3_wouldDrift 19 = .ok (.if_icmp .le 33, 3) := by decide +kernel
theorem dX3_wouldDrift_22 : decode cX3_wouldDrift 22 = .ok (.iload_n 3, 1) := by decide +kernel
theorem dX3_wouldDrift_23 : decode cX3_wouldDrift 23 = .ok (.aload_n 0, 1) := by decide +kernel
theorem dX3_wouldDrift_24 : decode cX3_wouldDrift 24 = .ok (.getfield 37, 3) := by decide +kernel
theorem dX3_wouldDrift_27 : decode cX3_wouldDrift 27 = .ok (.bipush 8, 2) := by decide +kernel
theorem dX3_wouldDrift_29 : decode cX3_wouldDrift 29 = .ok (.iadd, 1) := by decide +kernel
theorem dX3_wouldDrift_30 : decode cX3_wouldDrift 30 = .ok (.if_icmp .gt 22, 3) := by decide +kernel
theorem dX3_wouldDrift_33 : decode cX3_wouldDrift 33 = .ok (.aload_n 0, 1) := by decide +kernel
theorem dX3_wouldDrift_34 : decode cX3_wouldDrift 34 = .ok (.iload_n 1, 1) := by decide +kernel
theorem dX3_wouldDrift_35 : decode cX3_wouldDrift 35 = .ok (.iload_n 2, 1) := by decide +kernel
theorem dX3_wouldDrift_36 : decode cX3_wouldDrift 36 = .ok (.invokevirtual 117, 3) := by decide +kernel
theorem dX3_wouldDrift_39 : decode cX3_wouldDrift 39 = .ok (.aload_n 0, 1) := by decide +kernel
theorem dX3_wouldDrift_40 : decode cX3_wouldDrift 40 = .ok (.getfield 18, 3) := by decide +kernel
theorem dX3_wouldDrift_43 : decode cX3_wouldDrift 43 = .ok (.iconst 5, 1) := by decide +kernel
theorem dX3_wouldDrift_44 : decode cX3_wouldDrift 44 = .ok (.iaload, 1) := by decide +kernel
theorem dX3_wouldDrift_45 : decode cX3_wouldDrift 45 = .ok (.if_icmp .lt 7, 3) := by decide +kernel
theorem dX3_wouldDrift_48 : decode cX3_wouldDrift 48 = .ok (.iconst 1, 1) := by decide +kernel
theorem dX3_wouldDrift_49 : decode cX3_wouldDrift 49 = .ok (.goto 4, 3) := by decide +kernel
theorem dX3_wouldDrift_52 : decode cX3_wouldDrift 52 = .ok (.iconst 0, 1) := by decide +kernel
theorem dX3_wouldDrift_53 : decode cX3_wouldDrift 53 = .ok (.ireturn, 1) := by decide +kernel
theorem dX3_tellingAt_0 : decode cX3_tellingAt 0 = .ok (.aload_n 0, 1) := by decide +kernel
theorem dX3_tellingAt_1 : decode cX3_tellingAt 1 = .ok (.iload_n 1, 1) := by decide +kernel
theorem dX3_tellingAt_2 : decode cX3_tellingAt 2 = .ok (.iload_n 2, 1) := by decide +kernel
theorem dX3_tellingAt_3 : decode cX3_tellingAt 3 = .ok (.invokevirtual 114, 3) := by decide +kernel
theorem dX3_tellingAt_6 : decode cX3_tellingAt 6 = .ok (.aload_n 0, 1) := by decide +kernel
theorem dX3_tellingAt_7 : decode cX3_tellingAt 7 = .ok (.getfield 37, 3) := by decide +kernel
theorem dX3_tellingAt_10 : decode cX3_tellingAt 10 = .ok (.if_icmp .le 12, 3) := by decide +kernel
theorem dX3_tellingAt_13 : decode cX3_tellingAt 13 = .ok (.aload_n 0, 1) := by decide +kernel
theorem dX3_tellingAt_14 : decode cX3_tellingAt 14 = .ok (.iload_n 1, 1) := by decide +kernel
theorem dX3_tellingAt_15 : decode cX3_tellingAt 15 = .ok (.iload_n 2, 1) := by decide +kernel
theorem dX3_tellingAt_16 : decode cX3_tellingAt 16 = .ok (.invokevirtual 120, 3) := by decide +kernel
theorem dX3_tellingAt_19 : decode cX3_tellingAt 19 = .ok (.ifCond .eq 9, 3) := by decide +kernel
theorem dX3_tellingAt_22 : decode cX3_tellingAt 22 = .ok (.iconst 0, 1) := by decide +kernel
theorem dX3_tellingAt_23 : decode cX3_tellingAt 23 = .ok (.iconst 0, 1) := by decide +kernel
theorem dX3_tellingAt_24 : decode cX3_tellingAt 24 = .ok (.invokestatic 123, 3) := by decide +kernel
theorem dX3_tellingAt_27 : decode cX3_tellingAt 27 = .ok (.ireturn, 1) := by decide +kernel
theorem dX3_tellingAt_28 : decode cX3_tellingAt 28 = .ok (.aload_n 0, 1) := by decide +kernel
theorem dX3_tellingAt_29 : decode cX3_tellingAt 29 = .ok (.iload_n 1, 1) := by decide +kernel
theorem dX3_tellingAt_30 : decode cX3_tellingAt 30 = .ok (.aload_n 0, 1) := by decide +kernel
theorem dX3_tellingAt_31 : decode cX3_tellingAt 31 = .ok (.invokevirtual 103, 3) := by decide +kernel
theorem dX3_tellingAt_34 : decode cX3_tellingAt 34 = .ok (.isub, 1) := by decide +kernel
theorem dX3_tellingAt_35 : decode cX3_tellingAt 35 = .ok (.invokevirtual 126, 3) := by decide +kernel
theorem dX3_tellingAt_38 : decode cX3_tellingAt 38 = .ok (.istore_n 3, 1) := by decide +kernel
theorem dX3_tellingAt_39 : decode cX3_tellingAt 39 = .ok (.aload_n 0, 1) := by decide +kernel
theorem dX3_tellingAt_40 : decode cX3_tellingAt 40 = .ok (.iload_n 2, 1) := by decide +kernel
theorem dX3_tellingAt_41 : decode cX3_tellingAt 41 = .ok (.aload_n 0, 1) := by decide +kernel
theorem dX3_tellingAt_42 : decode cX3_tellingAt 42 = .ok (.invokevirtual 107, 3) := by decide +kernel
theorem dX3_tellingAt_45 : decode cX3_tellingAt 45 = .ok (.isub, 1) := by decide +kernel
theorem dX3_tellingAt_46 : decode cX3_tellingAt 46 = .ok (.invokevirtual 126, 3) := by decide +kernel
theorem dX3_tellingAt_49 : decode cX3_tellingAt 49 = .ok (.istore 4, 2) := by decide +kernel
theorem dX3_tellingAt_51 : decode cX3_tellingAt 51 = .ok (.iload_n 3, 1) := by decide +kernel
theorem dX3_tellingAt_52 : decode cX3_tellingAt 52 = .ok (.invokestatic 86, 3) := by decide +kernel
theorem dX3_tellingAt_55 : decode cX3_tellingAt 55 = .ok (.iload 4, 2) := by decide +kernel
theorem dX3_tellingAt_57 : decode cX3_tellingAt 57 = .ok (.invokestatic 86, 3) := by decide +kernel
theorem dX3_tellingAt_60 : decode cX3_tellingAt 60 = .ok (.iadd, 1) := by decide +kernel
theorem dX3_tellingAt_61 : decode cX3_tellingAt 61 = .ok (.istore 5, 2) := by decide +kernel
theorem dX3_tellingAt_63 : decode cX3_tellingAt 63 = .ok (.aload_n 0, 1) := by decide +kernel
theorem dX3_tellingAt_64 : decode cX3_tellingAt 64 = .ok (.getfield 18, 3) := by decide +kernel
theorem dX3_tellingAt_67 : decode cX3_tellingAt 67 = .ok (.iconst 4, 1) := by decide +kernel
theorem dX3_tellingAt_68 : decode cX3_tellingAt 68 = .ok (.iaload, 1) := by decide +kernel
theorem dX3_tellingAt_69 : decode cX3_tellingAt 69 = .ok (.istore 6, 2) := by decide +kernel
theorem dX3_tellingAt_71 : decode cX3_tellingAt 71 = .ok (.iload 5, 2) := by decide +kernel
theorem dX3_tellingAt_73 : decode cX3_tellingAt 73 = .ok (.iload 6, 2) := by decide +kernel
theorem dX3_tellingAt_75 : decode cX3_tellingAt 75 = .ok (.if_icmp .le 26, 3) := by decide +kernel
theorem dX3_tellingAt_78 : decode cX3_tellingAt 78 = .ok (.iload_n 3, 1) := by decide +kernel
theorem dX3_tellingAt_79 : decode cX3_tellingAt 79 = .ok (.iload 6, 2) := by decide +kernel
theorem dX3_tellingAt_81 : decode cX3_tellingAt 81 = .ok (.imul, 1) := by decide +kernel
theorem dX3_tellingAt_82 : decode cX3_tellingAt 82 = .ok (.iload 5, 2) := by decide +kernel
theorem dX3_tellingAt_84 : decode cX3_tellingAt 84 = .ok (.invokestatic 129, 3) := by decide +kernel
theorem dX3_tellingAt_87 : decode cX3_tellingAt 87 = .ok (.iload 4, 2) := by decide +kernel
theorem dX3_tellingAt_89 : decode cX3_tellingAt 89 = .ok (.iload 6, 2) := by decide +kernel
theorem dX3_tellingAt_91 : decode cX3_tellingAt 91 = .ok (.imul, 1) := by decide +kernel
theorem dX3_tellingAt_92 : decode cX3_tellingAt 92 = .ok (.iload 5, 2) := by decide +kernel
theorem dX3_tellingAt_94 : decode cX3_tellingAt 94 = .ok (.invokestatic 129, 3) := by decide +kernel
theorem dX3_tellingAt_97 : decode cX3_tellingAt 97 = .ok (.invokestatic 123, 3) := by decide +kernel
theorem dX3_tellingAt_100 : decode cX3_tellingAt 100 = .ok (.ireturn, 1) := by decide +kernel
theorem dX3_tellingAt_101 : decode cX3_tellingAt 101 = .ok (.iload_n 3, 1) := by decide +kernel
theorem dX3_tellingAt_102 : decode cX3_tellingAt 102 = .ok (.iload 4, 2) := by decide +kernel
theorem dX3_tellingAt_104 : decode cX3_tellingAt 104 = .ok (.invokestatic 123, 3) := by decide +kernel
theorem dX3_tellingAt_107 : decode cX3_tellingAt 107 = .ok (.ireturn, 1) := by decide +kernel
theorem dX3_leanOf_0 : decode cX3_leanOf 0 = .ok (.iload_n 1, 1) := by decide +kernel
theorem dX3_leanOf_1 : decode cX3_leanOf 1 = .ok (.invokestatic 86, 3) := by decide +kernel
theorem dX3_leanOf_4 : decode cX3_leanOf 4 = .ok (.aload_n 0, 1) := by decide +kernel
theorem dX3_leanOf_5 : decode cX3_leanOf 5 = .ok (.getfield 37, 3) := by decide +kernel
theorem dX3_leanOf_8 : decode cX3_leanOf 8 = .ok (.isub, 1) := by decide +kernel
theorem dX3_leanOf_9 : decode cX3_leanOf 9 = .ok (.istore_n 2, 1) := by decide +kernel
theorem dX3_leanOf_10 : decode cX3_leanOf 10 = .ok (.iload_n 2, 1) := by decide +kernel
theorem dX3_leanOf_11 : decode cX3_leanOf 11 = .ok (.ifCond .gt 5, 3) := by decide +kernel
theorem dX3_leanOf_14 : decode cX3_leanOf 14 = .ok (.iconst 0, 1) := by decide +kernel
theorem dX3_leanOf_15 : decode cX3_leanOf 15 = .ok (.ireturn, 1) := by decide +kernel
theorem dX3_leanOf_16 : decode cX3_leanOf 16 = .ok (.bipush 100, 2) := by decide +kernel
theorem dX3_leanOf_18 : decode cX3_leanOf 18 = .ok (.iload_n 2, 1) := by decide +kernel
theorem dX3_leanOf_19 : decode cX3_leanOf 19 = .ok (.bipush 100, 2) := by decide +kernel
theorem dX3_leanOf_21 : decode cX3_leanOf 21 = .ok (.imul, 1) := by decide +kernel
theorem dX3_leanOf_22 : decode cX3_leanOf 22 = .ok (.aload_n 0, 1) := by decide +kernel
theorem dX3_leanOf_23 : decode cX3_leanOf 23 = .ok (.getfield 18, 3) := by decide +kernel
theorem dX3_leanOf_26 : decode cX3_leanOf 26 = .ok (.iconst 3, 1) := by decide +kernel
theorem dX3_leanOf_27 : decode cX3_leanOf 27 = .ok (.iaload, 1) := by decide +kernel
theorem dX3_leanOf_28 : decode cX3_leanOf 28 = .ok (.aload_n 0, 1) := by decide +kernel
theorem dX3_leanOf_29 : decode cX3_leanOf 29 = .ok (.getfield 37, 3) := by decide +kernel
theorem dX3_leanOf_32 : decode cX3_leanOf 32 = .ok (.isub, 1) := by decide +kernel
theorem dX3_leanOf_33 : decode cX3_leanOf 33 = .ok (.invokestatic 129, 3) := by decide +kernel
theorem dX3_leanOf_36 : decode cX3_leanOf 36 = .ok (.invokestatic 132, 3) := by decide +kernel
theorem dX3_leanOf_39 : decode cX3_leanOf 39 = .ok (.istore_n 3, 1) := by decide +kernel
theorem dX3_leanOf_40 : decode cX3_leanOf 40 = .ok (.iload_n 1, 1) := by decide +kernel
theorem dX3_leanOf_41 : decode cX3_leanOf 41 = .ok (.ifCond .ge 8, 3) := by decide +kernel
theorem dX3_leanOf_44 : decode cX3_leanOf 44 = .ok (.iload_n 3, 1) := by decide +kernel
theorem dX3_leanOf_45 : decode cX3_leanOf 45 = .ok (.ineg, 1) := by decide +kernel
theorem dX3_leanOf_46 : decode cX3_leanOf 46 = .ok (.goto 4, 3) := by decide +kernel
theorem dX3_leanOf_49 : decode cX3_leanOf 49 = .ok (.iload_n 3, 1) := by decide +kernel
theorem dX3_leanOf_50 : decode cX3_leanOf 50 = .ok (.ireturn, 1) := by decide +kernel
theorem dX3_telling_0 : decode cX3_telling 0 = .ok (.aload_n 0, 1) := by decide +kernel
theorem dX3_telling_1 : decode cX3_telling 1 = .ok (.getfield 50, 3) := by decide +kernel
theorem dX3_telling_4 : decode cX3_telling 4 = .ok (.aload_n 0, 1) := by decide +kernel
theorem dX3_telling_5 : decode cX3_telling 5 = .ok (.getfield 53, 3) := by decide +kernel
theorem dX3_telling_8 : decode cX3_telling 8 = .ok (.invokestatic 123, 3) := by decide +kernel
theorem dX3_telling_11 : decode cX3_telling 11 = .ok (.ireturn, 1) := by decide +kernel
theorem dX3_tellsSomething_0 : decode cX3_tellsSomething 0 = .ok (.aload_n 0, 1) := by decide +kernel
theorem dX3_tellsSomething_1 : decode cX3_tellsSomething 1 = .ok (.getfield 50, 3) := by decide +kernel
theorem dX3_tellsSomething_4 : decode cX3_tellsSomething 4 = .ok (.ifCond .ne 10, 3) := by decide +kernel
theorem dX3_tellsSomething_7 : decode cX3_tellsSomething 7 = .ok (.aload_n 0, 1) := by decide +kernel
theorem dX3_tellsSomething_8 : decode cX3_tellsSomething 8 = .ok (.getfield 53, 3) := by decide +kernel
theorem dX3_tellsSomething_11 : decode cX3_tellsSomething 11 = .ok (.ifCond .eq 7, 3) := by decide +kernel
theorem dX3_tellsSomething_14 : decode cX3_tellsSomething 14 = .ok (.iconst 1, 1) := by decide +kernel
theorem dX3_tellsSomething_15 : decode cX3_tellsSomething 15 = .ok (.goto 4, 3) := by decide +kernel
theorem dX3_tellsSomething_18 : decode cX3_tellsSomething 18 = .ok (.iconst 0, 1) := by decide +kernel
theorem dX3_tellsSomething_19 : decode cX3_tellsSomething 19 = .ok (.ireturn, 1) := by decide +kernel
theorem dX3_take_0 : decode cX3_take 0 = .ok (.aload_n 0, 1) := by decide +kernel
theorem dX3_take_1 : decode cX3_take 1 = .ok (.iload_n 1, 1) := by decide +kernel
theorem dX3_take_2 : decode cX3_take 2 = .ok (.iload_n 2, 1) := by decide +kernel
theorem dX3_take_3 : decode cX3_take 3 = .ok (.invokevirtual 135, 3) := by decide +kernel
theorem dX3_take_6 : decode cX3_take 6 = .ok (.istore_n 3, 1) := by decide +kernel
theorem dX3_take_7 : decode cX3_take 7 = .ok (.aload_n 0, 1) := by decide +kernel
theorem dX3_take_8 : decode cX3_take 8 = .ok (.iload_n 1, 1) := by decide +kernel
theorem dX3_take_9 : decode cX3_take 9 = .ok (.iload_n 2, 1) := by decide +kernel
theorem dX3_take_10 : decode cX3_take 10 = .ok (.invokevirtual 114, 3) := by decide +kernel
theorem dX3_take_13 : decode cX3_take 13 = .ok (.aload_n 0, 1) := by decide +kernel
theorem dX3_take_14 : decode cX3_take 14 = .ok (.getfield 37, 3) := by decide +kernel
theorem dX3_take_17 : decode cX3_take 17 = .ok (.if_icmp .gt 7, 3) := by decide +kernel
theorem dX3_take_20 : decode cX3_take 20 = .ok (.iconst 1, 1) := by decide +kernel
theorem dX3_take_21 : decode cX3_take 21 = .ok (.goto 4, 3) := by decide +kernel
theorem dX3_take_24 : decode cX3_take 24 = .ok (.iconst 0, 1) := by decide +kernel
theorem dX3_take_25 : decode cX3_take 25 = .ok (.istore 4, 2) := by decide +kernel
theorem dX3_take_27 : decode cX3_take 27 = .ok (.aload_n 0, 1) := by decide +kernel
theorem dX3_take_28 : decode cX3_take 28 = .ok (.iload_n 1, 1) := by decide +kernel
theorem dX3_take_29 : decode cX3_take 29 = .ok (.iload_n 2, 1) := by decide +kernel
theorem dX3_take_30 : decode cX3_take 30 = .ok (.invokevirtual 120, 3) := by decide +kernel
theorem dX3_take_33 : decode cX3_take 33 = .ok (.istore 5, 2) := by decide +kernel
theorem dX3_take_35 : decode cX3_take 35 = .ok (.aload_n 0, 1) := by decide +kernel
theorem dX3_take_36 : decode cX3_take 36 = .ok (.aload_n 0, 1) := by decide +kernel
theorem dX3_take_37 : decode cX3_take 37 = .ok (.iload_n 1, 1) := by decide +kernel
theorem dX3_take_38 : decode cX3_take 38 = .ok (.iload_n 2, 1) := by decide +kernel
theorem dX3_take_39 : decode cX3_take 39 = .ok (.invokevirtual 117, 3) := by decide +kernel
theorem dX3_take_42 : decode cX3_take 42 = .ok (.putfield 62, 3) := by decide +kernel
theorem dX3_take_45 : decode cX3_take 45 = .ok (.aload_n 0, 1) := by decide +kernel
theorem dX3_take_46 : decode cX3_take 46 = .ok (.iload_n 1, 1) := by decide +kernel
theorem dX3_take_47 : decode cX3_take 47 = .ok (.putfield 56, 3) := by decide +kernel
theorem dX3_take_50 : decode cX3_take 50 = .ok (.aload_n 0, 1) := by decide +kernel
theorem dX3_take_51 : decode cX3_take 51 = .ok (.iload_n 2, 1) := by decide +kernel
theorem dX3_take_52 : decode cX3_take 52 = .ok (.putfield 59, 3) := by decide +kernel
theorem dX3_take_55 : decode cX3_take 55 = .ok (.iload 4, 2) := by decide +kernel
theorem dX3_take_57 : decode cX3_take 57 = .ok (.ifCond .eq 12, 3) := by decide +kernel
theorem dX3_take_60 : decode cX3_take 60 = .ok (.aload_n 0, 1) := by decide +kernel
theorem dX3_take_61 : decode cX3_take 61 = .ok (.iload_n 1, 1) := by decide +kernel
theorem dX3_take_62 : decode cX3_take 62 = .ok (.iload_n 2, 1) := by decide +kernel
theorem dX3_take_63 : decode cX3_take 63 = .ok (.invokevirtual 138, 3) := by decide +kernel
theorem dX3_take_66 : decode cX3_take 66 = .ok (.goto 14, 3) := by decide +kernel
theorem dX3_take_69 : decode cX3_take 69 = .ok (.iload 5, 2) := by decide +kernel
theorem dX3_take_71 : decode cX3_take 71 = .ok (.ifCond .eq 9, 3) := by decide +kernel
theorem dX3_take_74 : decode cX3_take 74 = .ok (.aload_n 0, 1) := by decide +kernel
theorem dX3_take_75 : decode cX3_take 75 = .ok (.iload_n 1, 1) := by decide +kernel
theorem dX3_take_76 : decode cX3_take 76 = .ok (.iload_n 2, 1) := by decide +kernel
theorem dX3_take_77 : decode cX3_take 77 = .ok (.invokevirtual 142, 3) := by decide +kernel
theorem dX3_take_80 : decode cX3_take 80 = .ok (.aload_n 0, 1) := by decide +kernel
theorem dX3_take_81 : decode cX3_take 81 = .ok (.iload_n 3, 1) := by decide +kernel
theorem dX3_take_82 : decode cX3_take 82 = .ok (.invokevirtual 145, 3) := by decide +kernel
theorem dX3_take_85 : decode cX3_take 85 = .ok (.aload_n 0, 1) := by decide +kernel
theorem dX3_take_86 : decode cX3_take 86 = .ok (.getfield 65, 3) := by decide +kernel
theorem dX3_take_89 : decode cX3_take 89 = .ok (.ifCond .le 13, 3) := by decide +kernel
theorem dX3_take_92 : decode cX3_take 92 = .ok (.aload_n 0, 1) := by decide +kernel
theorem dX3_take_93 : decode cX3_take 93 = .ok (.dup, 1) := by decide +kernel
theorem dX3_take_94 : decode cX3_take 94 = .ok (.getfield 65, 3) := by decide +kernel
theorem dX3_take_97 : decode cX3_take 97 = .ok (.iconst 1, 1) := by decide +kernel
theorem dX3_take_98 : decode cX3_take 98 = .ok (.isub, 1) := by decide +kernel
theorem dX3_take_99 : decode cX3_take 99 = .ok (.putfield 65, 3) := by decide +kernel
theorem dX3_take_102 : decode cX3_take 102 = .ok (.aload_n 0, 1) := by decide +kernel
theorem dX3_take_103 : decode cX3_take 103 = .ok (.dup, 1) := by decide +kernel
theorem dX3_take_104 : decode cX3_take 104 = .ok (.getfield 68, 3) := by decide +kernel
theorem dX3_take_107 : decode cX3_take 107 = .ok (.iconst 1, 1) := by decide +kernel
theorem dX3_take_108 : decode cX3_take 108 = .ok (.iadd, 1) := by decide +kernel
theorem dX3_take_109 : decode cX3_take 109 = .ok (.putfield 68, 3) := by decide +kernel
theorem dX3_take_112 : decode cX3_take 112 = .ok (.return_, 1) := by decide +kernel
theorem dX3_tell_0 : decode cX3_tell 0 = .ok (.aload_n 0, 1) := by decide +kernel
theorem dX3_tell_1 : decode cX3_tell 1 = .ok (.iload_n 1, 1) := by decide +kernel
theorem dX3_tell_2 : decode cX3_tell 2 = .ok (.sipush 1000, 3) := by decide +kernel
theorem dX3_tell_5 : decode cX3_tell 5 = .ok (.idiv, 1) := by decide +kernel
theorem dX3_tell_6 : decode cX3_tell 6 = .ok (.bipush 100, 2) := by decide +kernel
theorem dX3_tell_8 : decode cX3_tell 8 = .ok (.isub, 1) := by decide +kernel
theorem dX3_tell_9 : decode cX3_tell 9 = .ok (.putfield 50, 3) := by decide +kernel
theorem dX3_tell_12 : decode cX3_tell 12 = .ok (.aload_n 0, 1) := by decide +kernel
theorem dX3_tell_13 : decode cX3_tell 13 = .ok (.iload_n 1, 1) := by decide +kernel
theorem dX3_tell_14 : decode cX3_tell 14 = .ok (.sipush 1000, 3) := by decide +kernel
theorem dX3_tell_17 : decode cX3_tell 17 = .ok (.irem, 1) := by decide +kernel
theorem dX3_tell_18 : decode cX3_tell 18 = .ok (.bipush 100, 2) := by decide +kernel
theorem dX3_tell_20 : decode cX3_tell 20 = .ok (.isub, 1) := by decide +kernel
theorem dX3_tell_21 : decode cX3_tell 21 = .ok (.putfield 53, 3) := by decide +kernel
theorem dX3_tell_24 : decode cX3_tell 24 = .ok (.aload_n 0, 1) := by decide +kernel
theorem dX3_tell_25 : decode cX3_tell 25 = .ok (.invokevirtual 149, 3) := by decide +kernel
theorem dX3_tell_28 : decode cX3_tell 28 = .ok (.ifCond .eq 13, 3) := by decide +kernel
theorem dX3_tell_31 : decode cX3_tell 31 = .ok (.aload_n 0, 1) := by decide +kernel
theorem dX3_tell_32 : decode cX3_tell 32 = .ok (.dup, 1) := by decide +kernel
theorem dX3_tell_33 : decode cX3_tell 33 = .ok (.getfield 80, 3) := by decide +kernel
theorem dX3_tell_36 : decode cX3_tell 36 = .ok (.iconst 1, 1) := by decide +kernel
theorem dX3_tell_37 : decode cX3_tell 37 = .ok (.iadd, 1) := by decide +kernel
theorem dX3_tell_38 : decode cX3_tell 38 = .ok (.putfield 80, 3) := by decide +kernel
theorem dX3_tell_41 : decode cX3_tell 41 = .ok (.aload_n 0, 1) := by decide +kernel
theorem dX3_tell_42 : decode cX3_tell 42 = .ok (.getfield 26, 3) := by decide +kernel
theorem dX3_tell_45 : decode cX3_tell 45 = .ok (.aload_n 0, 1) := by decide +kernel
theorem dX3_tell_46 : decode cX3_tell 46 = .ok (.getfield 50, 3) := by decide +kernel
theorem dX3_tell_49 : decode cX3_tell 49 = .ok (.iconst 0, 1) := by decide +kernel
theorem dX3_tell_50 : decode cX3_tell 50 = .ok (.invokestatic 153, 3) := by decide +kernel
theorem dX3_tell_53 : decode cX3_tell 53 = .ok (.aload_n 0, 1) := by decide +kernel
theorem dX3_tell_54 : decode cX3_tell 54 = .ok (.getfield 53, 3) := by decide +kernel
theorem dX3_tell_57 : decode cX3_tell 57 = .ok (.iconst 0, 1) := by decide +kernel
theorem dX3_tell_58 : decode cX3_tell 58 = .ok (.invokestatic 153, 3) := by decide +kernel
theorem dX3_tell_61 : decode cX3_tell 61 = .ok (.invokevirtual 158, 3) := by decide +kernel
theorem dX3_tell_64 : decode cX3_tell 64 = .ok (.return_, 1) := by decide +kernel
theorem dX3_comeToRest_0 : decode cX3_comeToRest 0 = .ok (.aload_n 0, 1) := by decide +kernel
theorem dX3_comeToRest_1 : decode cX3_comeToRest 1 = .ok (.invokevirtual 149, 3) := by decide +kernel
theorem dX3_comeToRest_4 : decode cX3_comeToRest 4 = .ok (.ifCond .eq 13, 3) := by decide +kernel
theorem dX3_comeToRest_7 : decode cX3_comeToRest 7 = .ok (.aload_n 0, 1) := by decide +kernel
theorem dX3_comeToRest_8 : decode cX3_comeToRest 8 = .ok (.dup, 1) := by decide +kernel
theorem dX3_comeToRest_9 : decode cX3_comeToRest 9 = .ok (.getfield 71, 3) := by decide +kernel
theorem dX3_comeToRest_12 : decode cX3_comeToRest 12 = .ok (.iconst 1, 1) := by decide +kernel
theorem dX3_comeToRest_13 : decode cX3_comeToRest 13 = .ok (.iadd, 1) := by decide +kernel
theorem dX3_comeToRest_14 : decode cX3_comeToRest 14 = .ok (.putfield 71, 3) := by decide +kernel
theorem dX3_comeToRest_17 : decode cX3_comeToRest 17 = .ok (.aload_n 0, 1) := by decide +kernel
theorem dX3_comeToRest_18 : decode cX3_comeToRest 18 = .ok (.getfield 65, 3) := by decide +kernel
theorem dX3_comeToRest_21 : decode cX3_comeToRest 21 = .ok (.ifCond .le 14, 3) := by decide +kernel
theorem dX3_comeToRest_24 : decode cX3_comeToRest 24 = .ok (.aload_n 0, 1) := by decide +kernel
theorem dX3_comeToRest_25 : decode cX3_comeToRest 25 = .ok (.dup, 1) := by decide +kernel
theorem dX3_comeToRest_26 : decode cX3_comeToRest 26 = .ok (.getfield 83, 3) := by decide +kernel
theorem dX3_comeToRest_29 : decode cX3_comeToRest 29 = .ok (.iconst 1, 1) := by decide +kernel
theorem dX3_comeToRest_30 : decode cX3_comeToRest 30 = .ok (.iadd, 1) := by decide +kernel
theorem dX3_comeToRest_31 : decode cX3_comeToRest 31 = .ok (.putfield 83, 3) := by decide +kernel
theorem dX3_comeToRest_34 : decode cX3_comeToRest 34 = .ok (.return_, 1) := by decide +kernel
theorem dX3_comeToRest_35 : decode cX3_comeToRest 35 = .ok (.aload_n 0, 1) := by decide +kernel
theorem dX3_comeToRest_36 : decode cX3_comeToRest 36 = .ok (.aload_n 0, 1) := by decide +kernel
theorem dX3_comeToRest_37 : decode cX3_comeToRest 37 = .ok (.iload_n 1, 1) := by decide +kernel
theorem dX3_comeToRest_38 : decode cX3_comeToRest 38 = .ok (.iload_n 2, 1) := by decide +kernel
theorem dX3_comeToRest_39 : decode cX3_comeToRest 39 = .ok (.invokevirtual 114, 3) := by decide +kernel
theorem dX3_comeToRest_42 : decode cX3_comeToRest 42 = .ok (.invokevirtual 161, 3) := by decide +kernel
theorem dX3_comeToRest_45 : decode cX3_comeToRest 45 = .ok (.aload_n 0, 1) := by decide +kernel
theorem dX3_comeToRest_46 : decode cX3_comeToRest 46 = .ok (.dup, 1) := by decide +kernel
theorem dX3_comeToRest_47 : decode cX3_comeToRest 47 = .ok (.getfield 30, 3) := by decide +kernel
theorem dX3_comeToRest_50 : decode cX3_comeToRest 50 = .ok (.bipush 16, 2) := by decide +kernel
theorem dX3_comeToRest_52 : decode cX3_comeToRest 52 = .ok (.iload_n 1, 1) := by decide +kernel
theorem dX3_comeToRest_53 : decode cX3_comeToRest 53 = .ok (.imul, 1) := by decide +kernel
theorem dX3_comeToRest_54 : decode cX3_comeToRest 54 = .ok (.aload_n 0, 1) := by decide +kernel
theorem dX3_comeToRest_55 : decode cX3_comeToRest 55 = .ok (.getfield 30, 3) := by decide +kernel
theorem dX3_comeToRest_58 : decode cX3_comeToRest 58 = .ok (.isub, 1) := by decide +kernel
theorem dX3_comeToRest_59 : decode cX3_comeToRest 59 = .ok (.aload_n 0, 1) := by decide +kernel
theorem dX3_comeToRest_60 : decode cX3_comeToRest 60 = .ok (.getfield 18, 3) := by decide +kernel
theorem dX3_comeToRest_63 : decode cX3_comeToRest 63 = .ok (.iconst 0, 1) := by decide +kernel
theorem dX3_comeToRest_64 : decode cX3_comeToRest 64 = .ok (.iaload, 1) := by decide +kernel
theorem dX3_comeToRest_65 : decode cX3_comeToRest 65 = .ok (.invokestatic 129, 3) := by decide +kernel
theorem dX3_comeToRest_68 : decode cX3_comeToRest 68 = .ok (.iadd, 1) := by decide +kernel
theorem dX3_comeToRest_69 : decode cX3_comeToRest 69 = .ok (.putfield 30, 3) := by decide +kernel
theorem dX3_comeToRest_72 : decode cX3_comeToRest 72 = .ok (.aload_n 0, 1) := by decide +kernel
theorem dX3_comeToRest_73 : decode cX3_comeToRest 73 = .ok (.dup, 1) := by decide +kernel
theorem dX3_comeToRest_74 : decode cX3_comeToRest 74 = .ok (.getfield 34, 3) := by decide +kernel
theorem dX3_comeToRest_77 : decode cX3_comeToRest 77 = .ok (.bipush 16, 2) := by decide +kernel
theorem dX3_comeToRest_79 : decode cX3_comeToRest 79 = .ok (.iload_n 2, 1) := by decide +kernel
theorem dX3_comeToRest_80 : decode cX3_comeToRest 80 = .ok (.imul, 1) := by decide +kernel
theorem dX3_comeToRest_81 : decode cX3_comeToRest 81 = .ok (.aload_n 0, 1) := by decide +kernel
theorem dX3_comeToRest_82 : decode cX3_comeToRest 82 = .ok (.getfield 34, 3) := by decide +kernel
theorem dX3_comeToRest_85 : decode cX3_comeToRest 85 = .ok (.isub, 1) := by decide +kernel
theorem dX3_comeToRest_86 : decode cX3_comeToRest 86 = .ok (.aload_n 0, 1) := by decide +kernel
theorem dX3_comeToRest_87 : decode cX3_comeToRest 87 = .ok (.getfield 18, 3) := by decide +kernel
theorem dX3_comeToRest_90 : decode cX3_comeToRest 90 = .ok (.iconst 0, 1) := by decide +kernel
theorem dX3_comeToRest_91 : decode cX3_comeToRest 91 = .ok (.iaload, 1) := by decide +kernel
theorem dX3_comeToRest_92 : decode cX3_comeToRest 92 = .ok (.invokestatic 129, 3) := by decide +kernel
theorem dX3_comeToRest_95 : decode cX3_comeToRest 95 = .ok (.iadd, 1) := by decide +kernel
theorem dX3_comeToRest_96 : decode cX3_comeToRest 96 = .ok (.putfield 34, 3) := by decide +kernel
theorem dX3_comeToRest_99 : decode cX3_comeToRest 99 = .ok (.return_, 1) := by decide +kernel
theorem dX3_fitZone_0 : decode cX3_fitZone 0 = .ok (.iconst 2, 1) := by decide +kernel
theorem dX3_fitZone_1 : decode cX3_fitZone 1 = .ok (.iload_n 1, 1) := by decide +kernel
theorem dX3_fitZone_2 : decode cX3_fitZone 2 = .ok (.imul, 1) := by decide +kernel
theorem dX3_fitZone_3 : decode cX3_fitZone 3 = .ok (.aload_n 0, 1) := by decide +kernel
theorem dX3_fitZone_4 : decode cX3_fitZone 4 = .ok (.getfield 37, 3) := by decide +kernel
theorem dX3_fitZone_7 : decode cX3_fitZone 7 = .ok (.if_icmp .le 32, 3) := by decide +kernel
theorem dX3_fitZone_10 : decode cX3_fitZone 10 = .ok (.aload_n 0, 1) := by decide +kernel
theorem dX3_fitZone_11 : decode cX3_fitZone 11 = .ok (.aload_n 0, 1) := by decide +kernel
theorem dX3_fitZone_12 : decode cX3_fitZone 12 = .ok (.getfield 37, 3) := by decide +kernel
theorem dX3_fitZone_15 : decode cX3_fitZone 15 = .ok (.iconst 1, 1) := by decide +kernel
theorem dX3_fitZone_16 : decode cX3_fitZone 16 = .ok (.iadd, 1) := by decide +kernel
theorem dX3_fitZone_17 : decode cX3_fitZone 17 = .ok (.aload_n 0, 1) := by decide +kernel
theorem dX3_fitZone_18 : decode cX3_fitZone 18 = .ok (.getfield 18, 3) := by decide +kernel
theorem dX3_fitZone_21 : decode cX3_fitZone 21 = .ok (.iconst 1, 1) := by decide +kernel
theorem dX3_fitZone_22 : decode cX3_fitZone 22 = .ok (.iaload, 1) := by decide +kernel
theorem dX3_fitZone_23 : decode cX3_fitZone 23 = .ok (.aload_n 0, 1) := by decide +kernel
theorem dX3_fitZone_24 : decode cX3_fitZone 24 = .ok (.getfield 18, 3) := by decide +kernel
theorem dX3_fitZone_27 : decode cX3_fitZone 27 = .ok (.iconst 2, 1) := by decide +kernel
theorem dX3_fitZone_28 : decode cX3_fitZone 28 = .ok (.iaload, 1) := by decide +kernel
theorem dX3_fitZone_29 : decode cX3_fitZone 29 = .ok (.iadd, 1) := by decide +kernel
theorem dX3_fitZone_30 : decode cX3_fitZone 30 = .ok (.invokestatic 132, 3) := by decide +kernel
theorem dX3_fitZone_33 : decode cX3_fitZone 33 = .ok (.putfield 37, 3) := by decide +kernel
theorem dX3_fitZone_36 : decode cX3_fitZone 36 = .ok (.goto 32, 3) := by decide +kernel
theorem dX3_fitZone_39 : decode cX3_fitZone 39 = .ok (.iconst 4, 1) := by decide +kernel
theorem dX3_fitZone_40 : decode cX3_fitZone 40 = .ok (.iload_n 1, 1) := by decide +kernel
theorem dX3_fitZone_41 : decode cX3_fitZone 41 = .ok (.imul, 1) := by decide +kernel
theorem dX3_fitZone_42 : decode cX3_fitZone 42 = .ok (.aload_n 0, 1) := by decide +kernel
theorem dX3_fitZone_43 : decode cX3_fitZone 43 = .ok (.getfield 37, 3) := by decide +kernel
theorem dX3_fitZone_46 : decode cX3_fitZone 46 = .ok (.if_icmp .gt 22, 3) := by decide +kernel
theorem dX3_fitZone_49 : decode cX3_fitZone 49 = .ok (.aload_n 0, 1) := by decide +kernel
theorem dX3_fitZone_50 : decode cX3_fitZone 50 = .ok (.aload_n 0, 1) := by decide +kernel
theorem dX3_fitZone_51 : decode cX3_fitZone 51 = .ok (.getfield 37, 3) := by decide +kernel
theorem dX3_fitZone_54 : decode cX3_fitZone 54 = .ok (.iconst 1, 1) := by decide +kernel
theorem dX3_fitZone_55 : decode cX3_fitZone 55 = .ok (.isub, 1) := by decide +kernel
theorem dX3_fitZone_56 : decode cX3_fitZone 56 = .ok (.aload_n 0, 1) := by decide +kernel
theorem dX3_fitZone_57 : decode cX3_fitZone 57 = .ok (.getfield 18, 3) := by decide +kernel
theorem dX3_fitZone_60 : decode cX3_fitZone 60 = .ok (.iconst 1, 1) := by decide +kernel
theorem dX3_fitZone_61 : decode cX3_fitZone 61 = .ok (.iaload, 1) := by decide +kernel
theorem dX3_fitZone_62 : decode cX3_fitZone 62 = .ok (.invokestatic 110, 3) := by decide +kernel
theorem dX3_fitZone_65 : decode cX3_fitZone 65 = .ok (.putfield 37, 3) := by decide +kernel
theorem dX3_fitZone_68 : decode cX3_fitZone 68 = .ok (.return_, 1) := by decide +kernel
theorem dX3_driftTo_0 : decode cX3_driftTo 0 = .ok (.aload_n 0, 1) := by decide +kernel
theorem dX3_driftTo_1 : decode cX3_driftTo 1 = .ok (.bipush 16, 2) := by decide +kernel
theorem dX3_driftTo_3 : decode cX3_driftTo 3 = .ok (.iload_n 1, 1) := by decide +kernel
theorem dX3_driftTo_4 : decode cX3_driftTo 4 = .ok (.imul, 1) := by decide +kernel
theorem dX3_driftTo_5 : decode cX3_driftTo 5 = .ok (.putfield 30, 3) := by decide +kernel
theorem dX3_driftTo_8 : decode cX3_driftTo 8 = .ok (.aload_n 0, 1) := by decide +kernel
theorem dX3_driftTo_9 : decode cX3_driftTo 9 = .ok (.bipush 16, 2) := by decide +kernel
theorem dX3_driftTo_11 : decode cX3_driftTo 11 = .ok (.iload_n 2, 1) := by decide +kernel
theorem dX3_driftTo_12 : decode cX3_driftTo 12 = .ok (.imul, 1) := by decide +kernel
theorem dX3_driftTo_13 : decode cX3_driftTo 13 = .ok (.putfield 34, 3) := by decide +kernel
theorem dX3_driftTo_16 : decode cX3_driftTo 16 = .ok (.aload_n 0, 1) := by decide +kernel
theorem dX3_driftTo_17 : decode cX3_driftTo 17 = .ok (.iconst 0, 1) := by decide +kernel
theorem dX3_driftTo_18 : decode cX3_driftTo 18 = .ok (.putfield 62, 3) := by decide +kernel
theorem dX3_driftTo_21 : decode cX3_driftTo 21 = .ok (.aload_n 0, 1) := by decide +kernel
theorem dX3_driftTo_22 : decode cX3_driftTo 22 = .ok (.dup, 1) := by decide +kernel
theorem dX3_driftTo_23 : decode cX3_driftTo 23 = .ok (.getfield 74, 3) := by decide +kernel
theorem dX3_driftTo_26 : decode cX3_driftTo 26 = .ok (.iconst 1, 1) := by decide +kernel
theorem dX3_driftTo_27 : decode cX3_driftTo 27 = .ok (.iadd, 1) := by decide +kernel
theorem dX3_driftTo_28 : decode cX3_driftTo 28 = .ok (.putfield 74, 3) := by decide +kernel
theorem dX3_driftTo_31 : decode cX3_driftTo 31 = .ok (.return_, 1) := by decide +kernel
theorem dX3_aboutX_0 : decode cX3_aboutX 0 = .ok (.aload_n 0, 1) := by decide +kernel
theorem dX3_aboutX_1 : decode cX3_aboutX 1 = .ok (.iload_n 1, 1) := by decide +kernel
theorem dX3_aboutX_2 : decode cX3_aboutX 2 = .ok (.aload_n 0, 1) := by decide +kernel
theorem dX3_aboutX_3 : decode cX3_aboutX 3 = .ok (.getfield 30, 3) := by decide +kernel
theorem dX3_aboutX_6 : decode cX3_aboutX 6 = .ok (.aload_n 0, 1) := by decide +kernel
theorem dX3_aboutX_7 : decode cX3_aboutX 7 = .ok (.getfield 50, 3) := by decide +kernel
theorem dX3_aboutX_10 : decode cX3_aboutX 10 = .ok (.aload_n 0, 1) := by decide +kernel
theorem dX3_aboutX_11 : decode cX3_aboutX 11 = .ok (.getfield 56, 3) := by decide +kernel
theorem dX3_aboutX_14 : decode cX3_aboutX 14 = .ok (.invokevirtual 164, 3) := by decide +kernel
theorem dX3_aboutX_17 : decode cX3_aboutX 17 = .ok (.ireturn, 1) := by decide +kernel
theorem dX3_aboutY_0 : decode cX3_aboutY 0 = .ok (.aload_n 0, 1) := by decide +kernel
theorem dX3_aboutY_1 : decode cX3_aboutY 1 = .ok (.iload_n 1, 1) := by decide +kernel
theorem dX3_aboutY_2 : decode cX3_aboutY 2 = .ok (.aload_n 0, 1) := by decide +kernel
theorem dX3_aboutY_3 : decode cX3_aboutY 3 = .ok (.getfield 34, 3) := by decide +kernel
theorem dX3_aboutY_6 : decode cX3_aboutY 6 = .ok (.aload_n 0, 1) := by decide +kernel
theorem dX3_aboutY_7 : decode cX3_aboutY 7 = .ok (.getfield 53, 3) := by decide +kernel
theorem dX3_aboutY_10 : decode cX3_aboutY 10 = .ok (.aload_n 0, 1) := by decide +kernel
theorem dX3_aboutY_11 : decode cX3_aboutY 11 = .ok (.getfield 59, 3) := by decide +kernel
theorem dX3_aboutY_14 : decode cX3_aboutY 14 = .ok (.invokevirtual 164, 3) := by decide +kernel
theorem dX3_aboutY_17 : decode cX3_aboutY 17 = .ok (.ireturn, 1) := by decide +kernel
theorem dX3_about_0 : decode cX3_about 0 = .ok (.iload_n 1, 1) := by decide +kernel
theorem dX3_about_1 : decode cX3_about 1 = .ok (.tableswitch 77 0 3 #[31, 33, 38, 53], 31) := by decide +kernel
theorem dX3_about_32 : decode cX3_about 32 = .ok (.iload_n 2, 1) := by decide +kernel
theorem dX3_about_33 : decode cX3_about 33 = .ok (.ireturn, 1) := by decide +kernel
theorem dX3_about_34 : decode cX3_about 34 = .ok (.iload_n 3, 1) := by decide +kernel
theorem dX3_about_35 : decode cX3_about 35 = .ok (.bipush 100, 2) := by decide +kernel
theorem dX3_about_37 : decode cX3_about 37 = .ok (.iadd, 1) := by decide +kernel
theorem dX3_about_38 : decode cX3_about 38 = .ok (.ireturn, 1) := by decide +kernel
theorem dX3_about_39 : decode cX3_about 39 = .ok (.aload_n 0, 1) := by decide +kernel
theorem dX3_about_40 : decode cX3_about 40 = .ok (.getfield 68, 3) := by decide +kernel
theorem dX3_about_43 : decode cX3_about 43 = .ok (.ifCond .ne 8, 3) := by decide +kernel
theorem dX3_about_46 : decode cX3_about 46 = .ok (.bipush (-6), 2) := by decide +kernel
theorem dX3_about_48 : decode cX3_about 48 = .ok (.goto 5, 3) := by decide +kernel
theorem dX3_about_51 : decode cX3_about 51 = .ok (.iload 4, 2) := by decide +kernel
theorem dX3_about_53 : decode cX3_about 53 = .ok (.ireturn, 1) := by decide +kernel
theorem dX3_about_54 : decode cX3_about 54 = .ok (.aload_n 0, 1) := by decide +kernel
theorem dX3_about_55 : decode cX3_about 55 = .ok (.getfield 68, 3) := by decide +kernel
theorem dX3_about_58 : decode cX3_about 58 = .ok (.ifCond .ne 8, 3) := by decide +kernel
theorem dX3_about_61 : decode cX3_about 61 = .ok (.bipush (-6), 2) := by decide +kernel
theorem dX3_about_63 : decode cX3_about 63 = .ok (.goto 14, 3) := by decide +kernel
theorem dX3_about_66 : decode cX3_about 66 = .ok (.iload 4, 2) := by decide +kernel
theorem dX3_about_68 : decode cX3_about 68 = .ok (.iload_n 2, 1) := by decide +kernel
theorem dX3_about_69 : decode cX3_about 69 = .ok (.bipush 16, 2) := by decide +kernel
theorem dX3_about_71 : decode cX3_about 71 = .ok (.idiv, 1) := by decide +kernel
theorem dX3_about_72 : decode cX3_about 72 = .ok (.isub, 1) := by decide +kernel
theorem dX3_about_73 : decode cX3_about 73 = .ok (.sipush 1000, 3) := by decide +kernel
theorem dX3_about_76 : decode cX3_about 76 = .ok (.iadd, 1) := by decide +kernel
theorem dX3_about_77 : decode cX3_about 77 = .ok (.ireturn, 1) := by decide +kernel
theorem dX3_about_78 : decode cX3_about 78 = .ok (.bipush (-2), 2) := by decide +kernel
theorem dX3_about_80 : decode cX3_about 80 = .ok (.ireturn, 1) := by decide +kernel
theorem dX3_number_0 : decode cX3_number 0 = .ok (.iload_n 1, 1) := by decide +kernel
theorem dX3_number_1 : decode cX3_number 1 = .ok (.bipush 10, 2) := by decide +kernel
theorem dX3_number_3 : decode cX3_number 3 = .ok (.if_icmp .lt 22, 3) := by decide +kernel
theorem dX3_number_6 : decode cX3_number 6 = .ok (.iload_n 1, 1) := by decide +kernel
theorem dX3_number_7 : decode cX3_number 7 = .ok (.bipush 10, 2) := by decide +kernel
theorem dX3_number_9 : decode cX3_number 9 = .ok (.isub, 1) := by decide +kernel
theorem dX3_number_10 : decode cX3_number 10 = .ok (.bipush 7, 2) := by decide +kernel
theorem dX3_number_12 : decode cX3_number 12 = .ok (.if_icmp .ge 13, 3) := by decide +kernel
theorem dX3_number_15 : decode cX3_number 15 = .ok (.aload_n 0, 1) := by decide +kernel
theorem dX3_number_16 : decode cX3_number 16 = .ok (.getfield 18, 3) := by decide +kernel
theorem dX3_number_19 : decode cX3_number 19 = .ok (.iload_n 1, 1) := by decide +kernel
theorem dX3_number_20 : decode cX3_number 20 = .ok (.bipush 10, 2) := by decide +kernel
theorem dX3_number_22 : decode cX3_number 22 = .ok (.isub, 1) := by decide +kernel
theorem dX3_number_23 : decode cX3_number 23 = .ok (.iaload, 1) := by decide +kernel
theorem dX3_number_24 : decode cX3_number 24 = .ok (.ireturn, 1) := by decide +kernel
theorem dX3_number_25 : decode cX3_number 25 = .ok (.iload_n 1, 1) := by decide +kernel
theorem dX3_number_26 : decode cX3_number 26 = .ok (.tableswitch 107 0 9 #[54, 59, 64, 69, 74, 79, 84, 89, 94, 102], 54) := by decide +kernel
theorem dX3_number_80 : decode cX3_number 80 = .ok (.aload_n 0, 1) := by decide +kernel
theorem dX3_number_81 : decode cX3_number 81 = .ok (.getfield 68, 3) := by decide +kernel
theorem dX3_number_84 : decode cX3_number 84 = .ok (.ireturn, 1) := by decide +kernel
theorem dX3_number_85 : decode cX3_number 85 = .ok (.aload_n 0, 1) := by decide +kernel
theorem dX3_number_86 : decode cX3_number 86 = .ok (.getfield 37, 3) := by decide +kernel
theorem dX3_number_89 : decode cX3_number 89 = .ok (.ireturn, 1) := by decide +kernel
theorem dX3_number_90 : decode cX3_number 90 = .ok (.aload_n 0, 1) := by decide +kernel
theorem dX3_number_91 : decode cX3_number 91 = .ok (.getfield 62, 3) := by decide +kernel
theorem dX3_number_94 : decode cX3_number 94 = .ok (.ireturn, 1) := by decide +kernel
theorem dX3_number_95 : decode cX3_number 95 = .ok (.aload_n 0, 1) := by decide +kernel
theorem dX3_number_96 : decode cX3_number 96 = .ok (.getfield 65, 3) := by decide +kernel
theorem dX3_number_99 : decode cX3_number 99 = .ok (.ireturn, 1) := by decide +kernel
theorem dX3_number_100 : decode cX3_number 100 = .ok (.aload_n 0, 1) := by decide +kernel
theorem dX3_number_101 : decode cX3_number 101 = .ok (.getfield 71, 3) := by decide +kernel
theorem dX3_number_104 : decode cX3_number 104 = .ok (.ireturn, 1) := by decide +kernel
theorem dX3_number_105 : decode cX3_number 105 = .ok (.aload_n 0, 1) := by decide +kernel
theorem dX3_number_106 : decode cX3_number 106 = .ok (.getfield 74, 3) := by decide +kernel
theorem dX3_number_109 : decode cX3_number 109 = .ok (.ireturn, 1) := by decide +kernel
theorem dX3_number_110 : decode cX3_number 110 = .ok (.aload_n 0, 1) := by decide +kernel
theorem dX3_number_111 : decode cX3_number 111 = .ok (.getfield 77, 3) := by decide +kernel
theorem dX3_number_114 : decode cX3_number 114 = .ok (.ireturn, 1) := by decide +kernel
theorem dX3_number_115 : decode cX3_number 115 = .ok (.aload_n 0, 1) := by decide +kernel
theorem dX3_number_116 : decode cX3_number 116 = .ok (.getfield 80, 3) := by decide +kernel
theorem dX3_number_119 : decode cX3_number 119 = .ok (.ireturn, 1) := by decide +kernel
theorem dX3_number_120 : decode cX3_number 120 = .ok (.aload_n 0, 1) := by decide +kernel
theorem dX3_number_121 : decode cX3_number 121 = .ok (.getfield 26, 3) := by decide +kernel
theorem dX3_number_124 : decode cX3_number 124 = .ok (.getfield 168, 3) := by decide +kernel
theorem dX3_number_127 : decode cX3_number 127 = .ok (.ireturn, 1) := by decide +kernel
theorem dX3_number_128 : decode cX3_number 128 = .ok (.aload_n 0, 1) := by decide +kernel
theorem dX3_number_129 : decode cX3_number 129 = .ok (.getfield 83, 3) := by decide +kernel
theorem dX3_number_132 : decode cX3_number 132 = .ok (.ireturn, 1) := by decide +kernel
theorem dX3_number_133 : decode cX3_number 133 = .ok (.bipush (-2), 2) := by decide +kernel
theorem dX3_number_135 : decode cX3_number 135 = .ok (.ireturn, 1) := by decide +kernel
theorem dJ6_compare_7cf53_0 : decode cJ6_compare_7cf53 0 = .ok (.iload_n 0, 1) := by decide +kernel
theorem dJ6_compare_7cf53_1 : decode cJ6_compare_7cf53 1 = .ok (.iload_n 1, 1) := by decide +kernel
theorem dJ6_compare_7cf53_2 : decode cJ6_compare_7cf53 2 = .ok (.if_icmp .ge 7, 3) := by decide +kernel
theorem dJ6_compare_7cf53_5 : decode cJ6_compare_7cf53 5 = .ok (.iconst (-1), 1) := by decide +kernel
theorem dJ6_compare_7cf53_6 : decode cJ6_compare_7cf53 6 = .ok (.goto 13, 3) := by decide +kernel
theorem dJ6_compare_7cf53_9 : decode cJ6_compare_7cf53 9 = .ok (.iload_n 0, 1) := by decide +kernel
theorem dJ6_compare_7cf53_10 : decode cJ6_compare_7cf53 10 = .ok (.iload_n 1, 1) := by decide +kernel
theorem dJ6_compare_7cf53_11 : decode cJ6_compare_7cf53 11 = .ok (.if_icmp .ne 7, 3) := by decide +kernel
theorem dJ6_compare_7cf53_14 : decode cJ6_compare_7cf53 14 = .ok (.iconst 0, 1) := by decide +kernel
theorem dJ6_compare_7cf53_15 : decode cJ6_compare_7cf53 15 = .ok (.goto 4, 3) := by decide +kernel
theorem dJ6_compare_7cf53_18 : decode cJ6_compare_7cf53 18 = .ok (.iconst 1, 1) := by decide +kernel
theorem dJ6_compare_7cf53_19 : decode cJ6_compare_7cf53 19 = .ok (.ireturn, 1) := by decide +kernel
theorem dJ9_floorMod_7cf53_0 : decode cJ9_floorMod_7cf53 0 = .ok (.iload_n 0, 1) := by decide +kernel
theorem dJ9_floorMod_7cf53_1 : decode cJ9_floorMod_7cf53 1 = .ok (.iload_n 1, 1) := by decide +kernel
theorem dJ9_floorMod_7cf53_2 : decode cJ9_floorMod_7cf53 2 = .ok (.irem, 1) := by decide +kernel
theorem dJ9_floorMod_7cf53_3 : decode cJ9_floorMod_7cf53 3 = .ok (.istore_n 2, 1) := by decide +kernel
theorem dJ9_floorMod_7cf53_4 : decode cJ9_floorMod_7cf53 4 = .ok (.iload_n 0, 1) := by decide +kernel
theorem dJ9_floorMod_7cf53_5 : decode cJ9_floorMod_7cf53 5 = .ok (.iload_n 1, 1) := by decide +kernel
theorem dJ9_floorMod_7cf53_6 : decode cJ9_floorMod_7cf53 6 = .ok (.ixor, 1) := by decide +kernel
theorem dJ9_floorMod_7cf53_7 : decode cJ9_floorMod_7cf53 7 = .ok (.ifCond .ge 11, 3) := by decide +kernel
theorem dJ9_floorMod_7cf53_10 : decode cJ9_floorMod_7cf53 10 = .ok (.iload_n 2, 1) := by decide +kernel
theorem dJ9_floorMod_7cf53_11 : decode cJ9_floorMod_7cf53 11 = .ok (.ifCond .eq 7, 3) := by decide +kernel
theorem dJ9_floorMod_7cf53_14 : decode cJ9_floorMod_7cf53 14 = .ok (.iload_n 2, 1) := by decide +kernel
theorem dJ9_floorMod_7cf53_15 : decode cJ9_floorMod_7cf53 15 = .ok (.iload_n 1, 1) := by decide +kernel
theorem dJ9_floorMod_7cf53_16 : decode cJ9_floorMod_7cf53 16 = .ok (.iadd, 1) := by decide +kernel
theorem dJ9_floorMod_7cf53_17 : decode cJ9_floorMod_7cf53 17 = .ok (.ireturn, 1) := by decide +kernel
theorem dJ9_floorMod_7cf53_18 : decode cJ9_floorMod_7cf53 18 = .ok (.iload_n 2, 1) := by decide +kernel
theorem dJ9_floorMod_7cf53_19 : decode cJ9_floorMod_7cf53 19 = .ok (.ireturn, 1) := by decide +kernel
theorem dJ9_abs_0f7a4_0 : decode cJ9_abs_0f7a4 0 = .ok (.iload_n 0, 1) := by decide +kernel
theorem dJ9_abs_0f7a4_1 : decode cJ9_abs_0f7a4 1 = .ok (.ifCond .ge 8, 3) := by decide +kernel
theorem dJ9_abs_0f7a4_4 : decode cJ9_abs_0f7a4 4 = .ok (.iload_n 0, 1) := by decide +kernel
theorem dJ9_abs_0f7a4_5 : decode cJ9_abs_0f7a4 5 = .ok (.ineg, 1) := by decide +kernel
theorem dJ9_abs_0f7a4_6 : decode cJ9_abs_0f7a4 6 = .ok (.goto 4, 3) := by decide +kernel
theorem dJ9_abs_0f7a4_9 : decode cJ9_abs_0f7a4 9 = .ok (.iload_n 0, 1) := by decide +kernel
theorem dJ9_abs_0f7a4_10 : decode cJ9_abs_0f7a4 10 = .ok (.ireturn, 1) := by decide +kernel
theorem dJ9_max_7cf53_0 : decode cJ9_max_7cf53 0 = .ok (.iload_n 0, 1) := by decide +kernel
theorem dJ9_max_7cf53_1 : decode cJ9_max_7cf53 1 = .ok (.iload_n 1, 1) := by decide +kernel
theorem dJ9_max_7cf53_2 : decode cJ9_max_7cf53 2 = .ok (.if_icmp .lt 7, 3) := by decide +kernel
theorem dJ9_max_7cf53_5 : decode cJ9_max_7cf53 5 = .ok (.iload_n 0, 1) := by decide +kernel
theorem dJ9_max_7cf53_6 : decode cJ9_max_7cf53 6 = .ok (.goto 4, 3) := by decide +kernel
theorem dJ9_max_7cf53_9 : decode cJ9_max_7cf53 9 = .ok (.iload_n 1, 1) := by decide +kernel
theorem dJ9_max_7cf53_10 : decode cJ9_max_7cf53 10 = .ok (.ireturn, 1) := by decide +kernel
theorem dJ9_min_7cf53_0 : decode cJ9_min_7cf53 0 = .ok (.iload_n 0, 1) := by decide +kernel
theorem dJ9_min_7cf53_1 : decode cJ9_min_7cf53 1 = .ok (.iload_n 1, 1) := by decide +kernel
theorem dJ9_min_7cf53_2 : decode cJ9_min_7cf53 2 = .ok (.if_icmp .gt 7, 3) := by decide +kernel
theorem dJ9_min_7cf53_5 : decode cJ9_min_7cf53 5 = .ok (.iload_n 0, 1) := by decide +kernel
theorem dJ9_min_7cf53_6 : decode cJ9_min_7cf53 6 = .ok (.goto 4, 3) := by decide +kernel
theorem dJ9_min_7cf53_9 : decode cJ9_min_7cf53 9 = .ok (.iload_n 1, 1) := by decide +kernel
theorem dJ9_min_7cf53_10 : decode cJ9_min_7cf53 10 = .ok (.ireturn, 1) := by decide +kernel
end
section
theorem dX4_init_0 : decode cX4_init 0 = .ok (.aload_n 0, 1) := by decide +kernel
theorem dX4_init_1 : decode cX4_init 1 = .ok (.invokespecial 1, 3) := by decide +kernel
theorem dX4_init_4 : decode cX4_init 4 = .ok (.aload_n 0, 1) := by decide +kernel
theorem dX4_init_5 : decode cX4_init 5 = .ok (.new 7, 3) := by decide +kernel
theorem dX4_init_8 : decode cX4_init 8 = .ok (.dup, 1) := by decide +kernel
theorem dX4_init_9 : decode cX4_init 9 = .ok (.invokespecial 9, 3) := by decide +kernel
theorem dX4_init_12 : decode cX4_init 12 = .ok (.putfield 10, 3) := by decide +kernel
theorem dX4_init_15 : decode cX4_init 15 = .ok (.aload_n 0, 1) := by decide +kernel
theorem dX4_init_16 : decode cX4_init 16 = .ok (.new 7, 3) := by decide +kernel
theorem dX4_init_19 : decode cX4_init 19 = .ok (.dup, 1) := by decide +kernel
theorem dX4_init_20 : decode cX4_init 20 = .ok (.invokespecial 9, 3) := by decide +kernel
theorem dX4_init_23 : decode cX4_init 23 = .ok (.putfield 16, 3) := by decide +kernel
theorem dX4_init_26 : decode cX4_init 26 = .ok (.aload_n 0, 1) := by decide +kernel
theorem dX4_init_27 : decode cX4_init 27 = .ok (.new 19, 3) := by decide +kernel
theorem dX4_init_30 : decode cX4_init 30 = .ok (.dup, 1) := by decide +kernel
theorem dX4_init_31 : decode cX4_init 31 = .ok (.invokespecial 21, 3) := by decide +kernel
theorem dX4_init_34 : decode cX4_init 34 = .ok (.putfield 22, 3) := by decide +kernel
theorem dX4_init_37 : decode cX4_init 37 = .ok (.aload_n 0, 1) := by decide +kernel
theorem dX4_init_38 : decode cX4_init 38 = .ok (.new 26, 3) := by decide +kernel
theorem dX4_init_41 : decode cX4_init 41 = .ok (.dup, 1) := by decide +kernel
theorem dX4_init_42 : decode cX4_init 42 = .ok (.invokespecial 28, 3) := by decide +kernel
theorem dX4_init_45 : decode cX4_init 45 = .ok (.putfield 29, 3) := by decide +kernel
theorem dX4_init_48 : decode cX4_init 48 = .ok (.aload_n 0, 1) := by decide +kernel
theorem dX4_init_49 : decode cX4_init 49 = .ok (.iconst 2, 1) := by decide +kernel
theorem dX4_init_50 : decode cX4_init 50 = .ok (.anewarray 7, 3) := by decide +kernel
theorem dX4_init_53 : decode cX4_init 53 = .ok (.putfield 33, 3) := by decide +kernel
theorem dX4_init_56 : decode cX4_init 56 = .ok (.return_, 1) := by decide +kernel
theorem dX4_set_0 : decode cX4_set 0 = .ok (.iload_n 1, 1) := by decide +kernel
theorem dX4_set_1 : decode cX4_set 1 = .ok (.ifCond .lt 27, 3) := by decide +kernel
theorem dX4_set_4 : decode cX4_set 4 = .ok (.iload_n 1, 1) := by decide +kernel
theorem dX4_set_5 : decode cX4_set 5 = .ok (.bipush 7, 2) := by decide +kernel
theorem dX4_set_7 : decode cX4_set 7 = .ok (.if_icmp .ge 21, 3) := by decide +kernel
theorem dX4_set_10 : decode cX4_set 10 = .ok (.iload_n 2, 1) := by decide +kernel
theorem dX4_set_11 : decode cX4_set 11 = .ok (.getstatic 37, 3) := by decide +kernel
theorem dX4_set_14 : decode cX4_set 14 = .ok (.iload_n 1, 1) := by decide +kernel
theorem dX4_set_15 : decode cX4_set 15 = .ok (.iaload, 1) := by decide +kernel
theorem dX4_set_16 : decode cX4_set 16 = .ok (.if_icmp .lt 12, 3) := by decide +kernel
theorem dX4_set_19 : decode cX4_set 19 = .ok (.iload_n 2, 1) := by decide +kernel
theorem dX4_set_20 : decode cX4_set 20 = .ok (.getstatic 41, 3) := by decide +kernel
theorem dX4_set_23 : decode cX4_set 23 = .ok (.iload_n 1, 1) := by decide +kernel
theorem dX4_set_24 : decode cX4_set 24 = .ok (.iaload, 1) := by decide +kernel
theorem dX4_set_25 : decode cX4_set 25 = .ok (.if_icmp .le 6, 3) := by decide +kernel
theorem dX4_set_28 : decode cX4_set 28 = .ok (.bipush (-2), 2) := by decide +kernel
theorem dX4_set_30 : decode cX4_set 30 = .ok (.ireturn, 1) := by decide +kernel
theorem dX4_set_31 : decode cX4_set 31 = .ok (.aload_n 0, 1) := by decide +kernel
theorem dX4_set_32 : decode cX4_set 32 = .ok (.getfield 29, 3) := by decide +kernel
theorem dX4_set_35 : decode cX4_set 35 = .ok (.aload_n 0, 1) := by decide +kernel
theorem dX4_set_36 : decode cX4_set 36 = .ok (.getfield 10, 3) := by decide +kernel
theorem dX4_set_39 : decode cX4_set 39 = .ok (.invokevirtual 44, 3) := by decide +kernel
theorem dX4_set_42 : decode cX4_set 42 = .ok (.aload_n 0, 1) := by decide +kernel
theorem dX4_set_43 : decode cX4_set 43 = .ok (.getfield 10, 3) := by decide +kernel
theorem dX4_set_46 : decode cX4_set 46 = .ok (.iload_n 1, 1) := by decide +kernel
theorem dX4_set_47 : decode cX4_set 47 = .ok (.iload_n 2, 1) := by decide +kernel
theorem dX4_set_48 : decode cX4_set 48 = .ok (.invokevirtual 48, 3) := by decide +kernel
theorem dX4_set_51 : decode cX4_set 51 = .ok (.ireturn, 1) := by decide +kernel
theorem dX4_sample_0 : decode cX4_sample 0 = .ok (.aload_n 0, 1) := by decide +kernel
theorem dX4_sample_1 : decode cX4_sample 1 = .ok (.iload_n 1, 1) := by decide +kernel
theorem dX4_sample_2 : decode cX4_sample 2 = .ok (.iload_n 2, 1) := by decide +kernel
theorem dX4_sample_3 : decode cX4_sample 3 = .ok (.iconst 1, 1) := by decide +kernel
theorem dX4_sample_4 : decode cX4_sample 4 = .ok (.invokevirtual 52, 3) := by decide +kernel
theorem dX4_sample_7 : decode cX4_sample 7 = .ok (.ireturn, 1) := by decide +kernel
theorem dX4_hold_0 : decode cX4_hold 0 = .ok (.iload_n 3, 1) := by decide +kernel
theorem dX4_hold_1 : decode cX4_hold 1 = .ok (.iconst 1, 1) := by decide +kernel
theorem dX4_hold_2 : decode cX4_hold 2 = .ok (.if_icmp .lt 10, 3) := by decide +kernel
theorem dX4_hold_5 : decode cX4_hold 5 = .ok (.iload_n 3, 1) := by decide +kernel
theorem dX4_hold_6 : decode cX4_hold 6 = .ok (.sipush 200, 3) := by decide +kernel
theorem dX4_hold_9 : decode cX4_hold 9 = .ok (.if_icmp .le 6, 3) := by decide +kernel
theorem dX4_hold_12 : decode cX4_hold 12 = .ok (.bipush (-2), 2) := by decide +kernel
theorem dX4_hold_14 : decode cX4_hold 14 = .ok (.ireturn, 1) := by decide +kernel
theorem dX4_hold_15 : decode cX4_hold 15 = .ok (.aload_n 0, 1) := by decide +kernel
theorem dX4_hold_16 : decode cX4_hold 16 = .ok (.iload_n 1, 1) := by decide +kernel
theorem dX4_hold_17 : decode cX4_hold 17 = .ok (.iload_n 2, 1) := by decide +kernel
theorem dX4_hold_18 : decode cX4_hold 18 = .ok (.iload_n 3, 1) := by decide +kernel
theorem dX4_hold_19 : decode cX4_hold 19 = .ok (.invokevirtual 52, 3) := by decide +kernel
theorem dX4_hold_22 : decode cX4_hold 22 = .ok (.ireturn, 1) := by decide +kernel
theorem dX4_takeAlike_0 : decode cX4_takeAlike 0 = .ok (.aload_n 0, 1) := by decide +kernel
theorem dX4_takeAlike_1 : decode cX4_takeAlike 1 = .ok (.getfield 10, 3) := by decide +kernel
theorem dX4_takeAlike_4 : decode cX4_takeAlike 4 = .ok (.iload_n 1, 1) := by decide +kernel
theorem dX4_takeAlike_5 : decode cX4_takeAlike 5 = .ok (.iload_n 2, 1) := by decide +kernel
theorem dX4_takeAlike_6 : decode cX4_takeAlike 6 = .ok (.iload_n 3, 1) := by decide +kernel
theorem dX4_takeAlike_7 : decode cX4_takeAlike 7 = .ok (.invokevirtual 56, 3) := by decide +kernel
theorem dX4_takeAlike_10 : decode cX4_takeAlike 10 = .ok (.istore 4, 2) := by decide +kernel
theorem dX4_takeAlike_12 : decode cX4_takeAlike 12 = .ok (.iload 4, 2) := by decide +kernel
theorem dX4_takeAlike_14 : decode cX4_takeAlike 14 = .ok (.ifCond .eq 6, 3) := by decide +kernel
theorem dX4_takeAlike_17 : decode cX4_takeAlike 17 = .ok (.iload 4, 2) := by decide +kernel
theorem dX4_takeAlike_19 : decode cX4_takeAlike 19 = .ok (.ireturn, 1) := by decide +kernel
theorem dX4_takeAlike_20 : decode cX4_takeAlike 20 = .ok (.aload_n 0, 1) := by decide +kernel
theorem dX4_takeAlike_21 : decode cX4_takeAlike 21 = .ok (.getfield 29, 3) := by decide +kernel
theorem dX4_takeAlike_24 : decode cX4_takeAlike 24 = .ok (.aload_n 0, 1) := by decide +kernel
theorem dX4_takeAlike_25 : decode cX4_takeAlike 25 = .ok (.getfield 10, 3) := by decide +kernel
theorem dX4_takeAlike_28 : decode cX4_takeAlike 28 = .ok (.invokevirtual 44, 3) := by decide +kernel
theorem dX4_takeAlike_31 : decode cX4_takeAlike 31 = .ok (.iconst 0, 1) := by decide +kernel
theorem dX4_takeAlike_32 : decode cX4_takeAlike 32 = .ok (.istore 5, 2) := by decide +kernel
theorem dX4_takeAlike_34 : decode cX4_takeAlike 34 = .ok (.iload 5, 2) := by decide +kernel
theorem dX4_takeAlike_36 : decode cX4_takeAlike 36 = .ok (.iload_n 3, 1) := by decide +kernel
theorem dX4_takeAlike_37 : decode cX4_takeAlike 37 = .ok (.if_icmp .ge 18, 3) := by decide +kernel
theorem dX4_takeAlike_40 : decode cX4_takeAlike 40 = .ok (.aload_n 0, 1) := by decide +kernel
theorem dX4_takeAlike_41 : decode cX4_takeAlike 41 = .ok (.getfield 10, 3) := by decide +kernel
theorem dX4_takeAlike_44 : decode cX4_takeAlike 44 = .ok (.iload_n 1, 1) := by decide +kernel
theorem dX4_takeAlike_45 : decode cX4_takeAlike 45 = .ok (.iload_n 2, 1) := by decide +kernel
theorem dX4_takeAlike_46 : decode cX4_takeAlike 46 = .ok (.invokevirtual 59, 3) := by decide +kernel
theorem dX4_takeAlike_49 : decode cX4_takeAlike 49 = .ok (.iinc 5 1, 3) := by decide +kernel
theorem dX4_takeAlike_52 : decode cX4_takeAlike 52 = .ok (.goto (-18), 3) := by decide +kernel
theorem dX4_takeAlike_55 : decode cX4_takeAlike 55 = .ok (.aload_n 0, 1) := by decide +kernel
theorem dX4_takeAlike_56 : decode cX4_takeAlike 56 = .ok (.getfield 10, 3) := by decide +kernel
theorem dX4_takeAlike_59 : decode cX4_takeAlike 59 = .ok (.invokevirtual 63, 3) := by decide +kernel
theorem dX4_takeAlike_62 : decode cX4_takeAlike 62 = .ok (.ireturn, 1) := by decide +kernel
theorem dX4_press_0 : decode cX4_press 0 = .ok (.aload_n 0, 1) := by decide +kernel
theorem dX4_press_1 : decode cX4_press 1 = .ok (.getfield 10, 3) := by decide +kernel
theorem dX4_press_4 : decode cX4_press 4 = .ok (.iload_n 1, 1) := by decide +kernel
theorem dX4_press_5 : decode cX4_press 5 = .ok (.invokevirtual 67, 3) := by decide +kernel
theorem dX4_press_8 : decode cX4_press 8 = .ok (.istore_n 2, 1) := by decide +kernel
theorem dX4_press_9 : decode cX4_press 9 = .ok (.iload_n 2, 1) := by decide +kernel
theorem dX4_press_10 : decode cX4_press 10 = .ok (.ifCond .eq 5, 3) := by decide +kernel
theorem dX4_press_13 : decode cX4_press 13 = .ok (.iload_n 2, 1) := by decide +kernel
theorem dX4_press_14 : decode cX4_press 14 = .ok (.ireturn, 1) := by decide +kernel
theorem dX4_press_15 : decode cX4_press 15 = .ok (.aload_n 0, 1) := by decide +kernel
theorem dX4_press_16 : decode cX4_press 16 = .ok (.getfield 29, 3) := by decide +kernel
theorem dX4_press_19 : decode cX4_press 19 = .ok (.aload_n 0, 1) := by decide +kernel
theorem dX4_press_20 : decode cX4_press 20 = .ok (.getfield 10, 3) := by decide +kernel
theorem dX4_press_23 : decode cX4_press 23 = .ok (.invokevirtual 44, 3) := by decide +kernel
theorem dX4_press_26 : decode cX4_press 26 = .ok (.aload_n 0, 1) := by decide +kernel
theorem dX4_press_27 : decode cX4_press 27 = .ok (.getfield 10, 3) := by decide +kernel
theorem dX4_press_30 : decode cX4_press 30 = .ok (.iload_n 1, 1) := by decide +kernel
theorem dX4_press_31 : decode cX4_press 31 = .ok (.invokevirtual 71, 3) := by decide +kernel
theorem dX4_press_34 : decode cX4_press 34 = .ok (.ireturn, 1) := by decide +kernel
theorem dX4_letUp_0 : decode cX4_letUp 0 = .ok (.aload_n 0, 1) := by decide +kernel
theorem dX4_letUp_1 : decode cX4_letUp 1 = .ok (.getfield 10, 3) := by decide +kernel
theorem dX4_letUp_4 : decode cX4_letUp 4 = .ok (.iload_n 1, 1) := by decide +kernel
theorem dX4_letUp_5 : decode cX4_letUp 5 = .ok (.invokevirtual 74, 3) := by decide +kernel
theorem dX4_letUp_8 : decode cX4_letUp 8 = .ok (.istore_n 2, 1) := by decide +kernel
theorem dX4_letUp_9 : decode cX4_letUp 9 = .ok (.iload_n 2, 1) := by decide +kernel
theorem dX4_letUp_10 : decode cX4_letUp 10 = .ok (.ifCond .eq 5, 3) := by decide +kernel
theorem dX4_letUp_13 : decode cX4_letUp 13 = .ok (.iload_n 2, 1) := by decide +kernel
theorem dX4_letUp_14 : decode cX4_letUp 14 = .ok (.ireturn, 1) := by decide +kernel
theorem dX4_letUp_15 : decode cX4_letUp 15 = .ok (.aload_n 0, 1) := by decide +kernel
theorem dX4_letUp_16 : decode cX4_letUp 16 = .ok (.getfield 29, 3) := by decide +kernel
theorem dX4_letUp_19 : decode cX4_letUp 19 = .ok (.aload_n 0, 1) := by decide +kernel
theorem dX4_letUp_20 : decode cX4_letUp 20 = .ok (.getfield 10, 3) := by decide +kernel
theorem dX4_letUp_23 : decode cX4_letUp 23 = .ok (.invokevirtual 44, 3) := by decide +kernel
theorem dX4_letUp_26 : decode cX4_letUp 26 = .ok (.aload_n 0, 1) := by decide +kernel
theorem dX4_letUp_27 : decode cX4_letUp 27 = .ok (.getfield 10, 3) := by decide +kernel
theorem dX4_letUp_30 : decode cX4_letUp 30 = .ok (.iload_n 1, 1) := by decide +kernel
theorem dX4_letUp_31 : decode cX4_letUp 31 = .ok (.invokevirtual 77, 3) := by decide +kernel
theorem dX4_letUp_34 : decode cX4_letUp 34 = .ok (.ireturn, 1) := by decide +kernel
theorem dX4_reset_0 : decode cX4_reset 0 = .ok (.aload_n 0, 1) := by decide +kernel
theorem dX4_reset_1 : decode cX4_reset 1 = .ok (.getfield 29, 3) := by decide +kernel
theorem dX4_reset_4 : decode cX4_reset 4 = .ok (.aload_n 0, 1) := by decide +kernel
theorem dX4_reset_5 : decode cX4_reset 5 = .ok (.getfield 10, 3) := by decide +kernel
theorem dX4_reset_8 : decode cX4_reset 8 = .ok (.invokevirtual 44, 3) := by decide +kernel
theorem dX4_reset_11 : decode cX4_reset 11 = .ok (.aload_n 0, 1) := by decide +kernel
theorem dX4_reset_12 : decode cX4_reset 12 = .ok (.getfield 10, 3) := by decide +kernel
theorem dX4_reset_15 : decode cX4_reset 15 = .ok (.invokevirtual 80, 3) := by decide +kernel
theorem dX4_reset_18 : decode cX4_reset 18 = .ok (.ireturn, 1) := by decide +kernel
theorem dX4_of_0 : decode cX4_of 0 = .ok (.iload_n 1, 1) := by decide +kernel
theorem dX4_of_1 : decode cX4_of 1 = .ok (.ifCond .eq 10, 3) := by decide +kernel
theorem dX4_of_4 : decode cX4_of 4 = .ok (.iload_n 1, 1) := by decide +kernel
theorem dX4_of_5 : decode cX4_of 5 = .ok (.iconst 1, 1) := by decide +kernel
theorem dX4_of_6 : decode cX4_of 6 = .ok (.if_icmp .eq 5, 3) := by decide +kernel
theorem dX4_of_9 : decode cX4_of 9 = .ok (.iconst (-1), 1) := by decide +kernel
theorem dX4_of_10 : decode cX4_of 10 = .ok (.ireturn, 1) := by decide +kernel
theorem dX4_of_11 : decode cX4_of 11 = .ok (.iload_n 1, 1) := by decide +kernel
theorem dX4_of_12 : decode cX4_of 12 = .ok (.ifCond .ne 14, 3) := by decide +kernel
theorem dX4_of_15 : decode cX4_of 15 = .ok (.aload_n 0, 1) := by decide +kernel
theorem dX4_of_16 : decode cX4_of 16 = .ok (.getfield 10, 3) := by decide +kernel
theorem dX4_of_19 : decode cX4_of 19 = .ok (.iload_n 2, 1) := by decide +kernel
theorem dX4_of_20 : decode cX4_of 20 = .ok (.invokevirtual 83, 3) := by decide +kernel
theorem dX4_of_23 : decode cX4_of 23 = .ok (.goto 11, 3) := by decide +kernel
theorem dX4_of_26 : decode cX4_of 26 = .ok (.aload_n 0, 1) := by decide +kernel
theorem dX4_of_27 : decode cX4_of 27 = .ok (.getfield 10, 3) := by decide +kernel
theorem dX4_of_30 : decode cX4_of 30 = .ok (.iload_n 2, 1) := by decide +kernel
theorem dX4_of_31 : decode cX4_of 31 = .ok (.invokevirtual 86, 3) := by decide +kernel
theorem dX4_of_34 : decode cX4_of 34 = .ok (.ireturn, 1) := by decide +kernel
theorem dX4_direction_0 : decode cX4_direction 0 = .ok (.aload_n 0, 1) := by decide +kernel
theorem dX4_direction_1 : decode cX4_direction 1 = .ok (.getfield 10, 3) := by decide +kernel
theorem dX4_direction_4 : decode cX4_direction 4 = .ok (.getfield 89, 3) := by decide +kernel
theorem dX4_direction_7 : decode cX4_direction 7 = .ok (.iload_n 1, 1) := by decide +kernel
theorem dX4_direction_8 : decode cX4_direction 8 = .ok (.iload_n 2, 1) := by decide +kernel
theorem dX4_direction_9 : decode cX4_direction 9 = .ok (.invokevirtual 93, 3) := by decide +kernel
theorem dX4_direction_12 : decode cX4_direction 12 = .ok (.ireturn, 1) := by decide +kernel
theorem dX4_count_0 : decode cX4_count 0 = .ok (.iload_n 1, 1) := by decide +kernel
theorem dX4_count_1 : decode cX4_count 1 = .ok (.lookupswitch 43 #[(17, 27), (18, 35)], 27) := by decide +kernel
theorem dX4_count_28 : decode cX4_count 28 = .ok (.aload_n 0, 1) := by decide +kernel
theorem dX4_count_29 : decode cX4_count 29 = .ok (.getfield 22, 3) := by decide +kernel
theorem dX4_count_32 : decode cX4_count 32 = .ok (.getfield 98, 3) := by decide +kernel
theorem dX4_count_35 : decode cX4_count 35 = .ok (.ireturn, 1) := by decide +kernel
theorem dX4_count_36 : decode cX4_count 36 = .ok (.aload_n 0, 1) := by decide +kernel
theorem dX4_count_37 : decode cX4_count 37 = .ok (.getfield 29, 3) := by decide +kernel
theorem dX4_count_40 : decode cX4_count 40 = .ok (.getfield 102, 3) := by decide +kernel
theorem dX4_count_43 : decode cX4_count 43 = .ok (.ireturn, 1) := by decide +kernel
theorem dX4_count_44 : decode cX4_count 44 = .ok (.aload_n 0, 1) := by decide +kernel
theorem dX4_count_45 : decode cX4_count 45 = .ok (.getfield 10, 3) := by decide +kernel
theorem dX4_count_48 : decode cX4_count 48 = .ok (.iload_n 1, 1) := by decide +kernel
theorem dX4_count_49 : decode cX4_count 49 = .ok (.invokevirtual 105, 3) := by decide +kernel
theorem dX4_count_52 : decode cX4_count 52 = .ok (.ireturn, 1) := by decide +kernel
theorem dX4_wouldTell_0 : decode cX4_wouldTell 0 = .ok (.iload_n 1, 1) := by decide +kernel
theorem dX4_wouldTell_1 : decode cX4_wouldTell 1 = .ok (.iload_n 2, 1) := by decide +kernel
theorem dX4_wouldTell_2 : decode cX4_wouldTell 2 = .ok (.invokestatic 108, 3) := by decide +kernel
theorem dX4_wouldTell_5 : decode cX4_wouldTell 5 = .ok (.ifCond .eq 15, 3) := by decide +kernel
theorem dX4_wouldTell_8 : decode cX4_wouldTell 8 = .ok (.aload_n 0, 1) := by decide +kernel
theorem dX4_wouldTell_9 : decode cX4_wouldTell 9 = .ok (.getfield 10, 3) := by decide +kernel
theorem dX4_wouldTell_12 : decode cX4_wouldTell 12 = .ok (.iload_n 1, 1) := by decide +kernel
theorem dX4_wouldTell_13 : decode cX4_wouldTell 13 = .ok (.iload_n 2, 1) := by decide +kernel
theorem dX4_wouldTell_14 : decode cX4_wouldTell 14 = .ok (.invokevirtual 112, 3) := by decide +kernel
theorem dX4_wouldTell_17 : decode cX4_wouldTell 17 = .ok (.goto 5, 3) := by decide +kernel
theorem dX4_wouldTell_20 : decode cX4_wouldTell 20 = .ok (.bipush (-2), 2) := by decide +kernel
theorem dX4_wouldTell_22 : decode cX4_wouldTell 22 = .ok (.ireturn, 1) := by decide +kernel
theorem dX4_learnedIn_0 : decode cX4_learnedIn 0 = .ok (.iload_n 1, 1) := by decide +kernel
theorem dX4_learnedIn_1 : decode cX4_learnedIn 1 = .ok (.iload_n 2, 1) := by decide +kernel
theorem dX4_learnedIn_2 : decode cX4_learnedIn 2 = .ok (.invokestatic 108, 3) := by decide +kernel
theorem dX4_learnedIn_5 : decode cX4_learnedIn 5 = .ok (.ifCond .ne 6, 3) := by decide +kernel
theorem dX4_learnedIn_8 : decode cX4_learnedIn 8 = .ok (.bipush (-2), 2) := by decide +kernel
theorem dX4_learnedIn_10 : decode cX4_learnedIn 10 = .ok (.ireturn, 1) := by decide +kernel
theorem dX4_learnedIn_11 : decode cX4_learnedIn 11 = .ok (.aload_n 0, 1) := by decide +kernel
theorem dX4_learnedIn_12 : decode cX4_learnedIn 12 = .ok (.getfield 16, 3) := by decide +kernel
theorem dX4_learnedIn_15 : decode cX4_learnedIn 15 = .ok (.aload_n 0, 1) := by decide +kernel
theorem dX4_learnedIn_16 : decode cX4_learnedIn 16 = .ok (.getfield 10, 3) := by decide +kernel
theorem dX4_learnedIn_19 : decode cX4_learnedIn 19 = .ok (.invokevirtual 115, 3) := by decide +kernel
theorem dX4_learnedIn_22 : decode cX4_learnedIn 22 = .ok (.iconst 0, 1) := by decide +kernel
theorem dX4_learnedIn_23 : decode cX4_learnedIn 23 = .ok (.istore_n 3, 1) := by decide +kernel
theorem dX4_learnedIn_24 : decode cX4_learnedIn 24 = .ok (.iload_n 3, 1) := by decide +kernel
theorem dX4_learnedIn_25 : decode cX4_learnedIn 25 = .ok (.sipush 500, 3) := by decide +kernel
theorem dX4_learnedIn_28 : decode cX4_learnedIn 28 = .ok (.if_icmp .gt 32, 3) := by decide +kernel
theorem dX4_learnedIn_31 : decode cX4_learnedIn 31 = .ok (.aload_n 0, 1) := by decide +kernel
theorem dX4_learnedIn_32 : decode cX4_learnedIn 32 = .ok (.getfield 16, 3) := by decide +kernel
theorem dX4_learnedIn_35 : decode cX4_learnedIn 35 = .ok (.iload_n 1, 1) := by decide +kernel
theorem dX4_learnedIn_36 : decode cX4_learnedIn 36 = .ok (.iload_n 2, 1) := by decide +kernel
theorem dX4_learnedIn_37 : decode cX4_learnedIn 37 = .ok (.invokevirtual 118, 3) := by decide +kernel
theorem dX4_learnedIn_40 : decode cX4_learnedIn 40 = .ok (.ifCond .eq 5, 3) := by decide +kernel
theorem dX4_learnedIn_43 : decode cX4_learnedIn 43 = .ok (.iload_n 3, 1) := by decide +kernel
theorem dX4_learnedIn_44 : decode cX4_learnedIn 44 = .ok (.ireturn, 1) := by decide +kernel
theorem dX4_learnedIn_45 : decode cX4_learnedIn 45 = .ok (.aload_n 0, 1) := by decide +kernel
theorem dX4_learnedIn_46 : decode cX4_learnedIn 46 = .ok (.getfield 16, 3) := by decide +kernel
theorem dX4_learnedIn_49 : decode cX4_learnedIn 49 = .ok (.iload_n 1, 1) := by decide +kernel
theorem dX4_learnedIn_50 : decode cX4_learnedIn 50 = .ok (.iload_n 2, 1) := by decide +kernel
theorem dX4_learnedIn_51 : decode cX4_learnedIn 51 = .ok (.invokevirtual 59, 3) := by decide +kernel
theorem dX4_learnedIn_54 : decode cX4_learnedIn 54 = .ok (.iinc 3 1, 3) := by decide +kernel
theorem dX4_learnedIn_57 : decode cX4_learnedIn 57 = .ok (.goto (-33), 3) := by decide +kernel
theorem dX4_learnedIn_60 : decode cX4_learnedIn 60 = .ok (.bipush (-6), 2) := by decide +kernel
theorem dX4_learnedIn_62 : decode cX4_learnedIn 62 = .ok (.ireturn, 1) := by decide +kernel
theorem dX4_edge_0 : decode cX4_edge 0 = .ok (.iload_n 1, 1) := by decide +kernel
theorem dX4_edge_1 : decode cX4_edge 1 = .ok (.ifCond .eq 10, 3) := by decide +kernel
theorem dX4_edge_4 : decode cX4_edge 4 = .ok (.iload_n 1, 1) := by decide +kernel
theorem dX4_edge_5 : decode cX4_edge 5 = .ok (.iconst 1, 1) := by decide +kernel
theorem dX4_edge_6 : decode cX4_edge 6 = .ok (.if_icmp .eq 5, 3) := by decide +kernel
theorem dX4_edge_9 : decode cX4_edge 9 = .ok (.iconst (-1), 1) := by decide +kernel
theorem dX4_edge_10 : decode cX4_edge 10 = .ok (.ireturn, 1) := by decide +kernel
theorem dX4_edge_11 : decode cX4_edge 11 = .ok (.iload_n 2, 1) := by decide +kernel
theorem dX4_edge_12 : decode cX4_edge 12 = .ok (.ifCond .eq 11, 3) := by decide +kernel
theorem dX4_edge_15 : decode cX4_edge 15 = .ok (.iload_n 2, 1) := by decide +kernel
theorem dX4_edge_16 : decode cX4_edge 16 = .ok (.iconst 1, 1) := by decide +kernel
theorem dX4_edge_17 : decode cX4_edge 17 = .ok (.if_icmp .eq 6, 3) := by decide +kernel
theorem dX4_edge_20 : decode cX4_edge 20 = .ok (.bipush (-2), 2) := by decide +kernel
theorem dX4_edge_22 : decode cX4_edge 22 = .ok (.ireturn, 1) := by decide +kernel
theorem dX4_edge_23 : decode cX4_edge 23 = .ok (.iload_n 2, 1) := by decide +kernel
theorem dX4_edge_24 : decode cX4_edge 24 = .ok (.iconst 1, 1) := by decide +kernel
theorem dX4_edge_25 : decode cX4_edge 25 = .ok (.if_icmp .ne 7, 3) := by decide +kernel
theorem dX4_edge_28 : decode cX4_edge 28 = .ok (.iconst 1, 1) := by decide +kernel
theorem dX4_edge_29 : decode cX4_edge 29 = .ok (.goto 4, 3) := by decide +kernel
theorem dX4_edge_32 : decode cX4_edge 32 = .ok (.iconst (-1), 1) := by decide +kernel
theorem dX4_edge_33 : decode cX4_edge 33 = .ok (.istore_n 3, 1) := by decide +kernel
theorem dX4_edge_34 : decode cX4_edge 34 = .ok (.iconst 1, 1) := by decide +kernel
theorem dX4_edge_35 : decode cX4_edge 35 = .ok (.istore 4, 2) := by decide +kernel
theorem dX4_edge_37 : decode cX4_edge 37 = .ok (.iload 4, 2) := by decide +kernel
theorem dX4_edge_39 : decode cX4_edge 39 = .ok (.sipush 255, 3) := by decide +kernel
theorem dX4_edge_42 : decode cX4_edge 42 = .ok (.if_icmp .gt 86, 3) := by decide +kernel
theorem dX4_edge_45 : decode cX4_edge 45 = .ok (.aload_n 0, 1) := by decide +kernel
theorem dX4_edge_46 : decode cX4_edge 46 = .ok (.getfield 10, 3) := by decide +kernel
theorem dX4_edge_49 : decode cX4_edge 49 = .ok (.invokevirtual 121, 3) := by decide +kernel
theorem dX4_edge_52 : decode cX4_edge 52 = .ok (.iload_n 1, 1) := by decide +kernel
theorem dX4_edge_53 : decode cX4_edge 53 = .ok (.ifCond .ne 10, 3) := by decide +kernel
theorem dX4_edge_56 : decode cX4_edge 56 = .ok (.iload_n 3, 1) := by decide +kernel
theorem dX4_edge_57 : decode cX4_edge 57 = .ok (.iload 4, 2) := by decide +kernel
theorem dX4_edge_59 : decode cX4_edge 59 = .ok (.imul, 1) := by decide +kernel
theorem dX4_edge_60 : decode cX4_edge 60 = .ok (.goto 4, 3) := by decide +kernel
theorem dX4_edge_63 : decode cX4_edge 63 = .ok (.iconst 0, 1) := by decide +kernel
theorem dX4_edge_64 : decode cX4_edge 64 = .ok (.iadd, 1) := by decide +kernel
theorem dX4_edge_65 : decode cX4_edge 65 = .ok (.istore 5, 2) := by decide +kernel
theorem dX4_edge_67 : decode cX4_edge 67 = .ok (.aload_n 0, 1) := by decide +kernel
theorem dX4_edge_68 : decode cX4_edge 68 = .ok (.getfield 10, 3) := by decide +kernel
theorem dX4_edge_71 : decode cX4_edge 71 = .ok (.invokevirtual 124, 3) := by decide +kernel
theorem dX4_edge_74 : decode cX4_edge 74 = .ok (.iload_n 1, 1) := by decide +kernel
theorem dX4_edge_75 : decode cX4_edge 75 = .ok (.iconst 1, 1) := by decide +kernel
theorem dX4_edge_76 : decode cX4_edge 76 = .ok (.if_icmp .ne 10, 3) := by decide +kernel
theorem dX4_edge_79 : decode cX4_edge 79 = .ok (.iload_n 3, 1) := by decide +kernel
theorem dX4_edge_80 : decode cX4_edge 80 = .ok (.iload 4, 2) := by decide +kernel
theorem dX4_edge_82 : decode cX4_edge 82 = .ok (.imul, 1) := by decide +kernel
theorem dX4_edge_83 : decode cX4_edge 83 = .ok (.goto 4, 3) := by decide +kernel
theorem dX4_edge_86 : decode cX4_edge 86 = .ok (.iconst 0, 1) := by decide +kernel
theorem dX4_edge_87 : decode cX4_edge 87 = .ok (.iadd, 1) := by decide +kernel
theorem dX4_edge_88 : decode cX4_edge 88 = .ok (.istore 6, 2) := by decide +kernel
theorem dX4_edge_90 : decode cX4_edge 90 = .ok (.iload 5, 2) := by decide +kernel
theorem dX4_edge_92 : decode cX4_edge 92 = .ok (.iload 6, 2) := by decide +kernel
theorem dX4_edge_94 : decode cX4_edge 94 = .ok (.invokestatic 108, 3) := by decide +kernel
theorem dX4_edge_97 : decode cX4_edge 97 = .ok (.ifCond .eq 25, 3) := by decide +kernel
theorem dX4_edge_100 : decode cX4_edge 100 = .ok (.aload_n 0, 1) := by decide +kernel
theorem dX4_edge_101 : decode cX4_edge 101 = .ok (.getfield 10, 3) := by decide +kernel
theorem dX4_edge_104 : decode cX4_edge 104 = .ok (.iload 5, 2) := by decide +kernel
theorem dX4_edge_106 : decode cX4_edge 106 = .ok (.iload 6, 2) := by decide +kernel
theorem dX4_edge_108 : decode cX4_edge 108 = .ok (.invokevirtual 112, 3) := by decide +kernel
theorem dX4_edge_111 : decode cX4_edge 111 = .ok (.iconst 0, 1) := by decide +kernel
theorem dX4_edge_112 : decode cX4_edge 112 = .ok (.iconst 0, 1) := by decide +kernel
theorem dX4_edge_113 : decode cX4_edge 113 = .ok (.invokestatic 127, 3) := by decide +kernel
theorem dX4_edge_116 : decode cX4_edge 116 = .ok (.if_icmp .eq 6, 3) := by decide +kernel
theorem dX4_edge_119 : decode cX4_edge 119 = .ok (.iload 4, 2) := by decide +kernel
theorem dX4_edge_121 : decode cX4_edge 121 = .ok (.ireturn, 1) := by decide +kernel
theorem dX4_edge_122 : decode cX4_edge 122 = .ok (.iinc 4 1, 3) := by decide +kernel
theorem dX4_edge_125 : decode cX4_edge 125 = .ok (.goto (-88), 3) := by decide +kernel
theorem dX4_edge_128 : decode cX4_edge 128 = .ok (.bipush (-6), 2) := by decide +kernel
theorem dX4_edge_130 : decode cX4_edge 130 = .ok (.ireturn, 1) := by decide +kernel
theorem dX4_driftsIn_0 : decode cX4_driftsIn 0 = .ok (.iload_n 1, 1) := by decide +kernel
theorem dX4_driftsIn_1 : decode cX4_driftsIn 1 = .ok (.iload_n 2, 1) := by decide +kernel
theorem dX4_driftsIn_2 : decode cX4_driftsIn 2 = .ok (.invokestatic 108, 3) := by decide +kernel
theorem dX4_driftsIn_5 : decode cX4_driftsIn 5 = .ok (.ifCond .ne 6, 3) := by decide +kernel
theorem dX4_driftsIn_8 : decode cX4_driftsIn 8 = .ok (.bipush (-2), 2) := by decide +kernel
theorem dX4_driftsIn_10 : decode cX4_driftsIn 10 = .ok (.ireturn, 1) := by decide +kernel
theorem dX4_driftsIn_11 : decode cX4_driftsIn 11 = .ok (.aload_n 0, 1) := by decide +kernel
theorem dX4_driftsIn_12 : decode cX4_driftsIn 12 = .ok (.getfield 16, 3) := by decide +kernel
theorem dX4_driftsIn_15 : decode cX4_driftsIn 15 = .ok (.aload_n 0, 1) := by decide +kernel
theorem dX4_driftsIn_16 : decode cX4_driftsIn 16 = .ok (.getfield 10, 3) := by decide +kernel
theorem dX4_driftsIn_19 : decode cX4_driftsIn 19 = .ok (.invokevirtual 115, 3) := by decide +kernel
theorem dX4_driftsIn_22 : decode cX4_driftsIn 22 = .ok (.iconst 1, 1) := by decide +kernel
theorem dX4_driftsIn_23 : decode cX4_driftsIn 23 = .ok (.istore_n 3, 1) := by decide +kernel
theorem dX4_driftsIn_24 : decode cX4_driftsIn 24 = .ok (.iload_n 3, 1) := by decide +kernel
theorem dX4_driftsIn_25 : decode cX4_driftsIn 25 = .ok (.sipush 200, 3) := by decide +kernel
theorem dX4_driftsIn_28 : decode cX4_driftsIn 28 = .ok (.if_icmp .gt 32, 3) := by decide +kernel
theorem dX4_driftsIn_31 : decode cX4_driftsIn 31 = .ok (.aload_n 0, 1) := by decide +kernel
theorem dX4_driftsIn_32 : decode cX4_driftsIn 32 = .ok (.getfield 16, 3) := by decide +kernel
theorem dX4_driftsIn_35 : decode cX4_driftsIn 35 = .ok (.iload_n 1, 1) := by decide +kernel
theorem dX4_driftsIn_36 : decode cX4_driftsIn 36 = .ok (.iload_n 2, 1) := by decide +kernel
theorem dX4_driftsIn_37 : decode cX4_driftsIn 37 = .ok (.invokevirtual 130, 3) := by decide +kernel
theorem dX4_driftsIn_40 : decode cX4_driftsIn 40 = .ok (.ifCond .eq 5, 3) := by decide +kernel
theorem dX4_driftsIn_43 : decode cX4_driftsIn 43 = .ok (.iload_n 3, 1) := by decide +kernel
theorem dX4_driftsIn_44 : decode cX4_driftsIn 44 = .ok (.ireturn, 1) := by decide +kernel
theorem dX4_driftsIn_45 : decode cX4_driftsIn 45 = .ok (.aload_n 0, 1) := by decide +kernel
theorem dX4_driftsIn_46 : decode cX4_driftsIn 46 = .ok (.getfield 16, 3) := by decide +kernel
theorem dX4_driftsIn_49 : decode cX4_driftsIn 49 = .ok (.iload_n 1, 1) := by decide +kernel
theorem dX4_driftsIn_50 : decode cX4_driftsIn 50 = .ok (.iload_n 2, 1) := by decide +kernel
theorem dX4_driftsIn_51 : decode cX4_driftsIn 51 = .ok (.invokevirtual 59, 3) := by decide +kernel
theorem dX4_driftsIn_54 : decode cX4_driftsIn 54 = .ok (.iinc 3 1, 3) := by decide +kernel
theorem dX4_driftsIn_57 : decode cX4_driftsIn 57 = .ok (.goto (-33), 3) := by decide +kernel
theorem dX4_driftsIn_60 : decode cX4_driftsIn 60 = .ok (.bipush (-6), 2) := by decide +kernel
theorem dX4_driftsIn_62 : decode cX4_driftsIn 62 = .ok (.ireturn, 1) := by decide +kernel
theorem dX4_put_0 : decode cX4_put 0 = .ok (.aload_n 0, 1) := by decide +kernel
theorem dX4_put_1 : decode cX4_put 1 = .ok (.getfield 22, 3) := by decide +kernel
theorem dX4_put_4 : decode cX4_put 4 = .ok (.lload_n 1, 1) := by decide +kernel
theorem dX4_put_5 : decode cX4_put 5 = .ok (.invokevirtual 133, 3) := by decide +kernel
theorem dX4_put_8 : decode cX4_put 8 = .ok (.ireturn, 1) := by decide +kernel
theorem dX4_wipe_0 : decode cX4_wipe 0 = .ok (.aload_n 0, 1) := by decide +kernel
theorem dX4_wipe_1 : decode cX4_wipe 1 = .ok (.getfield 22, 3) := by decide +kernel
theorem dX4_wipe_4 : decode cX4_wipe 4 = .ok (.invokevirtual 137, 3) := by decide +kernel
theorem dX4_wipe_7 : decode cX4_wipe 7 = .ok (.ireturn, 1) := by decide +kernel
theorem dX4_fault_0 : decode cX4_fault 0 = .ok (.aload_n 0, 1) := by decide +kernel
theorem dX4_fault_1 : decode cX4_fault 1 = .ok (.getfield 22, 3) := by decide +kernel
theorem dX4_fault_4 : decode cX4_fault 4 = .ok (.invokevirtual 140, 3) := by decide +kernel
theorem dX4_fault_7 : decode cX4_fault 7 = .ok (.ireturn, 1) := by decide +kernel
theorem dX4_carryOut_0 : decode cX4_carryOut 0 = .ok (.aload_n 0, 1) := by decide +kernel
theorem dX4_carryOut_1 : decode cX4_carryOut 1 = .ok (.getfield 22, 3) := by decide +kernel
theorem dX4_carryOut_4 : decode cX4_carryOut 4 = .ok (.invokevirtual 140, 3) := by decide +kernel
theorem dX4_carryOut_7 : decode cX4_carryOut 7 = .ok (.bipush (-6), 2) := by decide +kernel
theorem dX4_carryOut_9 : decode cX4_carryOut 9 = .ok (.if_icmp .eq 6, 3) := by decide +kernel
theorem dX4_carryOut_12 : decode cX4_carryOut 12 = .ok (.bipush (-3), 2) := by decide +kernel
theorem dX4_carryOut_14 : decode cX4_carryOut 14 = .ok (.ireturn, 1) := by decide +kernel
theorem dX4_carryOut_15 : decode cX4_carryOut 15 = .ok (.aload_n 0, 1) := by decide +kernel
theorem dX4_carryOut_16 : decode cX4_carryOut 16 = .ok (.getfield 29, 3) := by decide +kernel
theorem dX4_carryOut_19 : decode cX4_carryOut 19 = .ok (.aload_n 0, 1) := by decide +kernel
theorem dX4_carryOut_20 : decode cX4_carryOut 20 = .ok (.getfield 10, 3) := by decide +kernel
theorem dX4_carryOut_23 : decode cX4_carryOut 23 = .ok (.invokevirtual 44, 3) := by decide +kernel
theorem dX4_carryOut_26 : decode cX4_carryOut 26 = .ok (.aload_n 0, 1) := by decide +kernel
theorem dX4_carryOut_27 : decode cX4_carryOut 27 = .ok (.invokevirtual 143, 3) := by decide +kernel
theorem dX4_carryOut_30 : decode cX4_carryOut 30 = .ok (.istore_n 1, 1) := by decide +kernel
theorem dX4_carryOut_31 : decode cX4_carryOut 31 = .ok (.aload_n 0, 1) := by decide +kernel
theorem dX4_carryOut_32 : decode cX4_carryOut 32 = .ok (.getfield 22, 3) := by decide +kernel
theorem dX4_carryOut_35 : decode cX4_carryOut 35 = .ok (.invokevirtual 137, 3) := by decide +kernel
theorem dX4_carryOut_38 : decode cX4_carryOut 38 = .ok (.pop, 1) := by decide +kernel
theorem dX4_carryOut_39 : decode cX4_carryOut 39 = .ok (.iload_n 1, 1) := by decide +kernel
theorem dX4_carryOut_40 : decode cX4_carryOut 40 = .ok (.ireturn, 1) := by decide +kernel
theorem dX4_carryOutOrders_0 : decode cX4_carryOutOrders 0 = .ok (.iconst 0, 1) := by decide +kernel
theorem dX4_carryOutOrders_1 : decode cX4_carryOutOrders 1 = .ok (.istore_n 1, 1) := by decide +kernel
theorem dX4_carryOutOrders_2 : decode cX4_carryOutOrders 2 = .ok (.aload_n 0, 1) := by decide +kernel
theorem dX4_carryOutOrders_3 : decode cX4_carryOutOrders 3 = .ok (.getfield 22, 3) := by decide +kernel
theorem dX4_carryOutOrders_6 : decode cX4_carryOutOrders 6 = .ok (.invokevirtual 146, 3) := by decide +kernel
theorem dX4_carryOutOrders_9 : decode cX4_carryOutOrders 9 = .ok (.iconst 0, 1) := by decide +kernel
theorem dX4_carryOutOrders_10 : decode cX4_carryOutOrders 10 = .ok (.istore_n 2, 1) := by decide +kernel
theorem dX4_carryOutOrders_11 : decode cX4_carryOutOrders 11 = .ok (.iload_n 2, 1) := by decide +kernel
theorem dX4_carryOutOrders_12 : decode cX4_carryOutOrders 12 = .ok (.bipush 80, 2) := by decide +kernel
theorem dX4_carryOutOrders_14 : decode cX4_carryOutOrders 14 = .ok (.if_icmp .ge 70, 3) := by decide +kernel
theorem dX4_carryOutOrders_17 : decode cX4_carryOutOrders 17 = .ok (.aload_n 0, 1) := by decide +kernel
theorem dX4_carryOutOrders_18 : decode cX4_carryOutOrders 18 = .ok (.getfield 22, 3) := by decide +kernel
theorem dX4_carryOutOrders_21 : decode cX4_carryOutOrders 21 = .ok (.invokevirtual 149, 3) := by decide +kernel
theorem dX4_carryOutOrders_24 : decode cX4_carryOutOrders 24 = .ok (.ifCond .eq 60, 3) := by decide +kernel
theorem dX4_carryOutOrders_27 : decode cX4_carryOutOrders 27 = .ok (.aload_n 0, 1) := by decide +kernel
theorem dX4_carryOutOrders_28 : decode cX4_carryOutOrders 28 = .ok (.getfield 22, 3) := by decide +kernel
theorem dX4_carryOutOrders_31 : decode cX4_carryOutOrders 31 = .ok (.getfield 153, 3) := by decide +kernel
theorem dX4_carryOutOrders_34 : decode cX4_carryOutOrders 34 = .ok (.bipush 115, 2) := by decide +kernel
theorem dX4_carryOutOrders_36 : decode cX4_carryOutOrders 36 = .ok (.if_icmp .ne 10, 3) := by decide +kernel
theorem dX4_carryOutOrders_39 : decode cX4_carryOutOrders 39 = .ok (.aload_n 0, 1) := by decide +kernel
theorem dX4_carryOutOrders_40 : decode cX4_carryOutOrders 40 = .ok (.invokevirtual 157, 3) := by decide +kernel
theorem dX4_carryOutOrders_43 : decode cX4_carryOutOrders 43 = .ok (.goto 7, 3) := by decide +kernel
theorem dX4_carryOutOrders_46 : decode cX4_carryOutOrders 46 = .ok (.aload_n 0, 1) := by decide +kernel
theorem dX4_carryOutOrders_47 : decode cX4_carryOutOrders 47 = .ok (.invokevirtual 160, 3) := by decide +kernel
theorem dX4_carryOutOrders_50 : decode cX4_carryOutOrders 50 = .ok (.istore_n 3, 1) := by decide +kernel
theorem dX4_carryOutOrders_51 : decode cX4_carryOutOrders 51 = .ok (.iload_n 1, 1) := by decide +kernel
theorem dX4_carryOutOrders_52 : decode cX4_carryOutOrders 52 = .ok (.iload_n 3, 1) := by decide +kernel
theorem dX4_carryOutOrders_53 : decode cX4_carryOutOrders 53 = .ok (.iadd, 1) := by decide +kernel
theorem dX4_carryOutOrders_54 : decode cX4_carryOutOrders 54 = .ok (.istore_n 1, 1) := by decide +kernel
theorem dX4_carryOutOrders_55 : decode cX4_carryOutOrders 55 = .ok (.iload_n 3, 1) := by decide +kernel
theorem dX4_carryOutOrders_56 : decode cX4_carryOutOrders 56 = .ok (.aload_n 0, 1) := by decide +kernel
theorem dX4_carryOutOrders_57 : decode cX4_carryOutOrders 57 = .ok (.getfield 22, 3) := by decide +kernel
theorem dX4_carryOutOrders_60 : decode cX4_carryOutOrders 60 = .ok (.getfield 163, 3) := by decide +kernel
theorem dX4_carryOutOrders_63 : decode cX4_carryOutOrders 63 = .ok (.if_icmp .ge 5, 3) := by decide +kernel
theorem dX4_carryOutOrders_66 : decode cX4_carryOutOrders 66 = .ok (.iload_n 1, 1) := by decide +kernel
theorem dX4_carryOutOrders_67 : decode cX4_carryOutOrders 67 = .ok (.ireturn, 1) := by decide +kernel
theorem dX4_carryOutOrders_68 : decode cX4_carryOutOrders 68 = .ok (.aload_n 0, 1) := by decide +kernel
theorem dX4_carryOutOrders_69 : decode cX4_carryOutOrders 69 = .ok (.getfield 22, 3) := by decide +kernel
theorem dX4_carryOutOrders_72 : decode cX4_carryOutOrders 72 = .ok (.bipush 59, 2) := by decide +kernel
theorem dX4_carryOutOrders_74 : decode cX4_carryOutOrders 74 = .ok (.invokevirtual 166, 3) := by decide +kernel
theorem dX4_carryOutOrders_77 : decode cX4_carryOutOrders 77 = .ok (.pop, 1) := by decide +kernel
theorem dX4_carryOutOrders_78 : decode cX4_carryOutOrders 78 = .ok (.iinc 2 1, 3) := by decide +kernel
theorem dX4_carryOutOrders_81 : decode cX4_carryOutOrders 81 = .ok (.goto (-70), 3) := by decide +kernel
theorem dX4_carryOutOrders_84 : decode cX4_carryOutOrders 84 = .ok (.iload_n 1, 1) := by decide +kernel
theorem dX4_carryOutOrders_85 : decode cX4_carryOutOrders 85 = .ok (.ireturn, 1) := by decide +kernel
theorem dX4_takeFromPad_0 : decode cX4_takeFromPad 0 = .ok (.iconst 0, 1) := by decide +kernel
theorem dX4_takeFromPad_1 : decode cX4_takeFromPad 1 = .ok (.istore_n 1, 1) := by decide +kernel
theorem dX4_takeFromPad_2 : decode cX4_takeFromPad 2 = .ok (.iload_n 1, 1) := by decide +kernel
theorem dX4_takeFromPad_3 : decode cX4_takeFromPad 3 = .ok (.aload_n 0, 1) := by decide +kernel
theorem dX4_takeFromPad_4 : decode cX4_takeFromPad 4 = .ok (.getfield 22, 3) := by decide +kernel
theorem dX4_takeFromPad_7 : decode cX4_takeFromPad 7 = .ok (.getfield 163, 3) := by decide +kernel
theorem dX4_takeFromPad_10 : decode cX4_takeFromPad 10 = .ok (.if_icmp .ge 55, 3) := by decide +kernel
theorem dX4_takeFromPad_13 : decode cX4_takeFromPad 13 = .ok (.aload_n 0, 1) := by decide +kernel
theorem dX4_takeFromPad_14 : decode cX4_takeFromPad 14 = .ok (.getfield 10, 3) := by decide +kernel
theorem dX4_takeFromPad_17 : decode cX4_takeFromPad 17 = .ok (.aload_n 0, 1) := by decide +kernel
theorem dX4_takeFromPad_18 : decode cX4_takeFromPad 18 = .ok (.getfield 22, 3) := by decide +kernel
theorem dX4_takeFromPad_21 : decode cX4_takeFromPad 21 = .ok (.getfield 170, 3) := by decide +kernel
theorem dX4_takeFromPad_24 : decode cX4_takeFromPad 24 = .ok (.aload_n 0, 1) := by decide +kernel
theorem dX4_takeFromPad_25 : decode cX4_takeFromPad 25 = .ok (.getfield 22, 3) := by decide +kernel
theorem dX4_takeFromPad_28 : decode cX4_takeFromPad 28 = .ok (.getfield 173, 3) := by decide +kernel
theorem dX4_takeFromPad_31 : decode cX4_takeFromPad 31 = .ok (.iconst 1, 1) := by decide +kernel
theorem dX4_takeFromPad_32 : decode cX4_takeFromPad 32 = .ok (.invokevirtual 56, 3) := by decide +kernel
theorem dX4_takeFromPad_35 : decode cX4_takeFromPad 35 = .ok (.ifCond .ne 30, 3) := by decide +kernel
theorem dX4_takeFromPad_38 : decode cX4_takeFromPad 38 = .ok (.aload_n 0, 1) := by decide +kernel
theorem dX4_takeFromPad_39 : decode cX4_takeFromPad 39 = .ok (.getfield 10, 3) := by decide +kernel
theorem dX4_takeFromPad_42 : decode cX4_takeFromPad 42 = .ok (.aload_n 0, 1) := by decide +kernel
theorem dX4_takeFromPad_43 : decode cX4_takeFromPad 43 = .ok (.getfield 22, 3) := by decide +kernel
theorem dX4_takeFromPad_46 : decode cX4_takeFromPad 46 = .ok (.getfield 170, 3) := by decide +kernel
theorem dX4_takeFromPad_49 : decode cX4_takeFromPad 49 = .ok (.aload_n 0, 1) := by decide +kernel
theorem dX4_takeFromPad_50 : decode cX4_takeFromPad 50 = .ok (.getfield 22, 3) := by decide +kernel
theorem dX4_takeFromPad_53 : decode cX4_takeFromPad 53 = .ok (.getfield 173, 3) := by decide +kernel
theorem dX4_takeFromPad_56 : decode cX4_takeFromPad 56 = .ok (.invokevirtual 59, 3) := by decide +kernel
theorem dX4_takeFromPad_59 : decode cX4_takeFromPad 59 = .ok (.iinc 1 1, 3) := by decide +kernel
theorem dX4_takeFromPad_62 : decode cX4_takeFromPad 62 = .ok (.goto (-60), 3) := by decide +kernel
theorem dX4_takeFromPad_65 : decode cX4_takeFromPad 65 = .ok (.iload_n 1, 1) := by decide +kernel
theorem dX4_takeFromPad_66 : decode cX4_takeFromPad 66 = .ok (.ireturn, 1) := by decide +kernel
theorem dX4_moveButtonFromPad_0 : decode cX4_moveButtonFromPad 0 = .ok (.aload_n 0, 1) := by decide +kernel
theorem dX4_moveButtonFromPad_1 : decode cX4_moveButtonFromPad 1 = .ok (.getfield 22, 3) := by decide +kernel
theorem dX4_moveButtonFromPad_4 : decode cX4_moveButtonFromPad 4 = .ok (.getfield 170, 3) := by decide +kernel
theorem dX4_moveButtonFromPad_7 : decode cX4_moveButtonFromPad 7 = .ok (.istore_n 1, 1) := by decide +kernel
theorem dX4_moveButtonFromPad_8 : decode cX4_moveButtonFromPad 8 = .ok (.aload_n 0, 1) := by decide +kernel
theorem dX4_moveButtonFromPad_9 : decode cX4_moveButtonFromPad 9 = .ok (.getfield 22, 3) := by decide +kernel
theorem dX4_moveButtonFromPad_12 : decode cX4_moveButtonFromPad 12 = .ok (.getfield 153, 3) := by decide +kernel
theorem dX4_moveButtonFromPad_15 : decode cX4_moveButtonFromPad 15 = .ok (.bipush 98, 2) := by decide +kernel
theorem dX4_moveButtonFromPad_17 : decode cX4_moveButtonFromPad 17 = .ok (.if_icmp .ne 7, 3) := by decide +kernel
theorem dX4_moveButtonFromPad_20 : decode cX4_moveButtonFromPad 20 = .ok (.iconst 1, 1) := by decide +kernel
theorem dX4_moveButtonFromPad_21 : decode cX4_moveButtonFromPad 21 = .ok (.goto 4, 3) := by decide +kernel
theorem dX4_moveButtonFromPad_24 : decode cX4_moveButtonFromPad 24 = .ok (.iconst 0, 1) := by decide +kernel
theorem dX4_moveButtonFromPad_25 : decode cX4_moveButtonFromPad 25 = .ok (.istore_n 2, 1) := by decide +kernel
theorem dX4_moveButtonFromPad_26 : decode cX4_moveButtonFromPad 26 = .ok (.iload_n 2, 1) := by decide +kernel
theorem dX4_moveButtonFromPad_27 : decode cX4_moveButtonFromPad 27 = .ok (.ifCond .eq 14, 3) := by decide +kernel
theorem dX4_moveButtonFromPad_30 : decode cX4_moveButtonFromPad 30 = .ok (.aload_n 0, 1) := by decide +kernel
theorem dX4_moveButtonFromPad_31 : decode cX4_moveButtonFromPad 31 = .ok (.getfield 10, 3) := by decide +kernel
theorem dX4_moveButtonFromPad_34 : decode cX4_moveButtonFromPad 34 = .ok (.iload_n 1, 1) := by decide +kernel
theorem dX4_moveButtonFromPad_35 : decode cX4_moveButtonFromPad 35 = .ok (.invokevirtual 67, 3) := by decide +kernel
theorem dX4_moveButtonFromPad_38 : decode cX4_moveButtonFromPad 38 = .ok (.goto 11, 3) := by decide +kernel
theorem dX4_moveButtonFromPad_41 : decode cX4_moveButtonFromPad 41 = .ok (.aload_n 0, 1) := by decide +kernel
theorem dX4_moveButtonFromPad_42 : decode cX4_moveButtonFromPad 42 = .ok (.getfield 10, 3) := by decide +kernel
theorem dX4_moveButtonFromPad_45 : decode cX4_moveButtonFromPad 45 = .ok (.iload_n 1, 1) := by decide +kernel
theorem dX4_moveButtonFromPad_46 : decode cX4_moveButtonFromPad 46 = .ok (.invokevirtual 74, 3) := by decide +kernel
theorem dX4_moveButtonFromPad_49 : decode cX4_moveButtonFromPad 49 = .ok (.istore_n 3, 1) := by decide +kernel
theorem dX4_moveButtonFromPad_50 : decode cX4_moveButtonFromPad 50 = .ok (.iload_n 3, 1) := by decide +kernel
theorem dX4_moveButtonFromPad_51 : decode cX4_moveButtonFromPad 51 = .ok (.ifCond .eq 5, 3) := by decide +kernel
theorem dX4_moveButtonFromPad_54 : decode cX4_moveButtonFromPad 54 = .ok (.iconst 0, 1) := by decide +kernel
theorem dX4_moveButtonFromPad_55 : decode cX4_moveButtonFromPad 55 = .ok (.ireturn, 1) := by decide +kernel
theorem dX4_moveButtonFromPad_56 : decode cX4_moveButtonFromPad 56 = .ok (.iload_n 2, 1) := by decide +kernel
theorem dX4_moveButtonFromPad_57 : decode cX4_moveButtonFromPad 57 = .ok (.ifCond .eq 15, 3) := by decide +kernel
theorem dX4_moveButtonFromPad_60 : decode cX4_moveButtonFromPad 60 = .ok (.aload_n 0, 1) := by decide +kernel
theorem dX4_moveButtonFromPad_61 : decode cX4_moveButtonFromPad 61 = .ok (.getfield 10, 3) := by decide +kernel
theorem dX4_moveButtonFromPad_64 : decode cX4_moveButtonFromPad 64 = .ok (.iload_n 1, 1) := by decide +kernel
theorem dX4_moveButtonFromPad_65 : decode cX4_moveButtonFromPad 65 = .ok (.invokevirtual 71, 3) := by decide +kernel
theorem dX4_moveButtonFromPad_68 : decode cX4_moveButtonFromPad 68 = .ok (.pop, 1) := by decide +kernel
theorem dX4_moveButtonFromPad_69 : decode cX4_moveButtonFromPad 69 = .ok (.goto 12, 3) := by decide +kernel
theorem dX4_moveButtonFromPad_72 : decode cX4_moveButtonFromPad 72 = .ok (.aload_n 0, 1) := by decide +kernel
theorem dX4_moveButtonFromPad_73 : decode cX4_moveButtonFromPad 73 = .ok (.getfield 10, 3) := by decide +kernel
theorem dX4_moveButtonFromPad_76 : decode cX4_moveButtonFromPad 76 = .ok (.iload_n 1, 1) := by decide +kernel
theorem dX4_moveButtonFromPad_77 : decode cX4_moveButtonFromPad 77 = .ok (.invokevirtual 77, 3) := by decide +kernel
theorem dX4_moveButtonFromPad_80 : decode cX4_moveButtonFromPad 80 = .ok (.pop, 1) := by decide +kernel
theorem dX4_moveButtonFromPad_81 : decode cX4_moveButtonFromPad 81 = .ok (.iconst 1, 1) := by decide +kernel
theorem dX4_moveButtonFromPad_82 : decode cX4_moveButtonFromPad 82 = .ok (.ireturn, 1) := by decide +kernel
theorem dX4_undo_0 : decode cX4_undo 0 = .ok (.aload_n 0, 1) := by decide +kernel
theorem dX4_undo_1 : decode cX4_undo 1 = .ok (.getfield 29, 3) := by decide +kernel
theorem dX4_undo_4 : decode cX4_undo 4 = .ok (.aload_n 0, 1) := by decide +kernel
theorem dX4_undo_5 : decode cX4_undo 5 = .ok (.getfield 10, 3) := by decide +kernel
theorem dX4_undo_8 : decode cX4_undo 8 = .ok (.invokevirtual 176, 3) := by decide +kernel
theorem dX4_undo_11 : decode cX4_undo 11 = .ok (.ireturn, 1) := by decide +kernel
theorem dX4_save_0 : decode cX4_save 0 = .ok (.iload_n 1, 1) := by decide +kernel
theorem dX4_save_1 : decode cX4_save 1 = .ok (.ifCond .lt 12, 3) := by decide +kernel
theorem dX4_save_4 : decode cX4_save 4 = .ok (.iload_n 1, 1) := by decide +kernel
theorem dX4_save_5 : decode cX4_save 5 = .ok (.aload_n 0, 1) := by decide +kernel
theorem dX4_save_6 : decode cX4_save 6 = .ok (.getfield 33, 3) := by decide +kernel
theorem dX4_save_9 : decode cX4_save 9 = .ok (.arraylength, 1) := by decide +kernel
theorem dX4_save_10 : decode cX4_save 10 = .ok (.if_icmp .lt 6, 3) := by decide +kernel
theorem dX4_save_13 : decode cX4_save 13 = .ok (.bipush (-2), 2) := by decide +kernel
theorem dX4_save_15 : decode cX4_save 15 = .ok (.ireturn, 1) := by decide +kernel
theorem dX4_save_16 : decode cX4_save 16 = .ok (.aload_n 0, 1) := by decide +kernel
theorem dX4_save_17 : decode cX4_save 17 = .ok (.getfield 33, 3) := by decide +kernel
theorem dX4_save_20 : decode cX4_save 20 = .ok (.iload_n 1, 1) := by decide +kernel
theorem dX4_save_21 : decode cX4_save 21 = .ok (.aaload, 1) := by decide +kernel
theorem dX4_save_22 : decode cX4_save 22 = .ok (.astore_n 2, 1) := by decide +kernel
theorem dX4_save_23 : decode cX4_save 23 = .ok (.aload_n 2, 1) := by decide +kernel
theorem dX4_save_24 : decode cX4_save 24 = .ok (.ifnonnull 18, 3) := by decide +kernel
theorem dX4_save_27 : decode cX4_save 27 = .ok (.new 7, 3) := by decide +kernel
theorem dX4_save_30 : decode cX4_save 30 = .ok (.dup, 1) := by decide +kernel
theorem dX4_save_31 : decode cX4_save 31 = .ok (.invokespecial 9, 3) := by decide +kernel
theorem dX4_save_34 : decode cX4_save 34 = .ok (.astore_n 2, 1) := by decide +kernel
theorem dX4_save_35 : decode cX4_save 35 = .ok (.aload_n 0, 1) := by decide +kernel
theorem dX4_save_36 : decode cX4_save 36 = .ok (.getfield 33, 3) := by decide +kernel
theorem dX4_save_39 : decode cX4_save 39 = .ok (.iload_n 1, 1) := by decide +kernel
theorem dX4_save_40 : decode cX4_save 40 = .ok (.aload_n 2, 1) := by decide +kernel
theorem dX4_save_41 : decode cX4_save 41 = .ok (.aastore, 1) := by decide +kernel
theorem dX4_save_42 : decode cX4_save 42 = .ok (.aload_n 2, 1) := by decide +kernel
theorem dX4_save_43 : decode cX4_save 43 = .ok (.aload_n 0, 1) := by decide +kernel
theorem dX4_save_44 : decode cX4_save 44 = .ok (.getfield 10, 3) := by decide +kernel
theorem dX4_save_47 : decode cX4_save 47 = .ok (.invokevirtual 115, 3) := by decide +kernel
theorem dX4_save_50 : decode cX4_save 50 = .ok (.aload_n 0, 1) := by decide +kernel
theorem dX4_save_51 : decode cX4_save 51 = .ok (.getfield 10, 3) := by decide +kernel
theorem dX4_save_54 : decode cX4_save 54 = .ok (.getfield 180, 3) := by decide +kernel
theorem dX4_save_57 : decode cX4_save 57 = .ok (.ireturn, 1) := by decide +kernel
theorem dX4_restore_0 : decode cX4_restore 0 = .ok (.iload_n 1, 1) := by decide +kernel
theorem dX4_restore_1 : decode cX4_restore 1 = .ok (.ifCond .lt 12, 3) := by decide +kernel
theorem dX4_restore_4 : decode cX4_restore 4 = .ok (.iload_n 1, 1) := by decide +kernel
theorem dX4_restore_5 : decode cX4_restore 5 = .ok (.aload_n 0, 1) := by decide +kernel
theorem dX4_restore_6 : decode cX4_restore 6 = .ok (.getfield 33, 3) := by decide +kernel
theorem dX4_restore_9 : decode cX4_restore 9 = .ok (.arraylength, 1) := by decide +kernel
theorem dX4_restore_10 : decode cX4_restore 10 = .ok (.if_icmp .lt 6, 3) := by decide +kernel
theorem dX4_restore_13 : decode cX4_restore 13 = .ok (.bipush (-2), 2) := by decide +kernel
theorem dX4_restore_15 : decode cX4_restore 15 = .ok (.ireturn, 1) := by decide +kernel
theorem dX4_restore_16 : decode cX4_restore 16 = .ok (.aload_n 0, 1) := by decide +kernel
theorem dX4_restore_17 : decode cX4_restore 17 = .ok (.getfield 33, 3) := by decide +kernel
theorem dX4_restore_20 : decode cX4_restore 20 = .ok (.iload_n 1, 1) := by decide +kernel
theorem dX4_restore_21 : decode cX4_restore 21 = .ok (.aaload, 1) := by decide +kernel
theorem dX4_restore_22 : decode cX4_restore 22 = .ok (.astore_n 2, 1) := by decide +kernel
theorem dX4_restore_23 : decode cX4_restore 23 = .ok (.aload_n 2, 1) := by decide +kernel
theorem dX4_restore_24 : decode cX4_restore 24 = .ok (.ifnonnull 6, 3) := by decide +kernel
theorem dX4_restore_27 : decode cX4_restore 27 = .ok (.bipush (-5), 2) := by decide +kernel
theorem dX4_restore_29 : decode cX4_restore 29 = .ok (.ireturn, 1) := by decide +kernel
theorem dX4_restore_30 : decode cX4_restore 30 = .ok (.aload_n 0, 1) := by decide +kernel
theorem dX4_restore_31 : decode cX4_restore 31 = .ok (.getfield 29, 3) := by decide +kernel
theorem dX4_restore_34 : decode cX4_restore 34 = .ok (.aload_n 0, 1) := by decide +kernel
theorem dX4_restore_35 : decode cX4_restore 35 = .ok (.getfield 10, 3) := by decide +kernel
theorem dX4_restore_38 : decode cX4_restore 38 = .ok (.invokevirtual 44, 3) := by decide +kernel
theorem dX4_restore_41 : decode cX4_restore 41 = .ok (.aload_n 0, 1) := by decide +kernel
theorem dX4_restore_42 : decode cX4_restore 42 = .ok (.getfield 10, 3) := by decide +kernel
theorem dX4_restore_45 : decode cX4_restore 45 = .ok (.aload_n 2, 1) := by decide +kernel
theorem dX4_restore_46 : decode cX4_restore 46 = .ok (.invokevirtual 115, 3) := by decide +kernel
theorem dX4_restore_49 : decode cX4_restore 49 = .ok (.aload_n 0, 1) := by decide +kernel
theorem dX4_restore_50 : decode cX4_restore 50 = .ok (.getfield 10, 3) := by decide +kernel
theorem dX4_restore_53 : decode cX4_restore 53 = .ok (.getfield 180, 3) := by decide +kernel
theorem dX4_restore_56 : decode cX4_restore 56 = .ok (.ireturn, 1) := by decide +kernel
theorem dX4_isSample_0 : decode cX4_isSample 0 = .ok (.iload_n 0, 1) := by decide +kernel
theorem dX4_isSample_1 : decode cX4_isSample 1 = .ok (.ifCond .lt 25, 3) := by decide +kernel
theorem dX4_isSample_4 : decode cX4_isSample 4 = .ok (.iload_n 0, 1) := by decide +kernel
theorem dX4_isSample_5 : decode cX4_isSample 5 = .ok (.sipush 255, 3) := by decide +kernel
theorem dX4_isSample_8 : decode cX4_isSample 8 = .ok (.if_icmp .gt 18, 3) := by decide +kernel
theorem dX4_isSample_11 : decode cX4_isSample 11 = .ok (.iload_n 1, 1) := by decide +kernel
theorem dX4_isSample_12 : decode cX4_isSample 12 = .ok (.ifCond .lt 14, 3) := by decide +kernel
theorem dX4_isSample_15 : decode cX4_isSample 15 = .ok (.iload_n 1, 1) := by decide +kernel
theorem dX4_isSample_16 : decode cX4_isSample 16 = .ok (.sipush 255, 3) := by decide +kernel
theorem dX4_isSample_19 : decode cX4_isSample 19 = .ok (.if_icmp .gt 7, 3) := by decide +kernel
theorem dX4_isSample_22 : decode cX4_isSample 22 = .ok (.iconst 1, 1) := by decide +kernel
theorem dX4_isSample_23 : decode cX4_isSample 23 = .ok (.goto 4, 3) := by decide +kernel
theorem dX4_isSample_26 : decode cX4_isSample 26 = .ok (.iconst 0, 1) := by decide +kernel
theorem dX4_isSample_27 : decode cX4_isSample 27 = .ok (.ireturn, 1) := by decide +kernel
theorem dX4_packed_0 : decode cX4_packed 0 = .ok (.sipush 1000, 3) := by decide +kernel
theorem dX4_packed_3 : decode cX4_packed 3 = .ok (.iload_n 0, 1) := by decide +kernel
theorem dX4_packed_4 : decode cX4_packed 4 = .ok (.bipush 100, 2) := by decide +kernel
theorem dX4_packed_6 : decode cX4_packed 6 = .ok (.iadd, 1) := by decide +kernel
theorem dX4_packed_7 : decode cX4_packed 7 = .ok (.imul, 1) := by decide +kernel
theorem dX4_packed_8 : decode cX4_packed 8 = .ok (.iload_n 1, 1) := by decide +kernel
theorem dX4_packed_9 : decode cX4_packed 9 = .ok (.iadd, 1) := by decide +kernel
theorem dX4_packed_10 : decode cX4_packed 10 = .ok (.bipush 100, 2) := by decide +kernel
theorem dX4_packed_12 : decode cX4_packed 12 = .ok (.iadd, 1) := by decide +kernel
theorem dX4_packed_13 : decode cX4_packed 13 = .ok (.ireturn, 1) := by decide +kernel
theorem dX4_quotient_0 : decode cX4_quotient 0 = .ok (.iload_n 1, 1) := by decide +kernel
theorem dX4_quotient_1 : decode cX4_quotient 1 = .ok (.ifCond .ne 7, 3) := by decide +kernel
theorem dX4_quotient_4 : decode cX4_quotient 4 = .ok (.iconst 0, 1) := by decide +kernel
theorem dX4_quotient_5 : decode cX4_quotient 5 = .ok (.goto 6, 3) := by decide +kernel
theorem dX4_quotient_8 : decode cX4_quotient 8 = .ok (.iload_n 0, 1) := by decide +kernel
theorem dX4_quotient_9 : decode cX4_quotient 9 = .ok (.iload_n 1, 1) := by decide +kernel
theorem dX4_quotient_10 : decode cX4_quotient 10 = .ok (.idiv, 1) := by decide +kernel
theorem dX4_quotient_11 : decode cX4_quotient 11 = .ok (.ireturn, 1) := by decide +kernel
theorem dL_law_0 : decode cL_law 0 = .ok (.new 7, 3) := by decide +kernel
theorem dL_law_3 : decode cL_law 3 = .ok (.dup, 1) := by decide +kernel
theorem dL_law_4 : decode cL_law 4 = .ok (.invokespecial 9, 3) := by decide +kernel
theorem dL_law_7 : decode cL_law 7 = .ok (.astore_n 1, 1) := by decide +kernel
theorem dL_law_8 : decode cL_law 8 = .ok (.new 10, 3) := by decide +kernel
theorem dL_law_11 : decode cL_law 11 = .ok (.dup, 1) := by decide +kernel
theorem dL_law_12 : decode cL_law 12 = .ok (.invokespecial 12, 3) := by decide +kernel
theorem dL_law_15 : decode cL_law 15 = .ok (.astore_n 2, 1) := by decide +kernel
theorem dL_law_16 : decode cL_law 16 = .ok (.iconst 0, 1) := by decide +kernel
theorem dL_law_17 : decode cL_law 17 = .ok (.istore_n 3, 1) := by decide +kernel
theorem dL_law_18 : decode cL_law 18 = .ok (.iload_n 3, 1) := by decide +kernel
theorem dL_law_19 : decode cL_law 19 = .ok (.aload_n 0, 1) := by decide +kernel
theorem dL_law_20 : decode cL_law 20 = .ok (.arraylength, 1) := by decide +kernel
theorem dL_law_21 : decode cL_law 21 = .ok (.iconst 4, 1) := by decide +kernel
theorem dL_law_22 : decode cL_law 22 = .ok (.isub, 1) := by decide +kernel
theorem dL_law_23 : decode cL_law 23 = .ok (.if_icmp .gt 651, 3) := by decide +kernel
theorem dL_law_26 : decode cL_law 26 = .ok (.aload_n 0, 1) := by decide +kernel
theorem dL_law_27 : decode cL_law 27 = .ok (.iload_n 3, 1) := by decide +kernel
theorem dL_law_28 : decode cL_law 28 = .ok (.iaload, 1) := by decide +kernel
theorem dL_law_29 : decode cL_law 29 = .ok (.bipush 31, 2) := by decide +kernel
theorem dL_law_31 : decode cL_law 31 = .ok (.iand, 1) := by decide +kernel
theorem dL_law_32 : decode cL_law 32 = .ok (.tableswitch 636 0 19 #[96, 129, 162, 205, 228, 251, 264, 297, 330, 353, 386, 419, 452, 485, 538, 551, 564, 577, 590, 613], 96) := by decide +kernel
theorem dL_law_128 : decode cL_law 128 = .ok (.aload_n 1, 1) := by decide +kernel
theorem dL_law_129 : decode cL_law 129 = .ok (.aload_n 0, 1) := by decide +kernel
theorem dL_law_130 : decode cL_law 130 = .ok (.iload_n 3, 1) := by decide +kernel
theorem dL_law_131 : decode cL_law 131 = .ok (.iconst 1, 1) := by decide +kernel
theorem dL_law_132 : decode cL_law 132 = .ok (.iadd, 1) := by decide +kernel
theorem dL_law_133 : decode cL_law 133 = .ok (.iaload, 1) := by decide +kernel
theorem dL_law_134 : decode cL_law 134 = .ok (.aload_n 0, 1) := by decide +kernel
theorem dL_law_135 : decode cL_law 135 = .ok (.iload_n 3, 1) := by decide +kernel
theorem dL_law_136 : decode cL_law 136 = .ok (.iconst 2, 1) := by decide +kernel
theorem dL_law_137 : decode cL_law 137 = .ok (.iadd, 1) := by decide +kernel
theorem dL_law_138 : decode cL_law 138 = .ok (.iaload, 1) := by decide +kernel
theorem dL_law_139 : decode cL_law 139 = .ok (.invokevirtual 13, 3) := by decide +kernel
theorem dL_law_142 : decode cL_law 142 = .ok (.aload_n 2, 1) := by decide +kernel
theorem dL_law_143 : decode cL_law 143 = .ok (.aload_n 0, 1) := by decide +kernel
theorem dL_law_144 : decode cL_law 144 = .ok (.iload_n 3, 1) := by decide +kernel
theorem dL_law_145 : decode cL_law 145 = .ok (.iconst 1, 1) := by decide +kernel
theorem dL_law_146 : decode cL_law 146 = .ok (.iadd, 1) := by decide +kernel
theorem dL_law_147 : decode cL_law 147 = .ok (.iaload, 1) := by decide +kernel
theorem dL_law_148 : decode cL_law 148 = .ok (.aload_n 0, 1) := by decide +kernel
theorem dL_law_149 : decode cL_law 149 = .ok (.iload_n 3, 1) := by decide +kernel
theorem dL_law_150 : decode cL_law 150 = .ok (.iconst 2, 1) := by decide +kernel
theorem dL_law_151 : decode cL_law 151 = .ok (.iadd, 1) := by decide +kernel
theorem dL_law_152 : decode cL_law 152 = .ok (.iaload, 1) := by decide +kernel
theorem dL_law_153 : decode cL_law 153 = .ok (.invokevirtual 17, 3) := by decide +kernel
theorem dL_law_156 : decode cL_law 156 = .ok (.if_icmp .eq 512, 3) := by decide +kernel
theorem dL_law_159 : decode cL_law 159 = .ok (.iconst 0, 1) := by decide +kernel
theorem dL_law_160 : decode cL_law 160 = .ok (.ireturn, 1) := by decide +kernel
theorem dL_law_161 : decode cL_law 161 = .ok (.aload_n 1, 1) := by decide +kernel
theorem dL_law_162 : decode cL_law 162 = .ok (.aload_n 0, 1) := by decide +kernel
theorem dL_law_163 : decode cL_law 163 = .ok (.iload_n 3, 1) := by decide +kernel
theorem dL_law_164 : decode cL_law 164 = .ok (.iconst 1, 1) := by decide +kernel
theorem dL_law_165 : decode cL_law 165 = .ok (.iadd, 1) := by decide +kernel
theorem dL_law_166 : decode cL_law 166 = .ok (.iaload, 1) := by decide +kernel
theorem dL_law_167 : decode cL_law 167 = .ok (.aload_n 0, 1) := by decide +kernel
theorem dL_law_168 : decode cL_law 168 = .ok (.iload_n 3, 1) := by decide +kernel
theorem dL_law_169 : decode cL_law 169 = .ok (.iconst 2, 1) := by decide +kernel
theorem dL_law_170 : decode cL_law 170 = .ok (.iadd, 1) := by decide +kernel
theorem dL_law_171 : decode cL_law 171 = .ok (.iaload, 1) := by decide +kernel
theorem dL_law_172 : decode cL_law 172 = .ok (.invokevirtual 18, 3) := by decide +kernel
theorem dL_law_175 : decode cL_law 175 = .ok (.aload_n 2, 1) := by decide +kernel
theorem dL_law_176 : decode cL_law 176 = .ok (.aload_n 0, 1) := by decide +kernel
theorem dL_law_177 : decode cL_law 177 = .ok (.iload_n 3, 1) := by decide +kernel
theorem dL_law_178 : decode cL_law 178 = .ok (.iconst 1, 1) := by decide +kernel
theorem dL_law_179 : decode cL_law 179 = .ok (.iadd, 1) := by decide +kernel
theorem dL_law_180 : decode cL_law 180 = .ok (.iaload, 1) := by decide +kernel
theorem dL_law_181 : decode cL_law 181 = .ok (.aload_n 0, 1) := by decide +kernel
theorem dL_law_182 : decode cL_law 182 = .ok (.iload_n 3, 1) := by decide +kernel
theorem dL_law_183 : decode cL_law 183 = .ok (.iconst 2, 1) := by decide +kernel
theorem dL_law_184 : decode cL_law 184 = .ok (.iadd, 1) := by decide +kernel
theorem dL_law_185 : decode cL_law 185 = .ok (.iaload, 1) := by decide +kernel
theorem dL_law_186 : decode cL_law 186 = .ok (.invokevirtual 21, 3) := by decide +kernel
theorem dL_law_189 : decode cL_law 189 = .ok (.if_icmp .eq 479, 3) := by decide +kernel
theorem dL_law_192 : decode cL_law 192 = .ok (.iconst 0, 1) := by decide +kernel
theorem dL_law_193 : decode cL_law 193 = .ok (.ireturn, 1) := by decide +kernel
theorem dL_law_194 : decode cL_law 194 = .ok (.aload_n 1, 1) := by decide +kernel
theorem dL_law_195 : decode cL_law 195 = .ok (.aload_n 0, 1) := by decide +kernel
theorem dL_law_196 : decode cL_law 196 = .ok (.iload_n 3, 1) := by decide +kernel
theorem dL_law_197 : decode cL_law 197 = .ok (.iconst 1, 1) := by decide +kernel
theorem dL_law_198 : decode cL_law 198 = .ok (.iadd, 1) := by decide +kernel
theorem dL_law_199 : decode cL_law 199 = .ok (.iaload, 1) := by decide +kernel
theorem dL_law_200 : decode cL_law 200 = .ok (.aload_n 0, 1) := by decide +kernel
theorem dL_law_201 : decode cL_law 201 = .ok (.iload_n 3, 1) := by decide +kernel
theorem dL_law_202 : decode cL_law 202 = .ok (.iconst 2, 1) := by decide +kernel
theorem dL_law_203 : decode cL_law 203 = .ok (.iadd, 1) := by decide +kernel
theorem dL_law_204 : decode cL_law 204 = .ok (.iaload, 1) := by decide +kernel
theorem dL_law_205 : decode cL_law 205 = .ok (.aload_n 0, 1) := by decide +kernel
theorem dL_law_206 : decode cL_law 206 = .ok (.iload_n 3, 1) := by decide +kernel
theorem dL_law_207 : decode cL_law 207 = .ok (.iconst 3, 1) := by decide +kernel
theorem dL_law_208 : decode cL_law 208 = .ok (.iadd, 1) := by decide +kernel
theorem dL_law_209 : decode cL_law 209 = .ok (.iaload, 1) := by decide +kernel
theorem dL_law_210 : decode cL_law 210 = .ok (.invokevirtual 22, 3) := by decide +kernel
theorem dL_law_213 : decode cL_law 213 = .ok (.aload_n 2, 1) := by decide +kernel
theorem dL_law_214 : decode cL_law 214 = .ok (.aload_n 0, 1) := by decide +kernel
theorem dL_law_215 : decode cL_law 215 = .ok (.iload_n 3, 1) := by decide +kernel
theorem dL_law_216 : decode cL_law 216 = .ok (.iconst 1, 1) := by decide +kernel
theorem dL_law_217 : decode cL_law 217 = .ok (.iadd, 1) := by decide +kernel
theorem dL_law_218 : decode cL_law 218 = .ok (.iaload, 1) := by decide +kernel
theorem dL_law_219 : decode cL_law 219 = .ok (.aload_n 0, 1) := by decide +kernel
theorem dL_law_220 : decode cL_law 220 = .ok (.iload_n 3, 1) := by decide +kernel
theorem dL_law_221 : decode cL_law 221 = .ok (.iconst 2, 1) := by decide +kernel
theorem dL_law_222 : decode cL_law 222 = .ok (.iadd, 1) := by decide +kernel
theorem dL_law_223 : decode cL_law 223 = .ok (.iaload, 1) := by decide +kernel
theorem dL_law_224 : decode cL_law 224 = .ok (.aload_n 0, 1) := by decide +kernel
theorem dL_law_225 : decode cL_law 225 = .ok (.iload_n 3, 1) := by decide +kernel
theorem dL_law_226 : decode cL_law 226 = .ok (.iconst 3, 1) := by decide +kernel
theorem dL_law_227 : decode cL_law 227 = .ok (.iadd, 1) := by decide +kernel
theorem dL_law_228 : decode cL_law 228 = .ok (.iaload, 1) := by decide +kernel
theorem dL_law_229 : decode cL_law 229 = .ok (.invokevirtual 26, 3) := by decide +kernel
theorem dL_law_232 : decode cL_law 232 = .ok (.if_icmp .eq 436, 3) := by decide +kernel
theorem dL_law_235 : decode cL_law 235 = .ok (.iconst 0, 1) := by decide +kernel
theorem dL_law_236 : decode cL_law 236 = .ok (.ireturn, 1) := by decide +kernel
theorem dL_law_237 : decode cL_law 237 = .ok (.aload_n 1, 1) := by decide +kernel
theorem dL_law_238 : decode cL_law 238 = .ok (.aload_n 0, 1) := by decide +kernel
theorem dL_law_239 : decode cL_law 239 = .ok (.iload_n 3, 1) := by decide +kernel
theorem dL_law_240 : decode cL_law 240 = .ok (.iconst 1, 1) := by decide +kernel
theorem dL_law_241 : decode cL_law 241 = .ok (.iadd, 1) := by decide +kernel
theorem dL_law_242 : decode cL_law 242 = .ok (.iaload, 1) := by decide +kernel
theorem dL_law_243 : decode cL_law 243 = .ok (.invokevirtual 27, 3) := by decide +kernel
theorem dL_law_246 : decode cL_law 246 = .ok (.aload_n 2, 1) := by decide +kernel
theorem dL_law_247 : decode cL_law 247 = .ok (.aload_n 0, 1) := by decide +kernel
theorem dL_law_248 : decode cL_law 248 = .ok (.iload_n 3, 1) := by decide +kernel
theorem dL_law_249 : decode cL_law 249 = .ok (.iconst 1, 1) := by decide +kernel
theorem dL_law_250 : decode cL_law 250 = .ok (.iadd, 1) := by decide +kernel
theorem dL_law_251 : decode cL_law 251 = .ok (.iaload, 1) := by decide +kernel
theorem dL_law_252 : decode cL_law 252 = .ok (.invokevirtual 31, 3) := by decide +kernel
theorem dL_law_255 : decode cL_law 255 = .ok (.if_icmp .eq 413, 3) := by decide +kernel
theorem dL_law_258 : decode cL_law 258 = .ok (.iconst 0, 1) := by decide +kernel
theorem dL_law_259 : decode cL_law 259 = .ok (.ireturn, 1) := by decide +kernel
theorem dL_law_260 : decode cL_law 260 = .ok (.aload_n 1, 1) := by decide +kernel
theorem dL_law_261 : decode cL_law 261 = .ok (.aload_n 0, 1) := by decide +kernel
theorem dL_law_262 : decode cL_law 262 = .ok (.iload_n 3, 1) := by decide +kernel
theorem dL_law_263 : decode cL_law 263 = .ok (.iconst 1, 1) := by decide +kernel
theorem dL_law_264 : decode cL_law 264 = .ok (.iadd, 1) := by decide +kernel
theorem dL_law_265 : decode cL_law 265 = .ok (.iaload, 1) := by decide +kernel
theorem dL_law_266 : decode cL_law 266 = .ok (.invokevirtual 32, 3) := by decide +kernel
theorem dL_law_269 : decode cL_law 269 = .ok (.aload_n 2, 1) := by decide +kernel
theorem dL_law_270 : decode cL_law 270 = .ok (.aload_n 0, 1) := by decide +kernel
theorem dL_law_271 : decode cL_law 271 = .ok (.iload_n 3, 1) := by decide +kernel
theorem dL_law_272 : decode cL_law 272 = .ok (.iconst 1, 1) := by decide +kernel
theorem dL_law_273 : decode cL_law 273 = .ok (.iadd, 1) := by decide +kernel
theorem dL_law_274 : decode cL_law 274 = .ok (.iaload, 1) := by decide +kernel
theorem dL_law_275 : decode cL_law 275 = .ok (.invokevirtual 35, 3) := by decide +kernel
theorem dL_law_278 : decode cL_law 278 = .ok (.if_icmp .eq 390, 3) := by decide +kernel
theorem dL_law_281 : decode cL_law 281 = .ok (.iconst 0, 1) := by decide +kernel
theorem dL_law_282 : decode cL_law 282 = .ok (.ireturn, 1) := by decide +kernel
theorem dL_law_283 : decode cL_law 283 = .ok (.aload_n 1, 1) := by decide +kernel
theorem dL_law_284 : decode cL_law 284 = .ok (.invokevirtual 36, 3) := by decide +kernel
theorem dL_law_287 : decode cL_law 287 = .ok (.aload_n 2, 1) := by decide +kernel
theorem dL_law_288 : decode cL_law 288 = .ok (.invokevirtual 40, 3) := by decide +kernel
theorem dL_law_291 : decode cL_law 291 = .ok (.if_icmp .eq 377, 3) := by decide +kernel
theorem dL_law_294 : decode cL_law 294 = .ok (.iconst 0, 1) := by decide +kernel
theorem dL_law_295 : decode cL_law 295 = .ok (.ireturn, 1) := by decide +kernel
theorem dL_law_296 : decode cL_law 296 = .ok (.aload_n 1, 1) := by decide +kernel
theorem dL_law_297 : decode cL_law 297 = .ok (.aload_n 0, 1) := by decide +kernel
theorem dL_law_298 : decode cL_law 298 = .ok (.iload_n 3, 1) := by decide +kernel
theorem dL_law_299 : decode cL_law 299 = .ok (.iconst 1, 1) := by decide +kernel
theorem dL_law_300 : decode cL_law 300 = .ok (.iadd, 1) := by decide +kernel
theorem dL_law_301 : decode cL_law 301 = .ok (.iaload, 1) := by decide +kernel
theorem dL_law_302 : decode cL_law 302 = .ok (.aload_n 0, 1) := by decide +kernel
theorem dL_law_303 : decode cL_law 303 = .ok (.iload_n 3, 1) := by decide +kernel
theorem dL_law_304 : decode cL_law 304 = .ok (.iconst 2, 1) := by decide +kernel
theorem dL_law_305 : decode cL_law 305 = .ok (.iadd, 1) := by decide +kernel
theorem dL_law_306 : decode cL_law 306 = .ok (.iaload, 1) := by decide +kernel
theorem dL_law_307 : decode cL_law 307 = .ok (.invokevirtual 41, 3) := by decide +kernel
theorem dL_law_310 : decode cL_law 310 = .ok (.aload_n 2, 1) := by decide +kernel
theorem dL_law_311 : decode cL_law 311 = .ok (.aload_n 0, 1) := by decide +kernel
theorem dL_law_312 : decode cL_law 312 = .ok (.iload_n 3, 1) := by decide +kernel
theorem dL_law_313 : decode cL_law 313 = .ok (.iconst 1, 1) := by decide +kernel
theorem dL_law_314 : decode cL_law 314 = .ok (.iadd, 1) := by decide +kernel
theorem dL_law_315 : decode cL_law 315 = .ok (.iaload, 1) := by decide +kernel
theorem dL_law_316 : decode cL_law 316 = .ok (.aload_n 0, 1) := by decide +kernel
theorem dL_law_317 : decode cL_law 317 = .ok (.iload_n 3, 1) := by decide +kernel
theorem dL_law_318 : decode cL_law 318 = .ok (.iconst 2, 1) := by decide +kernel
theorem dL_law_319 : decode cL_law 319 = .ok (.iadd, 1) := by decide +kernel
theorem dL_law_320 : decode cL_law 320 = .ok (.iaload, 1) := by decide +kernel
theorem dL_law_321 : decode cL_law 321 = .ok (.invokevirtual 44, 3) := by decide +kernel
theorem dL_law_324 : decode cL_law 324 = .ok (.if_icmp .eq 344, 3) := by decide +kernel
theorem dL_law_327 : decode cL_law 327 = .ok (.iconst 0, 1) := by decide +kernel
theorem dL_law_328 : decode cL_law 328 = .ok (.ireturn, 1) := by decide +kernel
theorem dL_law_329 : decode cL_law 329 = .ok (.aload_n 1, 1) := by decide +kernel
theorem dL_law_330 : decode cL_law 330 = .ok (.aload_n 0, 1) := by decide +kernel
theorem dL_law_331 : decode cL_law 331 = .ok (.iload_n 3, 1) := by decide +kernel
theorem dL_law_332 : decode cL_law 332 = .ok (.iconst 1, 1) := by decide +kernel
theorem dL_law_333 : decode cL_law 333 = .ok (.iadd, 1) := by decide +kernel
theorem dL_law_334 : decode cL_law 334 = .ok (.iaload, 1) := by decide +kernel
theorem dL_law_335 : decode cL_law 335 = .ok (.aload_n 0, 1) := by decide +kernel
theorem dL_law_336 : decode cL_law 336 = .ok (.iload_n 3, 1) := by decide +kernel
theorem dL_law_337 : decode cL_law 337 = .ok (.iconst 2, 1) := by decide +kernel
theorem dL_law_338 : decode cL_law 338 = .ok (.iadd, 1) := by decide +kernel
theorem dL_law_339 : decode cL_law 339 = .ok (.iaload, 1) := by decide +kernel
theorem dL_law_340 : decode cL_law 340 = .ok (.invokevirtual 45, 3) := by decide +kernel
theorem dL_law_343 : decode cL_law 343 = .ok (.aload_n 2, 1) := by decide +kernel
theorem dL_law_344 : decode cL_law 344 = .ok (.aload_n 0, 1) := by decide +kernel
theorem dL_law_345 : decode cL_law 345 = .ok (.iload_n 3, 1) := by decide +kernel
theorem dL_law_346 : decode cL_law 346 = .ok (.iconst 1, 1) := by decide +kernel
theorem dL_law_347 : decode cL_law 347 = .ok (.iadd, 1) := by decide +kernel
theorem dL_law_348 : decode cL_law 348 = .ok (.iaload, 1) := by decide +kernel
theorem dL_law_349 : decode cL_law 349 = .ok (.aload_n 0, 1) := by decide +kernel
theorem dL_law_350 : decode cL_law 350 = .ok (.iload_n 3, 1) := by decide +kernel
theorem dL_law_351 : decode cL_law 351 = .ok (.iconst 2, 1) := by decide +kernel
theorem dL_law_352 : decode cL_law 352 = .ok (.iadd, 1) := by decide +kernel
theorem dL_law_353 : decode cL_law 353 = .ok (.iaload, 1) := by decide +kernel
theorem dL_law_354 : decode cL_law 354 = .ok (.invokevirtual 48, 3) := by decide +kernel
theorem dL_law_357 : decode cL_law 357 = .ok (.if_icmp .eq 311, 3) := by decide +kernel
theorem dL_law_360 : decode cL_law 360 = .ok (.iconst 0, 1) := by decide +kernel
theorem dL_law_361 : decode cL_law 361 = .ok (.ireturn, 1) := by decide +kernel
theorem dL_law_362 : decode cL_law 362 = .ok (.aload_n 1, 1) := by decide +kernel
theorem dL_law_363 : decode cL_law 363 = .ok (.aload_n 0, 1) := by decide +kernel
theorem dL_law_364 : decode cL_law 364 = .ok (.iload_n 3, 1) := by decide +kernel
theorem dL_law_365 : decode cL_law 365 = .ok (.iconst 1, 1) := by decide +kernel
theorem dL_law_366 : decode cL_law 366 = .ok (.iadd, 1) := by decide +kernel
theorem dL_law_367 : decode cL_law 367 = .ok (.iaload, 1) := by decide +kernel
theorem dL_law_368 : decode cL_law 368 = .ok (.invokevirtual 49, 3) := by decide +kernel
theorem dL_law_371 : decode cL_law 371 = .ok (.aload_n 2, 1) := by decide +kernel
theorem dL_law_372 : decode cL_law 372 = .ok (.aload_n 0, 1) := by decide +kernel
theorem dL_law_373 : decode cL_law 373 = .ok (.iload_n 3, 1) := by decide +kernel
theorem dL_law_374 : decode cL_law 374 = .ok (.iconst 1, 1) := by decide +kernel
theorem dL_law_375 : decode cL_law 375 = .ok (.iadd, 1) := by decide +kernel
theorem dL_law_376 : decode cL_law 376 = .ok (.iaload, 1) := by decide +kernel
theorem dL_law_377 : decode cL_law 377 = .ok (.invokevirtual 52, 3) := by decide +kernel
theorem dL_law_380 : decode cL_law 380 = .ok (.if_icmp .eq 288, 3) := by decide +kernel
theorem dL_law_383 : decode cL_law 383 = .ok (.iconst 0, 1) := by decide +kernel
theorem dL_law_384 : decode cL_law 384 = .ok (.ireturn, 1) := by decide +kernel
theorem dL_law_385 : decode cL_law 385 = .ok (.aload_n 1, 1) := by decide +kernel
theorem dL_law_386 : decode cL_law 386 = .ok (.aload_n 0, 1) := by decide +kernel
theorem dL_law_387 : decode cL_law 387 = .ok (.iload_n 3, 1) := by decide +kernel
theorem dL_law_388 : decode cL_law 388 = .ok (.iconst 1, 1) := by decide +kernel
theorem dL_law_389 : decode cL_law 389 = .ok (.iadd, 1) := by decide +kernel
theorem dL_law_390 : decode cL_law 390 = .ok (.iaload, 1) := by decide +kernel
theorem dL_law_391 : decode cL_law 391 = .ok (.aload_n 0, 1) := by decide +kernel
theorem dL_law_392 : decode cL_law 392 = .ok (.iload_n 3, 1) := by decide +kernel
theorem dL_law_393 : decode cL_law 393 = .ok (.iconst 2, 1) := by decide +kernel
theorem dL_law_394 : decode cL_law 394 = .ok (.iadd, 1) := by decide +kernel
theorem dL_law_395 : decode cL_law 395 = .ok (.iaload, 1) := by decide +kernel
theorem dL_law_396 : decode cL_law 396 = .ok (.invokevirtual 53, 3) := by decide +kernel
theorem dL_law_399 : decode cL_law 399 = .ok (.aload_n 2, 1) := by decide +kernel
theorem dL_law_400 : decode cL_law 400 = .ok (.aload_n 0, 1) := by decide +kernel
theorem dL_law_401 : decode cL_law 401 = .ok (.iload_n 3, 1) := by decide +kernel
theorem dL_law_402 : decode cL_law 402 = .ok (.iconst 1, 1) := by decide +kernel
theorem dL_law_403 : decode cL_law 403 = .ok (.iadd, 1) := by decide +kernel
theorem dL_law_404 : decode cL_law 404 = .ok (.iaload, 1) := by decide +kernel
theorem dL_law_405 : decode cL_law 405 = .ok (.aload_n 0, 1) := by decide +kernel
theorem dL_law_406 : decode cL_law 406 = .ok (.iload_n 3, 1) := by decide +kernel
theorem dL_law_407 : decode cL_law 407 = .ok (.iconst 2, 1) := by decide +kernel
theorem dL_law_408 : decode cL_law 408 = .ok (.iadd, 1) := by decide +kernel
theorem dL_law_409 : decode cL_law 409 = .ok (.iaload, 1) := by decide +kernel
theorem dL_law_410 : decode cL_law 410 = .ok (.invokevirtual 56, 3) := by decide +kernel
theorem dL_law_413 : decode cL_law 413 = .ok (.if_icmp .eq 255, 3) := by decide +kernel
theorem dL_law_416 : decode cL_law 416 = .ok (.iconst 0, 1) := by decide +kernel
theorem dL_law_417 : decode cL_law 417 = .ok (.ireturn, 1) := by decide +kernel
theorem dL_law_418 : decode cL_law 418 = .ok (.aload_n 1, 1) := by decide +kernel
theorem dL_law_419 : decode cL_law 419 = .ok (.aload_n 0, 1) := by decide +kernel
theorem dL_law_420 : decode cL_law 420 = .ok (.iload_n 3, 1) := by decide +kernel
theorem dL_law_421 : decode cL_law 421 = .ok (.iconst 1, 1) := by decide +kernel
theorem dL_law_422 : decode cL_law 422 = .ok (.iadd, 1) := by decide +kernel
theorem dL_law_423 : decode cL_law 423 = .ok (.iaload, 1) := by decide +kernel
theorem dL_law_424 : decode cL_law 424 = .ok (.aload_n 0, 1) := by decide +kernel
theorem dL_law_425 : decode cL_law 425 = .ok (.iload_n 3, 1) := by decide +kernel
theorem dL_law_426 : decode cL_law 426 = .ok (.iconst 2, 1) := by decide +kernel
theorem dL_law_427 : decode cL_law 427 = .ok (.iadd, 1) := by decide +kernel
theorem dL_law_428 : decode cL_law 428 = .ok (.iaload, 1) := by decide +kernel
theorem dL_law_429 : decode cL_law 429 = .ok (.invokevirtual 57, 3) := by decide +kernel
theorem dL_law_432 : decode cL_law 432 = .ok (.aload_n 2, 1) := by decide +kernel
theorem dL_law_433 : decode cL_law 433 = .ok (.aload_n 0, 1) := by decide +kernel
theorem dL_law_434 : decode cL_law 434 = .ok (.iload_n 3, 1) := by decide +kernel
theorem dL_law_435 : decode cL_law 435 = .ok (.iconst 1, 1) := by decide +kernel
theorem dL_law_436 : decode cL_law 436 = .ok (.iadd, 1) := by decide +kernel
theorem dL_law_437 : decode cL_law 437 = .ok (.iaload, 1) := by decide +kernel
theorem dL_law_438 : decode cL_law 438 = .ok (.aload_n 0, 1) := by decide +kernel
theorem dL_law_439 : decode cL_law 439 = .ok (.iload_n 3, 1) := by decide +kernel
theorem dL_law_440 : decode cL_law 440 = .ok (.iconst 2, 1) := by decide +kernel
theorem dL_law_441 : decode cL_law 441 = .ok (.iadd, 1) := by decide +kernel
theorem dL_law_442 : decode cL_law 442 = .ok (.iaload, 1) := by decide +kernel
theorem dL_law_443 : decode cL_law 443 = .ok (.invokevirtual 60, 3) := by decide +kernel
theorem dL_law_446 : decode cL_law 446 = .ok (.if_icmp .eq 222, 3) := by decide +kernel
theorem dL_law_449 : decode cL_law 449 = .ok (.iconst 0, 1) := by decide +kernel
theorem dL_law_450 : decode cL_law 450 = .ok (.ireturn, 1) := by decide +kernel
theorem dL_law_451 : decode cL_law 451 = .ok (.aload_n 1, 1) := by decide +kernel
theorem dL_law_452 : decode cL_law 452 = .ok (.aload_n 0, 1) := by decide +kernel
theorem dL_law_453 : decode cL_law 453 = .ok (.iload_n 3, 1) := by decide +kernel
theorem dL_law_454 : decode cL_law 454 = .ok (.iconst 1, 1) := by decide +kernel
theorem dL_law_455 : decode cL_law 455 = .ok (.iadd, 1) := by decide +kernel
theorem dL_law_456 : decode cL_law 456 = .ok (.iaload, 1) := by decide +kernel
theorem dL_law_457 : decode cL_law 457 = .ok (.aload_n 0, 1) := by decide +kernel
theorem dL_law_458 : decode cL_law 458 = .ok (.iload_n 3, 1) := by decide +kernel
theorem dL_law_459 : decode cL_law 459 = .ok (.iconst 2, 1) := by decide +kernel
theorem dL_law_460 : decode cL_law 460 = .ok (.iadd, 1) := by decide +kernel
theorem dL_law_461 : decode cL_law 461 = .ok (.iaload, 1) := by decide +kernel
theorem dL_law_462 : decode cL_law 462 = .ok (.invokevirtual 61, 3) := by decide +kernel
theorem dL_law_465 : decode cL_law 465 = .ok (.aload_n 2, 1) := by decide +kernel
theorem dL_law_466 : decode cL_law 466 = .ok (.aload_n 0, 1) := by decide +kernel
theorem dL_law_467 : decode cL_law 467 = .ok (.iload_n 3, 1) := by decide +kernel
theorem dL_law_468 : decode cL_law 468 = .ok (.iconst 1, 1) := by decide +kernel
theorem dL_law_469 : decode cL_law 469 = .ok (.iadd, 1) := by decide +kernel
theorem dL_law_470 : decode cL_law 470 = .ok (.iaload, 1) := by decide +kernel
theorem dL_law_471 : decode cL_law 471 = .ok (.aload_n 0, 1) := by decide +kernel
theorem dL_law_472 : decode cL_law 472 = .ok (.iload_n 3, 1) := by decide +kernel
theorem dL_law_473 : decode cL_law 473 = .ok (.iconst 2, 1) := by decide +kernel
theorem dL_law_474 : decode cL_law 474 = .ok (.iadd, 1) := by decide +kernel
theorem dL_law_475 : decode cL_law 475 = .ok (.iaload, 1) := by decide +kernel
theorem dL_law_476 : decode cL_law 476 = .ok (.invokevirtual 64, 3) := by decide +kernel
theorem dL_law_479 : decode cL_law 479 = .ok (.if_icmp .eq 189, 3) := by decide +kernel
theorem dL_law_482 : decode cL_law 482 = .ok (.iconst 0, 1) := by decide +kernel
theorem dL_law_483 : decode cL_law 483 = .ok (.ireturn, 1) := by decide +kernel
theorem dL_law_484 : decode cL_law 484 = .ok (.aload_n 1, 1) := by decide +kernel
theorem dL_law_485 : decode cL_law 485 = .ok (.aload_n 0, 1) := by decide +kernel
theorem dL_law_486 : decode cL_law 486 = .ok (.iload_n 3, 1) := by decide +kernel
theorem dL_law_487 : decode cL_law 487 = .ok (.iconst 1, 1) := by decide +kernel
theorem dL_law_488 : decode cL_law 488 = .ok (.iadd, 1) := by decide +kernel
theorem dL_law_489 : decode cL_law 489 = .ok (.iaload, 1) := by decide +kernel
theorem dL_law_490 : decode cL_law 490 = .ok (.aload_n 0, 1) := by decide +kernel
theorem dL_law_491 : decode cL_law 491 = .ok (.iload_n 3, 1) := by decide +kernel
theorem dL_law_492 : decode cL_law 492 = .ok (.iconst 2, 1) := by decide +kernel
theorem dL_law_493 : decode cL_law 493 = .ok (.iadd, 1) := by decide +kernel
theorem dL_law_494 : decode cL_law 494 = .ok (.iaload, 1) := by decide +kernel
theorem dL_law_495 : decode cL_law 495 = .ok (.invokevirtual 65, 3) := by decide +kernel
theorem dL_law_498 : decode cL_law 498 = .ok (.aload_n 2, 1) := by decide +kernel
theorem dL_law_499 : decode cL_law 499 = .ok (.aload_n 0, 1) := by decide +kernel
theorem dL_law_500 : decode cL_law 500 = .ok (.iload_n 3, 1) := by decide +kernel
theorem dL_law_501 : decode cL_law 501 = .ok (.iconst 1, 1) := by decide +kernel
theorem dL_law_502 : decode cL_law 502 = .ok (.iadd, 1) := by decide +kernel
theorem dL_law_503 : decode cL_law 503 = .ok (.iaload, 1) := by decide +kernel
theorem dL_law_504 : decode cL_law 504 = .ok (.aload_n 0, 1) := by decide +kernel
theorem dL_law_505 : decode cL_law 505 = .ok (.iload_n 3, 1) := by decide +kernel
theorem dL_law_506 : decode cL_law 506 = .ok (.iconst 2, 1) := by decide +kernel
theorem dL_law_507 : decode cL_law 507 = .ok (.iadd, 1) := by decide +kernel
theorem dL_law_508 : decode cL_law 508 = .ok (.iaload, 1) := by decide +kernel
theorem dL_law_509 : decode cL_law 509 = .ok (.invokevirtual 68, 3) := by decide +kernel
theorem dL_law_512 : decode cL_law 512 = .ok (.if_icmp .eq 156, 3) := by decide +kernel
theorem dL_law_515 : decode cL_law 515 = .ok (.iconst 0, 1) := by decide +kernel
theorem dL_law_516 : decode cL_law 516 = .ok (.ireturn, 1) := by decide +kernel
theorem dL_law_517 : decode cL_law 517 = .ok (.aload_n 1, 1) := by decide +kernel
theorem dL_law_518 : decode cL_law 518 = .ok (.aload_n 0, 1) := by decide +kernel
theorem dL_law_519 : decode cL_law 519 = .ok (.iload_n 3, 1) := by decide +kernel
theorem dL_law_520 : decode cL_law 520 = .ok (.iconst 1, 1) := by decide +kernel
theorem dL_law_521 : decode cL_law 521 = .ok (.iadd, 1) := by decide +kernel
theorem dL_law_522 : decode cL_law 522 = .ok (.iaload, 1) := by decide +kernel
theorem dL_law_523 : decode cL_law 523 = .ok (.i2l, 1) := by decide +kernel
theorem dL_law_524 : decode cL_law 524 = .ok (.bipush 32, 2) := by decide +kernel
theorem dL_law_526 : decode cL_law 526 = .ok (.lshl, 1) := by decide +kernel
theorem dL_law_527 : decode cL_law 527 = .ok (.aload_n 0, 1) := by decide +kernel
theorem dL_law_528 : decode cL_law 528 = .ok (.iload_n 3, 1) := by decide +kernel
theorem dL_law_529 : decode cL_law 529 = .ok (.iconst 2, 1) := by decide +kernel
theorem dL_law_530 : decode cL_law 530 = .ok (.iadd, 1) := by decide +kernel
theorem dL_law_531 : decode cL_law 531 = .ok (.iaload, 1) := by decide +kernel
theorem dL_law_532 : decode cL_law 532 = .ok (.i2l, 1) := by decide +kernel
theorem dL_law_533 : decode cL_law 533 = .ok (.ldc2_w 69, 3) := by decide +kernel
theorem dL_law_536 : decode cL_law 536 = .ok (.land, 1) := by decide +kernel
theorem dL_law_537 : decode cL_law 537 = .ok (.lor, 1) := by decide +kernel
theorem dL_law_538 : decode cL_law 538 = .ok (.invokevirtual 71, 3) := by decide +kernel
theorem dL_law_541 : decode cL_law 541 = .ok (.aload_n 2, 1) := by decide +kernel
theorem dL_law_542 : decode cL_law 542 = .ok (.aload_n 0, 1) := by decide +kernel
theorem dL_law_543 : decode cL_law 543 = .ok (.iload_n 3, 1) := by decide +kernel
theorem dL_law_544 : decode cL_law 544 = .ok (.iconst 1, 1) := by decide +kernel
theorem dL_law_545 : decode cL_law 545 = .ok (.iadd, 1) := by decide +kernel
theorem dL_law_546 : decode cL_law 546 = .ok (.iaload, 1) := by decide +kernel
theorem dL_law_547 : decode cL_law 547 = .ok (.i2l, 1) := by decide +kernel
theorem dL_law_548 : decode cL_law 548 = .ok (.bipush 32, 2) := by decide +kernel
theorem dL_law_550 : decode cL_law 550 = .ok (.lshl, 1) := by decide +kernel
theorem dL_law_551 : decode cL_law 551 = .ok (.aload_n 0, 1) := by decide +kernel
theorem dL_law_552 : decode cL_law 552 = .ok (.iload_n 3, 1) := by decide +kernel
theorem dL_law_553 : decode cL_law 553 = .ok (.iconst 2, 1) := by decide +kernel
theorem dL_law_554 : decode cL_law 554 = .ok (.iadd, 1) := by decide +kernel
theorem dL_law_555 : decode cL_law 555 = .ok (.iaload, 1) := by decide +kernel
theorem dL_law_556 : decode cL_law 556 = .ok (.i2l, 1) := by decide +kernel
theorem dL_law_557 : decode cL_law 557 = .ok (.ldc2_w 69, 3) := by decide +kernel
theorem dL_law_560 : decode cL_law 560 = .ok (.land, 1) := by decide +kernel
theorem dL_law_561 : decode cL_law 561 = .ok (.lor, 1) := by decide +kernel
theorem dL_law_562 : decode cL_law 562 = .ok (.invokevirtual 75, 3) := by decide +kernel
theorem dL_law_565 : decode cL_law 565 = .ok (.if_icmp .eq 103, 3) := by decide +kernel
theorem dL_law_568 : decode cL_law 568 = .ok (.iconst 0, 1) := by decide +kernel
theorem dL_law_569 : decode cL_law 569 = .ok (.ireturn, 1) := by decide +kernel
theorem dL_law_570 : decode cL_law 570 = .ok (.aload_n 1, 1) := by decide +kernel
theorem dL_law_571 : decode cL_law 571 = .ok (.invokevirtual 76, 3) := by decide +kernel
theorem dL_law_574 : decode cL_law 574 = .ok (.aload_n 2, 1) := by decide +kernel
theorem dL_law_575 : decode cL_law 575 = .ok (.invokevirtual 79, 3) := by decide +kernel
theorem dL_law_578 : decode cL_law 578 = .ok (.if_icmp .eq 90, 3) := by decide +kernel
theorem dL_law_581 : decode cL_law 581 = .ok (.iconst 0, 1) := by decide +kernel
theorem dL_law_582 : decode cL_law 582 = .ok (.ireturn, 1) := by decide +kernel
theorem dL_law_583 : decode cL_law 583 = .ok (.aload_n 1, 1) := by decide +kernel
theorem dL_law_584 : decode cL_law 584 = .ok (.invokevirtual 80, 3) := by decide +kernel
theorem dL_law_587 : decode cL_law 587 = .ok (.aload_n 2, 1) := by decide +kernel
theorem dL_law_588 : decode cL_law 588 = .ok (.invokevirtual 83, 3) := by decide +kernel
theorem dL_law_591 : decode cL_law 591 = .ok (.if_icmp .eq 77, 3) := by decide +kernel
theorem dL_law_594 : decode cL_law 594 = .ok (.iconst 0, 1) := by decide +kernel
theorem dL_law_595 : decode cL_law 595 = .ok (.ireturn, 1) := by decide +kernel
theorem dL_law_596 : decode cL_law 596 = .ok (.aload_n 1, 1) := by decide +kernel
theorem dL_law_597 : decode cL_law 597 = .ok (.invokevirtual 84, 3) := by decide +kernel
theorem dL_law_600 : decode cL_law 600 = .ok (.aload_n 2, 1) := by decide +kernel
theorem dL_law_601 : decode cL_law 601 = .ok (.invokevirtual 87, 3) := by decide +kernel
theorem dL_law_604 : decode cL_law 604 = .ok (.if_icmp .eq 64, 3) := by decide +kernel
theorem dL_law_607 : decode cL_law 607 = .ok (.iconst 0, 1) := by decide +kernel
theorem dL_law_608 : decode cL_law 608 = .ok (.ireturn, 1) := by decide +kernel
theorem dL_law_609 : decode cL_law 609 = .ok (.aload_n 1, 1) := by decide +kernel
theorem dL_law_610 : decode cL_law 610 = .ok (.invokevirtual 88, 3) := by decide +kernel
theorem dL_law_613 : decode cL_law 613 = .ok (.aload_n 2, 1) := by decide +kernel
theorem dL_law_614 : decode cL_law 614 = .ok (.invokevirtual 91, 3) := by decide +kernel
theorem dL_law_617 : decode cL_law 617 = .ok (.if_icmp .eq 51, 3) := by decide +kernel
theorem dL_law_620 : decode cL_law 620 = .ok (.iconst 0, 1) := by decide +kernel
theorem dL_law_621 : decode cL_law 621 = .ok (.ireturn, 1) := by decide +kernel
theorem dL_law_622 : decode cL_law 622 = .ok (.aload_n 1, 1) := by decide +kernel
theorem dL_law_623 : decode cL_law 623 = .ok (.aload_n 0, 1) := by decide +kernel
theorem dL_law_624 : decode cL_law 624 = .ok (.iload_n 3, 1) := by decide +kernel
theorem dL_law_625 : decode cL_law 625 = .ok (.iconst 1, 1) := by decide +kernel
theorem dL_law_626 : decode cL_law 626 = .ok (.iadd, 1) := by decide +kernel
theorem dL_law_627 : decode cL_law 627 = .ok (.iaload, 1) := by decide +kernel
theorem dL_law_628 : decode cL_law 628 = .ok (.invokevirtual 92, 3) := by decide +kernel
theorem dL_law_631 : decode cL_law 631 = .ok (.aload_n 2, 1) := by decide +kernel
theorem dL_law_632 : decode cL_law 632 = .ok (.aload_n 0, 1) := by decide +kernel
theorem dL_law_633 : decode cL_law 633 = .ok (.iload_n 3, 1) := by decide +kernel
theorem dL_law_634 : decode cL_law 634 = .ok (.iconst 1, 1) := by decide +kernel
theorem dL_law_635 : decode cL_law 635 = .ok (.iadd, 1) := by decide +kernel
theorem dL_law_636 : decode cL_law 636 = .ok (.iaload, 1) := by decide +kernel
theorem dL_law_637 : decode cL_law 637 = .ok (.invokevirtual 95, 3) := by decide +kernel
theorem dL_law_640 : decode cL_law 640 = .ok (.if_icmp .eq 28, 3) := by decide +kernel
theorem dL_law_643 : decode cL_law 643 = .ok (.iconst 0, 1) := by decide +kernel
theorem dL_law_644 : decode cL_law 644 = .ok (.ireturn, 1) := by decide +kernel
theorem dL_law_645 : decode cL_law 645 = .ok (.aload_n 1, 1) := by decide +kernel
theorem dL_law_646 : decode cL_law 646 = .ok (.aload_n 0, 1) := by decide +kernel
theorem dL_law_647 : decode cL_law 647 = .ok (.iload_n 3, 1) := by decide +kernel
theorem dL_law_648 : decode cL_law 648 = .ok (.iconst 1, 1) := by decide +kernel
theorem dL_law_649 : decode cL_law 649 = .ok (.iadd, 1) := by decide +kernel
theorem dL_law_650 : decode cL_law 650 = .ok (.iaload, 1) := by decide +kernel
theorem dL_law_651 : decode cL_law 651 = .ok (.invokevirtual 96, 3) := by decide +kernel
theorem dL_law_654 : decode cL_law 654 = .ok (.aload_n 2, 1) := by decide +kernel
theorem dL_law_655 : decode cL_law 655 = .ok (.aload_n 0, 1) := by decide +kernel
theorem dL_law_656 : decode cL_law 656 = .ok (.iload_n 3, 1) := by decide +kernel
theorem dL_law_657 : decode cL_law 657 = .ok (.iconst 1, 1) := by decide +kernel
theorem dL_law_658 : decode cL_law 658 = .ok (.iadd, 1) := by decide +kernel
theorem dL_law_659 : decode cL_law 659 = .ok (.iaload, 1) := by decide +kernel
theorem dL_law_660 : decode cL_law 660 = .ok (.invokevirtual 99, 3) := by decide +kernel
theorem dL_law_663 : decode cL_law 663 = .ok (.if_icmp .eq 5, 3) := by decide +kernel
theorem dL_law_666 : decode cL_law 666 = .ok (.iconst 0, 1) := by decide +kernel
theorem dL_law_667 : decode cL_law 667 = .ok (.ireturn, 1) := by decide +kernel
theorem dL_law_668 : decode cL_law 668 = .ok (.iinc 3 4, 3) := by decide +kernel
theorem dL_law_671 : decode cL_law 671 = .ok (.goto (-653), 3) := by decide +kernel
theorem dL_law_674 : decode cL_law 674 = .ok (.iconst 1, 1) := by decide +kernel
theorem dL_law_675 : decode cL_law 675 = .ok (.ireturn, 1) := by decide +kernel
end
section
theorem dX5_init_0 : decode cX5_init 0 = .ok (.aload_n 0, 1) := by decide +kernel
theorem dX5_init_1 : decode cX5_init 1 = .ok (.invokespecial 1, 3) := by decide +kernel
theorem dX5_init_4 : decode cX5_init 4 = .ok (.aload_n 0, 1) := by decide +kernel
theorem dX5_init_5 : decode cX5_init 5 = .ok (.bipush 122, 2) := by decide +kernel
theorem dX5_init_7 : decode cX5_init 7 = .ok (.newarray .int, 2) := by decide +kernel
theorem dX5_init_9 : decode cX5_init 9 = .ok (.putfield 7, 3) := by decide +kernel
theorem dX5_init_12 : decode cX5_init 12 = .ok (.aload_n 0, 1) := by decide +kernel
theorem dX5_init_13 : decode cX5_init 13 = .ok (.sipush 366, 3) := by decide +kernel
theorem dX5_init_16 : decode cX5_init 16 = .ok (.newarray .int, 2) := by decide +kernel
theorem dX5_init_18 : decode cX5_init 18 = .ok (.putfield 13, 3) := by decide +kernel
theorem dX5_init_21 : decode cX5_init 21 = .ok (.aload_n 0, 1) := by decide +kernel
theorem dX5_init_22 : decode cX5_init 22 = .ok (.bipush 122, 2) := by decide +kernel
theorem dX5_init_24 : decode cX5_init 24 = .ok (.newarray .int, 2) := by decide +kernel
theorem dX5_init_26 : decode cX5_init 26 = .ok (.putfield 16, 3) := by decide +kernel
theorem dX5_init_29 : decode cX5_init 29 = .ok (.aload_n 0, 1) := by decide +kernel
theorem dX5_init_30 : decode cX5_init 30 = .ok (.iconst 2, 1) := by decide +kernel
theorem dX5_init_31 : decode cX5_init 31 = .ok (.newarray .boolean, 2) := by decide +kernel
theorem dX5_init_33 : decode cX5_init 33 = .ok (.putfield 19, 3) := by decide +kernel
theorem dX5_init_36 : decode cX5_init 36 = .ok (.aload_n 0, 1) := by decide +kernel
theorem dX5_init_37 : decode cX5_init 37 = .ok (.bipush 80, 2) := by decide +kernel
theorem dX5_init_39 : decode cX5_init 39 = .ok (.newarray .int, 2) := by decide +kernel
theorem dX5_init_41 : decode cX5_init 41 = .ok (.putfield 23, 3) := by decide +kernel
theorem dX5_init_44 : decode cX5_init 44 = .ok (.aload_n 0, 1) := by decide +kernel
theorem dX5_init_45 : decode cX5_init 45 = .ok (.getfield 7, 3) := by decide +kernel
theorem dX5_init_48 : decode cX5_init 48 = .ok (.iconst 0, 1) := by decide +kernel
theorem dX5_init_49 : decode cX5_init 49 = .ok (.bipush 8, 2) := by decide +kernel
theorem dX5_init_51 : decode cX5_init 51 = .ok (.iastore, 1) := by decide +kernel
theorem dX5_init_52 : decode cX5_init 52 = .ok (.aload_n 0, 1) := by decide +kernel
theorem dX5_init_53 : decode cX5_init 53 = .ok (.getfield 7, 3) := by decide +kernel
theorem dX5_init_56 : decode cX5_init 56 = .ok (.iconst 1, 1) := by decide +kernel
theorem dX5_init_57 : decode cX5_init 57 = .ok (.bipush 6, 2) := by decide +kernel
theorem dX5_init_59 : decode cX5_init 59 = .ok (.iastore, 1) := by decide +kernel
theorem dX5_init_60 : decode cX5_init 60 = .ok (.aload_n 0, 1) := by decide +kernel
theorem dX5_init_61 : decode cX5_init 61 = .ok (.getfield 7, 3) := by decide +kernel
theorem dX5_init_64 : decode cX5_init 64 = .ok (.iconst 2, 1) := by decide +kernel
theorem dX5_init_65 : decode cX5_init 65 = .ok (.bipush 8, 2) := by decide +kernel
theorem dX5_init_67 : decode cX5_init 67 = .ok (.iastore, 1) := by decide +kernel
theorem dX5_init_68 : decode cX5_init 68 = .ok (.aload_n 0, 1) := by decide +kernel
theorem dX5_init_69 : decode cX5_init 69 = .ok (.getfield 7, 3) := by decide +kernel
theorem dX5_init_72 : decode cX5_init 72 = .ok (.iconst 3, 1) := by decide +kernel
theorem dX5_init_73 : decode cX5_init 73 = .ok (.bipush 100, 2) := by decide +kernel
theorem dX5_init_75 : decode cX5_init 75 = .ok (.iastore, 1) := by decide +kernel
theorem dX5_init_76 : decode cX5_init 76 = .ok (.aload_n 0, 1) := by decide +kernel
theorem dX5_init_77 : decode cX5_init 77 = .ok (.getfield 7, 3) := by decide +kernel
theorem dX5_init_80 : decode cX5_init 80 = .ok (.iconst 4, 1) := by decide +kernel
theorem dX5_init_81 : decode cX5_init 81 = .ok (.sipush 150, 3) := by decide +kernel
theorem dX5_init_84 : decode cX5_init 84 = .ok (.iastore, 1) := by decide +kernel
theorem dX5_init_85 : decode cX5_init 85 = .ok (.aload_n 0, 1) := by decide +kernel
theorem dX5_init_86 : decode cX5_init 86 = .ok (.getfield 7, 3) := by decide +kernel
theorem dX5_init_89 : decode cX5_init 89 = .ok (.iconst 5, 1) := by decide +kernel
theorem dX5_init_90 : decode cX5_init 90 = .ok (.bipush 12, 2) := by decide +kernel
theorem dX5_init_92 : decode cX5_init 92 = .ok (.iastore, 1) := by decide +kernel
theorem dX5_init_93 : decode cX5_init 93 = .ok (.aload_n 0, 1) := by decide +kernel
theorem dX5_init_94 : decode cX5_init 94 = .ok (.getfield 7, 3) := by decide +kernel
theorem dX5_init_97 : decode cX5_init 97 = .ok (.bipush 6, 2) := by decide +kernel
theorem dX5_init_99 : decode cX5_init 99 = .ok (.iconst 4, 1) := by decide +kernel
theorem dX5_init_100 : decode cX5_init 100 = .ok (.iastore, 1) := by decide +kernel
theorem dX5_init_101 : decode cX5_init 101 = .ok (.aload_n 0, 1) := by decide +kernel
theorem dX5_init_102 : decode cX5_init 102 = .ok (.getfield 7, 3) := by decide +kernel
theorem dX5_init_105 : decode cX5_init 105 = .ok (.bipush 7, 2) := by decide +kernel
theorem dX5_init_107 : decode cX5_init 107 = .ok (.sipush 2048, 3) := by decide +kernel
theorem dX5_init_110 : decode cX5_init 110 = .ok (.iastore, 1) := by decide +kernel
theorem dX5_init_111 : decode cX5_init 111 = .ok (.aload_n 0, 1) := by decide +kernel
theorem dX5_init_112 : decode cX5_init 112 = .ok (.getfield 7, 3) := by decide +kernel
theorem dX5_init_115 : decode cX5_init 115 = .ok (.bipush 8, 2) := by decide +kernel
theorem dX5_init_117 : decode cX5_init 117 = .ok (.sipush 2048, 3) := by decide +kernel
theorem dX5_init_120 : decode cX5_init 120 = .ok (.iastore, 1) := by decide +kernel
theorem dX5_init_121 : decode cX5_init 121 = .ok (.aload_n 0, 1) := by decide +kernel
theorem dX5_init_122 : decode cX5_init 122 = .ok (.getfield 7, 3) := by decide +kernel
theorem dX5_init_125 : decode cX5_init 125 = .ok (.bipush 9, 2) := by decide +kernel
theorem dX5_init_127 : decode cX5_init 127 = .ok (.bipush 6, 2) := by decide +kernel
theorem dX5_init_129 : decode cX5_init 129 = .ok (.iastore, 1) := by decide +kernel
theorem dX5_init_130 : decode cX5_init 130 = .ok (.aload_n 0, 1) := by decide +kernel
theorem dX5_init_131 : decode cX5_init 131 = .ok (.getfield 7, 3) := by decide +kernel
theorem dX5_init_134 : decode cX5_init 134 = .ok (.bipush 10, 2) := by decide +kernel
theorem dX5_init_136 : decode cX5_init 136 = .ok (.iconst (-1), 1) := by decide +kernel
theorem dX5_init_137 : decode cX5_init 137 = .ok (.iastore, 1) := by decide +kernel
theorem dX5_init_138 : decode cX5_init 138 = .ok (.aload_n 0, 1) := by decide +kernel
theorem dX5_init_139 : decode cX5_init 139 = .ok (.getfield 7, 3) := by decide +kernel
theorem dX5_init_142 : decode cX5_init 142 = .ok (.bipush 11, 2) := by decide +kernel
theorem dX5_init_144 : decode cX5_init 144 = .ok (.iconst (-1), 1) := by decide +kernel
theorem dX5_init_145 : decode cX5_init 145 = .ok (.iastore, 1) := by decide +kernel
theorem dX5_init_146 : decode cX5_init 146 = .ok (.aload_n 0, 1) := by decide +kernel
theorem dX5_init_147 : decode cX5_init 147 = .ok (.getfield 7, 3) := by decide +kernel
theorem dX5_init_150 : decode cX5_init 150 = .ok (.bipush 23, 2) := by decide +kernel
theorem dX5_init_152 : decode cX5_init 152 = .ok (.iconst (-1), 1) := by decide +kernel
theorem dX5_init_153 : decode cX5_init 153 = .ok (.iastore, 1) := by decide +kernel
theorem dX5_init_154 : decode cX5_init 154 = .ok (.return_, 1) := by decide +kernel
theorem dX5_in_0 : decode cX5_in 0 = .ok (.iload_n 0, 1) := by decide +kernel
theorem dX5_in_1 : decode cX5_in 1 = .ok (.iload_n 1, 1) := by decide +kernel
theorem dX5_in_2 : decode cX5_in 2 = .ok (.if_icmp .lt 12, 3) := by decide +kernel
theorem dX5_in_5 : decode cX5_in 5 = .ok (.iload_n 0, 1) := by decide +kernel
theorem dX5_in_6 : decode cX5_in 6 = .ok (.iload_n 2, 1) := by decide +kernel
theorem dX5_in_7 : decode cX5_in 7 = .ok (.if_icmp .gt 7, 3) := by decide +kernel
theorem dX5_in_10 : decode cX5_in 10 = .ok (.iconst 1, 1) := by decide +kernel
theorem dX5_in_11 : decode cX5_in 11 = .ok (.goto 4, 3) := by decide +kernel
theorem dX5_in_14 : decode cX5_in 14 = .ok (.iconst 0, 1) := by decide +kernel
theorem dX5_in_15 : decode cX5_in 15 = .ok (.ireturn, 1) := by decide +kernel
theorem dX5_size_0 : decode cX5_size 0 = .ok (.iload_n 0, 1) := by decide +kernel
theorem dX5_size_1 : decode cX5_size 1 = .ok (.ifCond .ge 8, 3) := by decide +kernel
theorem dX5_size_4 : decode cX5_size 4 = .ok (.iload_n 0, 1) := by decide +kernel
theorem dX5_size_5 : decode cX5_size 5 = .ok (.ineg, 1) := by decide +kernel
theorem dX5_size_6 : decode cX5_size 6 = .ok (.goto 4, 3) := by decide +kernel
theorem dX5_size_9 : decode cX5_size 9 = .ok (.iload_n 0, 1) := by decide +kernel
theorem dX5_size_10 : decode cX5_size 10 = .ok (.ireturn, 1) := by decide +kernel
theorem dX5_greater_0 : decode cX5_greater 0 = .ok (.iload_n 0, 1) := by decide +kernel
theorem dX5_greater_1 : decode cX5_greater 1 = .ok (.iload_n 1, 1) := by decide +kernel
theorem dX5_greater_2 : decode cX5_greater 2 = .ok (.if_icmp .le 7, 3) := by decide +kernel
theorem dX5_greater_5 : decode cX5_greater 5 = .ok (.iload_n 0, 1) := by decide +kernel
theorem dX5_greater_6 : decode cX5_greater 6 = .ok (.goto 4, 3) := by decide +kernel
theorem dX5_greater_9 : decode cX5_greater 9 = .ok (.iload_n 1, 1) := by decide +kernel
theorem dX5_greater_10 : decode cX5_greater 10 = .ok (.ireturn, 1) := by decide +kernel
theorem dX5_areRight_0 : decode cX5_areRight 0 = .ok (.iload_n 0, 1) := by decide +kernel
theorem dX5_areRight_1 : decode cX5_areRight 1 = .ok (.iconst 0, 1) := by decide +kernel
theorem dX5_areRight_2 : decode cX5_areRight 2 = .ok (.sipush 255, 3) := by decide +kernel
theorem dX5_areRight_5 : decode cX5_areRight 5 = .ok (.invokestatic 26, 3) := by decide +kernel
theorem dX5_areRight_8 : decode cX5_areRight 8 = .ok (.ifCond .eq 18, 3) := by decide +kernel
theorem dX5_areRight_11 : decode cX5_areRight 11 = .ok (.iload_n 1, 1) := by decide +kernel
theorem dX5_areRight_12 : decode cX5_areRight 12 = .ok (.iconst 0, 1) := by decide +kernel
theorem dX5_areRight_13 : decode cX5_areRight 13 = .ok (.sipush 255, 3) := by decide +kernel
theorem dX5_areRight_16 : decode cX5_areRight 16 = .ok (.invokestatic 26, 3) := by decide +kernel
theorem dX5_areRight_19 : decode cX5_areRight 19 = .ok (.ifCond .eq 7, 3) := by decide +kernel
theorem dX5_areRight_22 : decode cX5_areRight 22 = .ok (.iconst 1, 1) := by decide +kernel
theorem dX5_areRight_23 : decode cX5_areRight 23 = .ok (.goto 4, 3) := by decide +kernel
theorem dX5_areRight_26 : decode cX5_areRight 26 = .ok (.iconst 0, 1) := by decide +kernel
theorem dX5_areRight_27 : decode cX5_areRight 27 = .ok (.ireturn, 1) := by decide +kernel
theorem dX5_remembers_0 : decode cX5_remembers 0 = .ok (.aload_n 0, 1) := by decide +kernel
theorem dX5_remembers_1 : decode cX5_remembers 1 = .ok (.getfield 30, 3) := by decide +kernel
theorem dX5_remembers_4 : decode cX5_remembers 4 = .ok (.bipush 6, 2) := by decide +kernel
theorem dX5_remembers_6 : decode cX5_remembers 6 = .ok (.if_icmp .ne 43, 3) := by decide +kernel
theorem dX5_remembers_9 : decode cX5_remembers 9 = .ok (.iconst 0, 1) := by decide +kernel
theorem dX5_remembers_10 : decode cX5_remembers 10 = .ok (.istore_n 1, 1) := by decide +kernel
theorem dX5_remembers_11 : decode cX5_remembers 11 = .ok (.iload_n 1, 1) := by decide +kernel
theorem dX5_remembers_12 : decode cX5_remembers 12 = .ok (.sipush 305, 3) := by decide +kernel
theorem dX5_remembers_15 : decode cX5_remembers 15 = .ok (.if_icmp .ge 24, 3) := by decide +kernel
theorem dX5_remembers_18 : decode cX5_remembers 18 = .ok (.aload_n 0, 1) := by decide +kernel
theorem dX5_remembers_19 : decode cX5_remembers 19 = .ok (.getfield 13, 3) := by decide +kernel
theorem dX5_remembers_22 : decode cX5_remembers 22 = .ok (.iload_n 1, 1) := by decide +kernel
theorem dX5_remembers_23 : decode cX5_remembers 23 = .ok (.aload_n 0, 1) := by decide +kernel
theorem dX5_remembers_24 : decode cX5_remembers 24 = .ok (.getfield 13, 3) := by decide +kernel
theorem dX5_remembers_27 : decode cX5_remembers 27 = .ok (.bipush 61, 2) := by decide +kernel
theorem dX5_remembers_29 : decode cX5_remembers 29 = .ok (.iload_n 1, 1) := by decide +kernel
theorem dX5_remembers_30 : decode cX5_remembers 30 = .ok (.iadd, 1) := by decide +kernel
theorem dX5_remembers_31 : decode cX5_remembers 31 = .ok (.iaload, 1) := by decide +kernel
theorem dX5_remembers_32 : decode cX5_remembers 32 = .ok (.iastore, 1) := by decide +kernel
theorem dX5_remembers_33 : decode cX5_remembers 33 = .ok (.iinc 1 1, 3) := by decide +kernel
theorem dX5_remembers_36 : decode cX5_remembers 36 = .ok (.goto (-25), 3) := by decide +kernel
theorem dX5_remembers_39 : decode cX5_remembers 39 = .ok (.aload_n 0, 1) := by decide +kernel
theorem dX5_remembers_40 : decode cX5_remembers 40 = .ok (.dup, 1) := by decide +kernel
theorem dX5_remembers_41 : decode cX5_remembers 41 = .ok (.getfield 30, 3) := by decide +kernel
theorem dX5_remembers_44 : decode cX5_remembers 44 = .ok (.iconst 1, 1) := by decide +kernel
theorem dX5_remembers_45 : decode cX5_remembers 45 = .ok (.isub, 1) := by decide +kernel
theorem dX5_remembers_46 : decode cX5_remembers 46 = .ok (.putfield 30, 3) := by decide +kernel
theorem dX5_remembers_49 : decode cX5_remembers 49 = .ok (.iconst 0, 1) := by decide +kernel
theorem dX5_remembers_50 : decode cX5_remembers 50 = .ok (.istore_n 1, 1) := by decide +kernel
theorem dX5_remembers_51 : decode cX5_remembers 51 = .ok (.iload_n 1, 1) := by decide +kernel
theorem dX5_remembers_52 : decode cX5_remembers 52 = .ok (.bipush 61, 2) := by decide +kernel
theorem dX5_remembers_54 : decode cX5_remembers 54 = .ok (.if_icmp .ge 29, 3) := by decide +kernel
theorem dX5_remembers_57 : decode cX5_remembers 57 = .ok (.aload_n 0, 1) := by decide +kernel
theorem dX5_remembers_58 : decode cX5_remembers 58 = .ok (.getfield 13, 3) := by decide +kernel
theorem dX5_remembers_61 : decode cX5_remembers 61 = .ok (.bipush 61, 2) := by decide +kernel
theorem dX5_remembers_63 : decode cX5_remembers 63 = .ok (.aload_n 0, 1) := by decide +kernel
theorem dX5_remembers_64 : decode cX5_remembers 64 = .ok (.getfield 30, 3) := by decide +kernel
theorem dX5_remembers_67 : decode cX5_remembers 67 = .ok (.imul, 1) := by decide +kernel
theorem dX5_remembers_68 : decode cX5_remembers 68 = .ok (.iload_n 1, 1) := by decide +kernel
theorem dX5_remembers_69 : decode cX5_remembers 69 = .ok (.iadd, 1) := by decide +kernel
theorem dX5_remembers_70 : decode cX5_remembers 70 = .ok (.aload_n 0, 1) := by decide +kernel
theorem dX5_remembers_71 : decode cX5_remembers 71 = .ok (.getfield 7, 3) := by decide +kernel
theorem dX5_remembers_74 : decode cX5_remembers 74 = .ok (.iload_n 1, 1) := by decide +kernel
theorem dX5_remembers_75 : decode cX5_remembers 75 = .ok (.iaload, 1) := by decide +kernel
theorem dX5_remembers_76 : decode cX5_remembers 76 = .ok (.iastore, 1) := by decide +kernel
theorem dX5_remembers_77 : decode cX5_remembers 77 = .ok (.iinc 1 1, 3) := by decide +kernel
theorem dX5_remembers_80 : decode cX5_remembers 80 = .ok (.goto (-29), 3) := by decide +kernel
theorem dX5_remembers_83 : decode cX5_remembers 83 = .ok (.aload_n 0, 1) := by decide +kernel
theorem dX5_remembers_84 : decode cX5_remembers 84 = .ok (.dup, 1) := by decide +kernel
theorem dX5_remembers_85 : decode cX5_remembers 85 = .ok (.getfield 30, 3) := by decide +kernel
theorem dX5_remembers_88 : decode cX5_remembers 88 = .ok (.iconst 1, 1) := by decide +kernel
theorem dX5_remembers_89 : decode cX5_remembers 89 = .ok (.iadd, 1) := by decide +kernel
theorem dX5_remembers_90 : decode cX5_remembers 90 = .ok (.putfield 30, 3) := by decide +kernel
theorem dX5_remembers_93 : decode cX5_remembers 93 = .ok (.return_, 1) := by decide +kernel
theorem dX5_copies_0 : decode cX5_copies 0 = .ok (.iconst 0, 1) := by decide +kernel
theorem dX5_copies_1 : decode cX5_copies 1 = .ok (.istore_n 1, 1) := by decide +kernel
theorem dX5_copies_2 : decode cX5_copies 2 = .ok (.iload_n 1, 1) := by decide +kernel
theorem dX5_copies_3 : decode cX5_copies 3 = .ok (.bipush 61, 2) := by decide +kernel
theorem dX5_copies_5 : decode cX5_copies 5 = .ok (.if_icmp .ge 24, 3) := by decide +kernel
theorem dX5_copies_8 : decode cX5_copies 8 = .ok (.aload_n 0, 1) := by decide +kernel
theorem dX5_copies_9 : decode cX5_copies 9 = .ok (.getfield 7, 3) := by decide +kernel
theorem dX5_copies_12 : decode cX5_copies 12 = .ok (.bipush 61, 2) := by decide +kernel
theorem dX5_copies_14 : decode cX5_copies 14 = .ok (.iload_n 1, 1) := by decide +kernel
theorem dX5_copies_15 : decode cX5_copies 15 = .ok (.iadd, 1) := by decide +kernel
theorem dX5_copies_16 : decode cX5_copies 16 = .ok (.aload_n 0, 1) := by decide +kernel
theorem dX5_copies_17 : decode cX5_copies 17 = .ok (.getfield 7, 3) := by decide +kernel
theorem dX5_copies_20 : decode cX5_copies 20 = .ok (.iload_n 1, 1) := by decide +kernel
theorem dX5_copies_21 : decode cX5_copies 21 = .ok (.iaload, 1) := by decide +kernel
theorem dX5_copies_22 : decode cX5_copies 22 = .ok (.iastore, 1) := by decide +kernel
theorem dX5_copies_23 : decode cX5_copies 23 = .ok (.iinc 1 1, 3) := by decide +kernel
theorem dX5_copies_26 : decode cX5_copies 26 = .ok (.goto (-24), 3) := by decide +kernel
theorem dX5_copies_29 : decode cX5_copies 29 = .ok (.return_, 1) := by decide +kernel
theorem dX5_off_0 : decode cX5_off 0 = .ok (.iload_n 3, 1) := by decide +kernel
theorem dX5_off_1 : decode cX5_off 1 = .ok (.aload_n 0, 1) := by decide +kernel
theorem dX5_off_2 : decode cX5_off 2 = .ok (.getfield 7, 3) := by decide +kernel
theorem dX5_off_5 : decode cX5_off 5 = .ok (.iload_n 1, 1) := by decide +kernel
theorem dX5_off_6 : decode cX5_off 6 = .ok (.bipush 7, 2) := by decide +kernel
theorem dX5_off_8 : decode cX5_off 8 = .ok (.iadd, 1) := by decide +kernel
theorem dX5_off_9 : decode cX5_off 9 = .ok (.iload_n 2, 1) := by decide +kernel
theorem dX5_off_10 : decode cX5_off 10 = .ok (.iadd, 1) := by decide +kernel
theorem dX5_off_11 : decode cX5_off 11 = .ok (.iaload, 1) := by decide +kernel
theorem dX5_off_12 : decode cX5_off 12 = .ok (.bipush 16, 2) := by decide +kernel
theorem dX5_off_14 : decode cX5_off 14 = .ok (.idiv, 1) := by decide +kernel
theorem dX5_off_15 : decode cX5_off 15 = .ok (.isub, 1) := by decide +kernel
theorem dX5_off_16 : decode cX5_off 16 = .ok (.ireturn, 1) := by decide +kernel
theorem dX5_far_0 : decode cX5_far 0 = .ok (.aload_n 0, 1) := by decide +kernel
theorem dX5_far_1 : decode cX5_far 1 = .ok (.iload_n 1, 1) := by decide +kernel
theorem dX5_far_2 : decode cX5_far 2 = .ok (.iconst 0, 1) := by decide +kernel
theorem dX5_far_3 : decode cX5_far 3 = .ok (.iload_n 2, 1) := by decide +kernel
theorem dX5_far_4 : decode cX5_far 4 = .ok (.invokevirtual 34, 3) := by decide +kernel
theorem dX5_far_7 : decode cX5_far 7 = .ok (.invokestatic 38, 3) := by decide +kernel
theorem dX5_far_10 : decode cX5_far 10 = .ok (.aload_n 0, 1) := by decide +kernel
theorem dX5_far_11 : decode cX5_far 11 = .ok (.iload_n 1, 1) := by decide +kernel
theorem dX5_far_12 : decode cX5_far 12 = .ok (.iconst 1, 1) := by decide +kernel
theorem dX5_far_13 : decode cX5_far 13 = .ok (.iload_n 3, 1) := by decide +kernel
theorem dX5_far_14 : decode cX5_far 14 = .ok (.invokevirtual 34, 3) := by decide +kernel
theorem dX5_far_17 : decode cX5_far 17 = .ok (.invokestatic 38, 3) := by decide +kernel
theorem dX5_far_20 : decode cX5_far 20 = .ok (.invokestatic 42, 3) := by decide +kernel
theorem dX5_far_23 : decode cX5_far 23 = .ok (.ireturn, 1) := by decide +kernel
theorem dX5_isTelling_0 : decode cX5_isTelling 0 = .ok (.aload_n 0, 1) := by decide +kernel
theorem dX5_isTelling_1 : decode cX5_isTelling 1 = .ok (.getfield 7, 3) := by decide +kernel
theorem dX5_isTelling_4 : decode cX5_isTelling 4 = .ok (.iload_n 1, 1) := by decide +kernel
theorem dX5_isTelling_5 : decode cX5_isTelling 5 = .ok (.bipush 14, 2) := by decide +kernel
theorem dX5_isTelling_7 : decode cX5_isTelling 7 = .ok (.iadd, 1) := by decide +kernel
theorem dX5_isTelling_8 : decode cX5_isTelling 8 = .ok (.iaload, 1) := by decide +kernel
theorem dX5_isTelling_9 : decode cX5_isTelling 9 = .ok (.ifCond .ne 17, 3) := by decide +kernel
theorem dX5_isTelling_12 : decode cX5_isTelling 12 = .ok (.aload_n 0, 1) := by decide +kernel
theorem dX5_isTelling_13 : decode cX5_isTelling 13 = .ok (.getfield 7, 3) := by decide +kernel
theorem dX5_isTelling_16 : decode cX5_isTelling 16 = .ok (.iload_n 1, 1) := by decide +kernel
theorem dX5_isTelling_17 : decode cX5_isTelling 17 = .ok (.bipush 14, 2) := by decide +kernel
theorem dX5_isTelling_19 : decode cX5_isTelling 19 = .ok (.iadd, 1) := by decide +kernel
theorem dX5_isTelling_20 : decode cX5_isTelling 20 = .ok (.iconst 1, 1) := by decide +kernel
theorem dX5_isTelling_21 : decode cX5_isTelling 21 = .ok (.iadd, 1) := by decide +kernel
theorem dX5_isTelling_22 : decode cX5_isTelling 22 = .ok (.iaload, 1) := by decide +kernel
theorem dX5_isTelling_23 : decode cX5_isTelling 23 = .ok (.ifCond .eq 7, 3) := by decide +kernel
theorem dX5_isTelling_26 : decode cX5_isTelling 26 = .ok (.iconst 1, 1) := by decide +kernel
theorem dX5_isTelling_27 : decode cX5_isTelling 27 = .ok (.goto 4, 3) := by decide +kernel
theorem dX5_isTelling_30 : decode cX5_isTelling 30 = .ok (.iconst 0, 1) := by decide +kernel
theorem dX5_isTelling_31 : decode cX5_isTelling 31 = .ok (.ireturn, 1) := by decide +kernel
theorem dX5_learns_0 : decode cX5_learns 0 = .ok (.aload_n 0, 1) := by decide +kernel
theorem dX5_learns_1 : decode cX5_learns 1 = .ok (.getfield 7, 3) := by decide +kernel
theorem dX5_learns_4 : decode cX5_learns 4 = .ok (.iload_n 1, 1) := by decide +kernel
theorem dX5_learns_5 : decode cX5_learns 5 = .ok (.bipush 7, 2) := by decide +kernel
theorem dX5_learns_7 : decode cX5_learns 7 = .ok (.iadd, 1) := by decide +kernel
theorem dX5_learns_8 : decode cX5_learns 8 = .ok (.iload_n 2, 1) := by decide +kernel
theorem dX5_learns_9 : decode cX5_learns 9 = .ok (.iadd, 1) := by decide +kernel
theorem dX5_learns_10 : decode cX5_learns 10 = .ok (.dup2, 1) := by decide +kernel
theorem dX5_learns_11 : decode cX5_learns 11 = .ok (.iaload, 1) := by decide +kernel
theorem dX5_learns_12 : decode cX5_learns 12 = .ok (.bipush 16, 2) := by decide +kernel
theorem dX5_learns_14 : decode cX5_learns 14 = .ok (.iload_n 3, 1) := by decide +kernel
theorem dX5_learns_15 : decode cX5_learns 15 = .ok (.imul, 1) := by decide +kernel
theorem dX5_learns_16 : decode cX5_learns 16 = .ok (.aload_n 0, 1) := by decide +kernel
theorem dX5_learns_17 : decode cX5_learns 17 = .ok (.getfield 7, 3) := by decide +kernel
theorem dX5_learns_20 : decode cX5_learns 20 = .ok (.iload_n 1, 1) := by decide +kernel
theorem dX5_learns_21 : decode cX5_learns 21 = .ok (.bipush 7, 2) := by decide +kernel
theorem dX5_learns_23 : decode cX5_learns 23 = .ok (.iadd, 1) := by decide +kernel
theorem dX5_learns_24 : decode cX5_learns 24 = .ok (.iload_n 2, 1) := by decide +kernel
theorem dX5_learns_25 : decode cX5_learns 25 = .ok (.iadd, 1) := by decide +kernel
theorem dX5_learns_26 : decode cX5_learns 26 = .ok (.iaload, 1) := by decide +kernel
theorem dX5_learns_27 : decode cX5_learns 27 = .ok (.isub, 1) := by decide +kernel
theorem dX5_learns_28 : decode cX5_learns 28 = .ok (.aload_n 0, 1) := by decide +kernel
theorem dX5_learns_29 : decode cX5_learns 29 = .ok (.getfield 7, 3) := by decide +kernel
theorem dX5_learns_32 : decode cX5_learns 32 = .ok (.iload_n 1, 1) := by decide +kernel
theorem dX5_learns_33 : decode cX5_learns 33 = .ok (.iconst 0, 1) := by decide +kernel
theorem dX5_learns_34 : decode cX5_learns 34 = .ok (.iadd, 1) := by decide +kernel
theorem dX5_learns_35 : decode cX5_learns 35 = .ok (.iaload, 1) := by decide +kernel
theorem dX5_learns_36 : decode cX5_learns 36 = .ok (.idiv, 1) := by decide +kernel
theorem dX5_learns_37 : decode cX5_learns 37 = .ok (.iadd, 1) := by decide +kernel
theorem dX5_learns_38 : decode cX5_learns 38 = .ok (.iastore, 1) := by decide +kernel
theorem dX5_learns_39 : decode cX5_learns 39 = .ok (.return_, 1) := by decide +kernel
theorem dX5_rests_0 : decode cX5_rests 0 = .ok (.aload_n 0, 1) := by decide +kernel
theorem dX5_rests_1 : decode cX5_rests 1 = .ok (.iload_n 1, 1) := by decide +kernel
theorem dX5_rests_2 : decode cX5_rests 2 = .ok (.invokevirtual 46, 3) := by decide +kernel
theorem dX5_rests_5 : decode cX5_rests 5 = .ok (.ifCond .eq 16, 3) := by decide +kernel
theorem dX5_rests_8 : decode cX5_rests 8 = .ok (.aload_n 0, 1) := by decide +kernel
theorem dX5_rests_9 : decode cX5_rests 9 = .ok (.getfield 7, 3) := by decide +kernel
theorem dX5_rests_12 : decode cX5_rests 12 = .ok (.iload_n 1, 1) := by decide +kernel
theorem dX5_rests_13 : decode cX5_rests 13 = .ok (.bipush 16, 2) := by decide +kernel
theorem dX5_rests_15 : decode cX5_rests 15 = .ok (.iadd, 1) := by decide +kernel
theorem dX5_rests_16 : decode cX5_rests 16 = .ok (.dup2, 1) := by decide +kernel
theorem dX5_rests_17 : decode cX5_rests 17 = .ok (.iaload, 1) := by decide +kernel
theorem dX5_rests_18 : decode cX5_rests 18 = .ok (.iconst 1, 1) := by decide +kernel
theorem dX5_rests_19 : decode cX5_rests 19 = .ok (.iadd, 1) := by decide +kernel
theorem dX5_rests_20 : decode cX5_rests 20 = .ok (.iastore, 1) := by decide +kernel
theorem dX5_rests_21 : decode cX5_rests 21 = .ok (.aload_n 0, 1) := by decide +kernel
theorem dX5_rests_22 : decode cX5_rests 22 = .ok (.getfield 7, 3) := by decide +kernel
theorem dX5_rests_25 : decode cX5_rests 25 = .ok (.iload_n 1, 1) := by decide +kernel
theorem dX5_rests_26 : decode cX5_rests 26 = .ok (.bipush 14, 2) := by decide +kernel
theorem dX5_rests_28 : decode cX5_rests 28 = .ok (.iadd, 1) := by decide +kernel
theorem dX5_rests_29 : decode cX5_rests 29 = .ok (.iconst 0, 1) := by decide +kernel
theorem dX5_rests_30 : decode cX5_rests 30 = .ok (.iastore, 1) := by decide +kernel
theorem dX5_rests_31 : decode cX5_rests 31 = .ok (.aload_n 0, 1) := by decide +kernel
theorem dX5_rests_32 : decode cX5_rests 32 = .ok (.getfield 7, 3) := by decide +kernel
theorem dX5_rests_35 : decode cX5_rests 35 = .ok (.iload_n 1, 1) := by decide +kernel
theorem dX5_rests_36 : decode cX5_rests 36 = .ok (.bipush 14, 2) := by decide +kernel
theorem dX5_rests_38 : decode cX5_rests 38 = .ok (.iadd, 1) := by decide +kernel
theorem dX5_rests_39 : decode cX5_rests 39 = .ok (.iconst 1, 1) := by decide +kernel
theorem dX5_rests_40 : decode cX5_rests 40 = .ok (.iadd, 1) := by decide +kernel
theorem dX5_rests_41 : decode cX5_rests 41 = .ok (.iconst 0, 1) := by decide +kernel
theorem dX5_rests_42 : decode cX5_rests 42 = .ok (.iastore, 1) := by decide +kernel
theorem dX5_rests_43 : decode cX5_rests 43 = .ok (.aload_n 0, 1) := by decide +kernel
theorem dX5_rests_44 : decode cX5_rests 44 = .ok (.getfield 7, 3) := by decide +kernel
theorem dX5_rests_47 : decode cX5_rests 47 = .ok (.iload_n 1, 1) := by decide +kernel
theorem dX5_rests_48 : decode cX5_rests 48 = .ok (.bipush 13, 2) := by decide +kernel
theorem dX5_rests_50 : decode cX5_rests 50 = .ok (.iadd, 1) := by decide +kernel
theorem dX5_rests_51 : decode cX5_rests 51 = .ok (.iaload, 1) := by decide +kernel
theorem dX5_rests_52 : decode cX5_rests 52 = .ok (.ifCond .le 17, 3) := by decide +kernel
theorem dX5_rests_55 : decode cX5_rests 55 = .ok (.aload_n 0, 1) := by decide +kernel
theorem dX5_rests_56 : decode cX5_rests 56 = .ok (.getfield 7, 3) := by decide +kernel
theorem dX5_rests_59 : decode cX5_rests 59 = .ok (.iload_n 1, 1) := by decide +kernel
theorem dX5_rests_60 : decode cX5_rests 60 = .ok (.bipush 20, 2) := by decide +kernel
theorem dX5_rests_62 : decode cX5_rests 62 = .ok (.iadd, 1) := by decide +kernel
theorem dX5_rests_63 : decode cX5_rests 63 = .ok (.dup2, 1) := by decide +kernel
theorem dX5_rests_64 : decode cX5_rests 64 = .ok (.iaload, 1) := by decide +kernel
theorem dX5_rests_65 : decode cX5_rests 65 = .ok (.iconst 1, 1) := by decide +kernel
theorem dX5_rests_66 : decode cX5_rests 66 = .ok (.iadd, 1) := by decide +kernel
theorem dX5_rests_67 : decode cX5_rests 67 = .ok (.iastore, 1) := by decide +kernel
theorem dX5_rests_68 : decode cX5_rests 68 = .ok (.return_, 1) := by decide +kernel
theorem dX5_rests_69 : decode cX5_rests 69 = .ok (.aload_n 0, 1) := by decide +kernel
theorem dX5_rests_70 : decode cX5_rests 70 = .ok (.iload_n 1, 1) := by decide +kernel
theorem dX5_rests_71 : decode cX5_rests 71 = .ok (.iload_n 2, 1) := by decide +kernel
theorem dX5_rests_72 : decode cX5_rests 72 = .ok (.iload_n 3, 1) := by decide +kernel
theorem dX5_rests_73 : decode cX5_rests 73 = .ok (.invokevirtual 50, 3) := by decide +kernel
theorem dX5_rests_76 : decode cX5_rests 76 = .ok (.istore 4, 2) := by decide +kernel
theorem dX5_rests_78 : decode cX5_rests 78 = .ok (.aload_n 0, 1) := by decide +kernel
theorem dX5_rests_79 : decode cX5_rests 79 = .ok (.getfield 7, 3) := by decide +kernel
theorem dX5_rests_82 : decode cX5_rests 82 = .ok (.iload_n 1, 1) := by decide +kernel
theorem dX5_rests_83 : decode cX5_rests 83 = .ok (.bipush 9, 2) := by decide +kernel
theorem dX5_rests_85 : decode cX5_rests 85 = .ok (.iadd, 1) := by decide +kernel
theorem dX5_rests_86 : decode cX5_rests 86 = .ok (.iaload, 1) := by decide +kernel
theorem dX5_rests_87 : decode cX5_rests 87 = .ok (.istore 5, 2) := by decide +kernel
theorem dX5_rests_89 : decode cX5_rests 89 = .ok (.iconst 2, 1) := by decide +kernel
theorem dX5_rests_90 : decode cX5_rests 90 = .ok (.iload 4, 2) := by decide +kernel
theorem dX5_rests_92 : decode cX5_rests 92 = .ok (.imul, 1) := by decide +kernel
theorem dX5_rests_93 : decode cX5_rests 93 = .ok (.iload 5, 2) := by decide +kernel
theorem dX5_rests_95 : decode cX5_rests 95 = .ok (.if_icmp .le 38, 3) := by decide +kernel
theorem dX5_rests_98 : decode cX5_rests 98 = .ok (.iload 5, 2) := by decide +kernel
theorem dX5_rests_100 : decode cX5_rests 100 = .ok (.aload_n 0, 1) := by decide +kernel
theorem dX5_rests_101 : decode cX5_rests 101 = .ok (.getfield 7, 3) := by decide +kernel
theorem dX5_rests_104 : decode cX5_rests 104 = .ok (.iload_n 1, 1) := by decide +kernel
theorem dX5_rests_105 : decode cX5_rests 105 = .ok (.iconst 1, 1) := by decide +kernel
theorem dX5_rests_106 : decode cX5_rests 106 = .ok (.iadd, 1) := by decide +kernel
theorem dX5_rests_107 : decode cX5_rests 107 = .ok (.iaload, 1) := by decide +kernel
theorem dX5_rests_108 : decode cX5_rests 108 = .ok (.aload_n 0, 1) := by decide +kernel
theorem dX5_rests_109 : decode cX5_rests 109 = .ok (.getfield 7, 3) := by decide +kernel
theorem dX5_rests_112 : decode cX5_rests 112 = .ok (.iload_n 1, 1) := by decide +kernel
theorem dX5_rests_113 : decode cX5_rests 113 = .ok (.iconst 2, 1) := by decide +kernel
theorem dX5_rests_114 : decode cX5_rests 114 = .ok (.iadd, 1) := by decide +kernel
theorem dX5_rests_115 : decode cX5_rests 115 = .ok (.iaload, 1) := by decide +kernel
theorem dX5_rests_116 : decode cX5_rests 116 = .ok (.iadd, 1) := by decide +kernel
theorem dX5_rests_117 : decode cX5_rests 117 = .ok (.if_icmp .ge 16, 3) := by decide +kernel
theorem dX5_rests_120 : decode cX5_rests 120 = .ok (.aload_n 0, 1) := by decide +kernel
theorem dX5_rests_121 : decode cX5_rests 121 = .ok (.getfield 7, 3) := by decide +kernel
theorem dX5_rests_124 : decode cX5_rests 124 = .ok (.iload_n 1, 1) := by decide +kernel
theorem dX5_rests_125 : decode cX5_rests 125 = .ok (.bipush 9, 2) := by decide +kernel
theorem dX5_rests_127 : decode cX5_rests 127 = .ok (.iadd, 1) := by decide +kernel
theorem dX5_rests_128 : decode cX5_rests 128 = .ok (.dup2, 1) := by decide +kernel
theorem dX5_rests_129 : decode cX5_rests 129 = .ok (.iaload, 1) := by decide +kernel
theorem dX5_rests_130 : decode cX5_rests 130 = .ok (.iconst 1, 1) := by decide +kernel
theorem dX5_rests_131 : decode cX5_rests 131 = .ok (.iadd, 1) := by decide +kernel
theorem dX5_rests_132 : decode cX5_rests 132 = .ok (.iastore, 1) := by decide +kernel
theorem dX5_rests_133 : decode cX5_rests 133 = .ok (.iconst 4, 1) := by decide +kernel
theorem dX5_rests_134 : decode cX5_rests 134 = .ok (.iload 4, 2) := by decide +kernel
theorem dX5_rests_136 : decode cX5_rests 136 = .ok (.imul, 1) := by decide +kernel
theorem dX5_rests_137 : decode cX5_rests 137 = .ok (.iload 5, 2) := by decide +kernel
theorem dX5_rests_139 : decode cX5_rests 139 = .ok (.if_icmp .gt 29, 3) := by decide +kernel
theorem dX5_rests_142 : decode cX5_rests 142 = .ok (.iload 5, 2) := by decide +kernel
theorem dX5_rests_144 : decode cX5_rests 144 = .ok (.aload_n 0, 1) := by decide +kernel
theorem dX5_rests_145 : decode cX5_rests 145 = .ok (.getfield 7, 3) := by decide +kernel
theorem dX5_rests_148 : decode cX5_rests 148 = .ok (.iload_n 1, 1) := by decide +kernel
theorem dX5_rests_149 : decode cX5_rests 149 = .ok (.iconst 1, 1) := by decide +kernel
theorem dX5_rests_150 : decode cX5_rests 150 = .ok (.iadd, 1) := by decide +kernel
theorem dX5_rests_151 : decode cX5_rests 151 = .ok (.iaload, 1) := by decide +kernel
theorem dX5_rests_152 : decode cX5_rests 152 = .ok (.if_icmp .le 16, 3) := by decide +kernel
theorem dX5_rests_155 : decode cX5_rests 155 = .ok (.aload_n 0, 1) := by decide +kernel
theorem dX5_rests_156 : decode cX5_rests 156 = .ok (.getfield 7, 3) := by decide +kernel
theorem dX5_rests_159 : decode cX5_rests 159 = .ok (.iload_n 1, 1) := by decide +kernel
theorem dX5_rests_160 : decode cX5_rests 160 = .ok (.bipush 9, 2) := by decide +kernel
theorem dX5_rests_162 : decode cX5_rests 162 = .ok (.iadd, 1) := by decide +kernel
theorem dX5_rests_163 : decode cX5_rests 163 = .ok (.dup2, 1) := by decide +kernel
theorem dX5_rests_164 : decode cX5_rests 164 = .ok (.iaload, 1) := by decide +kernel
theorem dX5_rests_165 : decode cX5_rests 165 = .ok (.iconst 1, 1) := by decide +kernel
theorem dX5_rests_166 : decode cX5_rests 166 = .ok (.isub, 1) := by decide +kernel
theorem dX5_rests_167 : decode cX5_rests 167 = .ok (.iastore, 1) := by decide +kernel
theorem dX5_rests_168 : decode cX5_rests 168 = .ok (.aload_n 0, 1) := by decide +kernel
theorem dX5_rests_169 : decode cX5_rests 169 = .ok (.iload_n 1, 1) := by decide +kernel
theorem dX5_rests_170 : decode cX5_rests 170 = .ok (.iconst 0, 1) := by decide +kernel
theorem dX5_rests_171 : decode cX5_rests 171 = .ok (.iload_n 2, 1) := by decide +kernel
theorem dX5_rests_172 : decode cX5_rests 172 = .ok (.invokevirtual 53, 3) := by decide +kernel
theorem dX5_rests_175 : decode cX5_rests 175 = .ok (.aload_n 0, 1) := by decide +kernel
theorem dX5_rests_176 : decode cX5_rests 176 = .ok (.iload_n 1, 1) := by decide +kernel
theorem dX5_rests_177 : decode cX5_rests 177 = .ok (.iconst 1, 1) := by decide +kernel
theorem dX5_rests_178 : decode cX5_rests 178 = .ok (.iload_n 3, 1) := by decide +kernel
theorem dX5_rests_179 : decode cX5_rests 179 = .ok (.invokevirtual 53, 3) := by decide +kernel
theorem dX5_rests_182 : decode cX5_rests 182 = .ok (.return_, 1) := by decide +kernel
theorem dX5_axis_0 : decode cX5_axis 0 = .ok (.aload_n 0, 1) := by decide +kernel
theorem dX5_axis_1 : decode cX5_axis 1 = .ok (.getfield 7, 3) := by decide +kernel
theorem dX5_axis_4 : decode cX5_axis 4 = .ok (.iload_n 1, 1) := by decide +kernel
theorem dX5_axis_5 : decode cX5_axis 5 = .ok (.bipush 9, 2) := by decide +kernel
theorem dX5_axis_7 : decode cX5_axis 7 = .ok (.iadd, 1) := by decide +kernel
theorem dX5_axis_8 : decode cX5_axis 8 = .ok (.iaload, 1) := by decide +kernel
theorem dX5_axis_9 : decode cX5_axis 9 = .ok (.istore_n 3, 1) := by decide +kernel
theorem dX5_axis_10 : decode cX5_axis 10 = .ok (.iload_n 2, 1) := by decide +kernel
theorem dX5_axis_11 : decode cX5_axis 11 = .ok (.invokestatic 38, 3) := by decide +kernel
theorem dX5_axis_14 : decode cX5_axis 14 = .ok (.iload_n 3, 1) := by decide +kernel
theorem dX5_axis_15 : decode cX5_axis 15 = .ok (.if_icmp .gt 5, 3) := by decide +kernel
theorem dX5_axis_18 : decode cX5_axis 18 = .ok (.iconst 0, 1) := by decide +kernel
theorem dX5_axis_19 : decode cX5_axis 19 = .ok (.ireturn, 1) := by decide +kernel
theorem dX5_axis_20 : decode cX5_axis 20 = .ok (.iload_n 2, 1) := by decide +kernel
theorem dX5_axis_21 : decode cX5_axis 21 = .ok (.invokestatic 38, 3) := by decide +kernel
theorem dX5_axis_24 : decode cX5_axis 24 = .ok (.iload_n 3, 1) := by decide +kernel
theorem dX5_axis_25 : decode cX5_axis 25 = .ok (.isub, 1) := by decide +kernel
theorem dX5_axis_26 : decode cX5_axis 26 = .ok (.bipush 100, 2) := by decide +kernel
theorem dX5_axis_28 : decode cX5_axis 28 = .ok (.imul, 1) := by decide +kernel
theorem dX5_axis_29 : decode cX5_axis 29 = .ok (.aload_n 0, 1) := by decide +kernel
theorem dX5_axis_30 : decode cX5_axis 30 = .ok (.getfield 7, 3) := by decide +kernel
theorem dX5_axis_33 : decode cX5_axis 33 = .ok (.iload_n 1, 1) := by decide +kernel
theorem dX5_axis_34 : decode cX5_axis 34 = .ok (.iconst 3, 1) := by decide +kernel
theorem dX5_axis_35 : decode cX5_axis 35 = .ok (.iadd, 1) := by decide +kernel
theorem dX5_axis_36 : decode cX5_axis 36 = .ok (.iaload, 1) := by decide +kernel
theorem dX5_axis_37 : decode cX5_axis 37 = .ok (.iload_n 3, 1) := by decide +kernel
theorem dX5_axis_38 : decode cX5_axis 38 = .ok (.isub, 1) := by decide +kernel
theorem dX5_axis_39 : decode cX5_axis 39 = .ok (.idiv, 1) := by decide +kernel
theorem dX5_axis_40 : decode cX5_axis 40 = .ok (.istore 4, 2) := by decide +kernel
theorem dX5_axis_42 : decode cX5_axis 42 = .ok (.iload 4, 2) := by decide +kernel
theorem dX5_axis_44 : decode cX5_axis 44 = .ok (.bipush 100, 2) := by decide +kernel
theorem dX5_axis_46 : decode cX5_axis 46 = .ok (.if_icmp .le 8, 3) := by decide +kernel
theorem dX5_axis_49 : decode cX5_axis 49 = .ok (.bipush 100, 2) := by decide +kernel
theorem dX5_axis_51 : decode cX5_axis 51 = .ok (.goto 5, 3) := by decide +kernel
theorem dX5_axis_54 : decode cX5_axis 54 = .ok (.iload 4, 2) := by decide +kernel
theorem dX5_axis_56 : decode cX5_axis 56 = .ok (.istore 4, 2) := by decide +kernel
theorem dX5_axis_58 : decode cX5_axis 58 = .ok (.iload_n 2, 1) := by decide +kernel
theorem dX5_axis_59 : decode cX5_axis 59 = .ok (.ifCond .ge 9, 3) := by decide +kernel
theorem dX5_axis_62 : decode cX5_axis 62 = .ok (.iload 4, 2) := by decide +kernel
theorem dX5_axis_64 : decode cX5_axis 64 = .ok (.ineg, 1) := by decide +kernel
theorem dX5_axis_65 : decode cX5_axis 65 = .ok (.goto 5, 3) := by decide +kernel
theorem dX5_axis_68 : decode cX5_axis 68 = .ok (.iload 4, 2) := by decide +kernel
theorem dX5_axis_70 : decode cX5_axis 70 = .ok (.ireturn, 1) := by decide +kernel
theorem dX5_tells_0 : decode cX5_tells 0 = .ok (.aload_n 0, 1) := by decide +kernel
theorem dX5_tells_1 : decode cX5_tells 1 = .ok (.iload_n 1, 1) := by decide +kernel
theorem dX5_tells_2 : decode cX5_tells 2 = .ok (.aload_n 0, 1) := by decide +kernel
theorem dX5_tells_3 : decode cX5_tells 3 = .ok (.iload_n 1, 1) := by decide +kernel
theorem dX5_tells_4 : decode cX5_tells 4 = .ok (.iconst 0, 1) := by decide +kernel
theorem dX5_tells_5 : decode cX5_tells 5 = .ok (.iload_n 2, 1) := by decide +kernel
theorem dX5_tells_6 : decode cX5_tells 6 = .ok (.invokevirtual 34, 3) := by decide +kernel
theorem dX5_tells_9 : decode cX5_tells 9 = .ok (.invokevirtual 57, 3) := by decide +kernel
theorem dX5_tells_12 : decode cX5_tells 12 = .ok (.istore 4, 2) := by decide +kernel
theorem dX5_tells_14 : decode cX5_tells 14 = .ok (.aload_n 0, 1) := by decide +kernel
theorem dX5_tells_15 : decode cX5_tells 15 = .ok (.iload_n 1, 1) := by decide +kernel
theorem dX5_tells_16 : decode cX5_tells 16 = .ok (.aload_n 0, 1) := by decide +kernel
theorem dX5_tells_17 : decode cX5_tells 17 = .ok (.iload_n 1, 1) := by decide +kernel
theorem dX5_tells_18 : decode cX5_tells 18 = .ok (.iconst 1, 1) := by decide +kernel
theorem dX5_tells_19 : decode cX5_tells 19 = .ok (.iload_n 3, 1) := by decide +kernel
theorem dX5_tells_20 : decode cX5_tells 20 = .ok (.invokevirtual 34, 3) := by decide +kernel
theorem dX5_tells_23 : decode cX5_tells 23 = .ok (.invokevirtual 57, 3) := by decide +kernel
theorem dX5_tells_26 : decode cX5_tells 26 = .ok (.istore 5, 2) := by decide +kernel
theorem dX5_tells_28 : decode cX5_tells 28 = .ok (.iload 4, 2) := by decide +kernel
theorem dX5_tells_30 : decode cX5_tells 30 = .ok (.invokestatic 38, 3) := by decide +kernel
theorem dX5_tells_33 : decode cX5_tells 33 = .ok (.iload 5, 2) := by decide +kernel
theorem dX5_tells_35 : decode cX5_tells 35 = .ok (.invokestatic 38, 3) := by decide +kernel
theorem dX5_tells_38 : decode cX5_tells 38 = .ok (.iadd, 1) := by decide +kernel
theorem dX5_tells_39 : decode cX5_tells 39 = .ok (.istore 6, 2) := by decide +kernel
theorem dX5_tells_41 : decode cX5_tells 41 = .ok (.iload 6, 2) := by decide +kernel
theorem dX5_tells_43 : decode cX5_tells 43 = .ok (.aload_n 0, 1) := by decide +kernel
theorem dX5_tells_44 : decode cX5_tells 44 = .ok (.getfield 7, 3) := by decide +kernel
theorem dX5_tells_47 : decode cX5_tells 47 = .ok (.iload_n 1, 1) := by decide +kernel
theorem dX5_tells_48 : decode cX5_tells 48 = .ok (.iconst 4, 1) := by decide +kernel
theorem dX5_tells_49 : decode cX5_tells 49 = .ok (.iadd, 1) := by decide +kernel
theorem dX5_tells_50 : decode cX5_tells 50 = .ok (.iaload, 1) := by decide +kernel
theorem dX5_tells_51 : decode cX5_tells 51 = .ok (.if_icmp .le 7, 3) := by decide +kernel
theorem dX5_tells_54 : decode cX5_tells 54 = .ok (.iconst 1, 1) := by decide +kernel
theorem dX5_tells_55 : decode cX5_tells 55 = .ok (.goto 4, 3) := by decide +kernel
theorem dX5_tells_58 : decode cX5_tells 58 = .ok (.iconst 0, 1) := by decide +kernel
theorem dX5_tells_59 : decode cX5_tells 59 = .ok (.istore 7, 2) := by decide +kernel
theorem dX5_tells_61 : decode cX5_tells 61 = .ok (.aload_n 0, 1) := by decide +kernel
theorem dX5_tells_62 : decode cX5_tells 62 = .ok (.getfield 7, 3) := by decide +kernel
theorem dX5_tells_65 : decode cX5_tells 65 = .ok (.iload_n 1, 1) := by decide +kernel
theorem dX5_tells_66 : decode cX5_tells 66 = .ok (.bipush 14, 2) := by decide +kernel
theorem dX5_tells_68 : decode cX5_tells 68 = .ok (.iadd, 1) := by decide +kernel
theorem dX5_tells_69 : decode cX5_tells 69 = .ok (.iload 7, 2) := by decide +kernel
theorem dX5_tells_71 : decode cX5_tells 71 = .ok (.ifCond .eq 20, 3) := by decide +kernel
theorem dX5_tells_74 : decode cX5_tells 74 = .ok (.iload 4, 2) := by decide +kernel
theorem dX5_tells_76 : decode cX5_tells 76 = .ok (.aload_n 0, 1) := by decide +kernel
theorem dX5_tells_77 : decode cX5_tells 77 = .ok (.getfield 7, 3) := by decide +kernel
theorem dX5_tells_80 : decode cX5_tells 80 = .ok (.iload_n 1, 1) := by decide +kernel
theorem dX5_tells_81 : decode cX5_tells 81 = .ok (.iconst 4, 1) := by decide +kernel
theorem dX5_tells_82 : decode cX5_tells 82 = .ok (.iadd, 1) := by decide +kernel
theorem dX5_tells_83 : decode cX5_tells 83 = .ok (.iaload, 1) := by decide +kernel
theorem dX5_tells_84 : decode cX5_tells 84 = .ok (.imul, 1) := by decide +kernel
theorem dX5_tells_85 : decode cX5_tells 85 = .ok (.iload 6, 2) := by decide +kernel
theorem dX5_tells_87 : decode cX5_tells 87 = .ok (.idiv, 1) := by decide +kernel
theorem dX5_tells_88 : decode cX5_tells 88 = .ok (.goto 5, 3) := by decide +kernel
theorem dX5_tells_91 : decode cX5_tells 91 = .ok (.iload 4, 2) := by decide +kernel
theorem dX5_tells_93 : decode cX5_tells 93 = .ok (.iastore, 1) := by decide +kernel
theorem dX5_tells_94 : decode cX5_tells 94 = .ok (.aload_n 0, 1) := by decide +kernel
theorem dX5_tells_95 : decode cX5_tells 95 = .ok (.getfield 7, 3) := by decide +kernel
theorem dX5_tells_98 : decode cX5_tells 98 = .ok (.iload_n 1, 1) := by decide +kernel
theorem dX5_tells_99 : decode cX5_tells 99 = .ok (.bipush 14, 2) := by decide +kernel
theorem dX5_tells_101 : decode cX5_tells 101 = .ok (.iadd, 1) := by decide +kernel
theorem dX5_tells_102 : decode cX5_tells 102 = .ok (.iconst 1, 1) := by decide +kernel
theorem dX5_tells_103 : decode cX5_tells 103 = .ok (.iadd, 1) := by decide +kernel
theorem dX5_tells_104 : decode cX5_tells 104 = .ok (.iload 7, 2) := by decide +kernel
theorem dX5_tells_106 : decode cX5_tells 106 = .ok (.ifCond .eq 20, 3) := by decide +kernel
theorem dX5_tells_109 : decode cX5_tells 109 = .ok (.iload 5, 2) := by decide +kernel
theorem dX5_tells_111 : decode cX5_tells 111 = .ok (.aload_n 0, 1) := by decide +kernel
theorem dX5_tells_112 : decode cX5_tells 112 = .ok (.getfield 7, 3) := by decide +kernel
theorem dX5_tells_115 : decode cX5_tells 115 = .ok (.iload_n 1, 1) := by decide +kernel
theorem dX5_tells_116 : decode cX5_tells 116 = .ok (.iconst 4, 1) := by decide +kernel
theorem dX5_tells_117 : decode cX5_tells 117 = .ok (.iadd, 1) := by decide +kernel
theorem dX5_tells_118 : decode cX5_tells 118 = .ok (.iaload, 1) := by decide +kernel
theorem dX5_tells_119 : decode cX5_tells 119 = .ok (.imul, 1) := by decide +kernel
theorem dX5_tells_120 : decode cX5_tells 120 = .ok (.iload 6, 2) := by decide +kernel
theorem dX5_tells_122 : decode cX5_tells 122 = .ok (.idiv, 1) := by decide +kernel
theorem dX5_tells_123 : decode cX5_tells 123 = .ok (.goto 5, 3) := by decide +kernel
theorem dX5_tells_126 : decode cX5_tells 126 = .ok (.iload 5, 2) := by decide +kernel
theorem dX5_tells_128 : decode cX5_tells 128 = .ok (.iastore, 1) := by decide +kernel
theorem dX5_tells_129 : decode cX5_tells 129 = .ok (.aload_n 0, 1) := by decide +kernel
theorem dX5_tells_130 : decode cX5_tells 130 = .ok (.getfield 7, 3) := by decide +kernel
theorem dX5_tells_133 : decode cX5_tells 133 = .ok (.iload_n 1, 1) := by decide +kernel
theorem dX5_tells_134 : decode cX5_tells 134 = .ok (.bipush 13, 2) := by decide +kernel
theorem dX5_tells_136 : decode cX5_tells 136 = .ok (.iadd, 1) := by decide +kernel
theorem dX5_tells_137 : decode cX5_tells 137 = .ok (.iaload, 1) := by decide +kernel
theorem dX5_tells_138 : decode cX5_tells 138 = .ok (.ifCond .ne 49, 3) := by decide +kernel
theorem dX5_tells_141 : decode cX5_tells 141 = .ok (.aload_n 0, 1) := by decide +kernel
theorem dX5_tells_142 : decode cX5_tells 142 = .ok (.getfield 7, 3) := by decide +kernel
theorem dX5_tells_145 : decode cX5_tells 145 = .ok (.iload_n 1, 1) := by decide +kernel
theorem dX5_tells_146 : decode cX5_tells 146 = .ok (.bipush 12, 2) := by decide +kernel
theorem dX5_tells_148 : decode cX5_tells 148 = .ok (.iadd, 1) := by decide +kernel
theorem dX5_tells_149 : decode cX5_tells 149 = .ok (.iaload, 1) := by decide +kernel
theorem dX5_tells_150 : decode cX5_tells 150 = .ok (.aload_n 0, 1) := by decide +kernel
theorem dX5_tells_151 : decode cX5_tells 151 = .ok (.getfield 7, 3) := by decide +kernel
theorem dX5_tells_154 : decode cX5_tells 154 = .ok (.iload_n 1, 1) := by decide +kernel
theorem dX5_tells_155 : decode cX5_tells 155 = .ok (.iconst 5, 1) := by decide +kernel
theorem dX5_tells_156 : decode cX5_tells 156 = .ok (.iadd, 1) := by decide +kernel
theorem dX5_tells_157 : decode cX5_tells 157 = .ok (.iaload, 1) := by decide +kernel
theorem dX5_tells_158 : decode cX5_tells 158 = .ok (.if_icmp .lt 29, 3) := by decide +kernel
theorem dX5_tells_161 : decode cX5_tells 161 = .ok (.aload_n 0, 1) := by decide +kernel
theorem dX5_tells_162 : decode cX5_tells 162 = .ok (.iload_n 1, 1) := by decide +kernel
theorem dX5_tells_163 : decode cX5_tells 163 = .ok (.iload_n 2, 1) := by decide +kernel
theorem dX5_tells_164 : decode cX5_tells 164 = .ok (.iload_n 3, 1) := by decide +kernel
theorem dX5_tells_165 : decode cX5_tells 165 = .ok (.invokevirtual 50, 3) := by decide +kernel
theorem dX5_tells_168 : decode cX5_tells 168 = .ok (.aload_n 0, 1) := by decide +kernel
theorem dX5_tells_169 : decode cX5_tells 169 = .ok (.getfield 7, 3) := by decide +kernel
theorem dX5_tells_172 : decode cX5_tells 172 = .ok (.iload_n 1, 1) := by decide +kernel
theorem dX5_tells_173 : decode cX5_tells 173 = .ok (.bipush 9, 2) := by decide +kernel
theorem dX5_tells_175 : decode cX5_tells 175 = .ok (.iadd, 1) := by decide +kernel
theorem dX5_tells_176 : decode cX5_tells 176 = .ok (.iaload, 1) := by decide +kernel
theorem dX5_tells_177 : decode cX5_tells 177 = .ok (.bipush 8, 2) := by decide +kernel
theorem dX5_tells_179 : decode cX5_tells 179 = .ok (.iadd, 1) := by decide +kernel
theorem dX5_tells_180 : decode cX5_tells 180 = .ok (.if_icmp .gt 7, 3) := by decide +kernel
theorem dX5_tells_183 : decode cX5_tells 183 = .ok (.iconst 1, 1) := by decide +kernel
theorem dX5_tells_184 : decode cX5_tells 184 = .ok (.goto 4, 3) := by decide +kernel
theorem dX5_tells_187 : decode cX5_tells 187 = .ok (.iconst 0, 1) := by decide +kernel
theorem dX5_tells_188 : decode cX5_tells 188 = .ok (.istore 8, 2) := by decide +kernel
theorem dX5_tells_190 : decode cX5_tells 190 = .ok (.iload 8, 2) := by decide +kernel
theorem dX5_tells_192 : decode cX5_tells 192 = .ok (.ifCond .eq 76, 3) := by decide +kernel
theorem dX5_tells_195 : decode cX5_tells 195 = .ok (.aload_n 0, 1) := by decide +kernel
theorem dX5_tells_196 : decode cX5_tells 196 = .ok (.getfield 7, 3) := by decide +kernel
theorem dX5_tells_199 : decode cX5_tells 199 = .ok (.iload_n 1, 1) := by decide +kernel
theorem dX5_tells_200 : decode cX5_tells 200 = .ok (.bipush 7, 2) := by decide +kernel
theorem dX5_tells_202 : decode cX5_tells 202 = .ok (.iadd, 1) := by decide +kernel
theorem dX5_tells_203 : decode cX5_tells 203 = .ok (.bipush 16, 2) := by decide +kernel
theorem dX5_tells_205 : decode cX5_tells 205 = .ok (.iload_n 2, 1) := by decide +kernel
theorem dX5_tells_206 : decode cX5_tells 206 = .ok (.imul, 1) := by decide +kernel
theorem dX5_tells_207 : decode cX5_tells 207 = .ok (.iastore, 1) := by decide +kernel
theorem dX5_tells_208 : decode cX5_tells 208 = .ok (.aload_n 0, 1) := by decide +kernel
theorem dX5_tells_209 : decode cX5_tells 209 = .ok (.getfield 7, 3) := by decide +kernel
theorem dX5_tells_212 : decode cX5_tells 212 = .ok (.iload_n 1, 1) := by decide +kernel
theorem dX5_tells_213 : decode cX5_tells 213 = .ok (.bipush 7, 2) := by decide +kernel
theorem dX5_tells_215 : decode cX5_tells 215 = .ok (.iadd, 1) := by decide +kernel
theorem dX5_tells_216 : decode cX5_tells 216 = .ok (.iconst 1, 1) := by decide +kernel
theorem dX5_tells_217 : decode cX5_tells 217 = .ok (.iadd, 1) := by decide +kernel
theorem dX5_tells_218 : decode cX5_tells 218 = .ok (.bipush 16, 2) := by decide +kernel
theorem dX5_tells_220 : decode cX5_tells 220 = .ok (.iload_n 3, 1) := by decide +kernel
theorem dX5_tells_221 : decode cX5_tells 221 = .ok (.imul, 1) := by decide +kernel
theorem dX5_tells_222 : decode cX5_tells 222 = .ok (.iastore, 1) := by decide +kernel
theorem dX5_tells_223 : decode cX5_tells 223 = .ok (.aload_n 0, 1) := by decide +kernel
theorem dX5_tells_224 : decode cX5_tells 224 = .ok (.getfield 7, 3) := by decide +kernel
theorem dX5_tells_227 : decode cX5_tells 227 = .ok (.iload_n 1, 1) := by decide +kernel
theorem dX5_tells_228 : decode cX5_tells 228 = .ok (.bipush 12, 2) := by decide +kernel
theorem dX5_tells_230 : decode cX5_tells 230 = .ok (.iadd, 1) := by decide +kernel
theorem dX5_tells_231 : decode cX5_tells 231 = .ok (.iconst 0, 1) := by decide +kernel
theorem dX5_tells_232 : decode cX5_tells 232 = .ok (.iastore, 1) := by decide +kernel
theorem dX5_tells_233 : decode cX5_tells 233 = .ok (.aload_n 0, 1) := by decide +kernel
theorem dX5_tells_234 : decode cX5_tells 234 = .ok (.getfield 7, 3) := by decide +kernel
theorem dX5_tells_237 : decode cX5_tells 237 = .ok (.iload_n 1, 1) := by decide +kernel
theorem dX5_tells_238 : decode cX5_tells 238 = .ok (.bipush 14, 2) := by decide +kernel
theorem dX5_tells_240 : decode cX5_tells 240 = .ok (.iadd, 1) := by decide +kernel
theorem dX5_tells_241 : decode cX5_tells 241 = .ok (.iconst 0, 1) := by decide +kernel
theorem dX5_tells_242 : decode cX5_tells 242 = .ok (.iastore, 1) := by decide +kernel
theorem dX5_tells_243 : decode cX5_tells 243 = .ok (.aload_n 0, 1) := by decide +kernel
theorem dX5_tells_244 : decode cX5_tells 244 = .ok (.getfield 7, 3) := by decide +kernel
theorem dX5_tells_247 : decode cX5_tells 247 = .ok (.iload_n 1, 1) := by decide +kernel
theorem dX5_tells_248 : decode cX5_tells 248 = .ok (.bipush 14, 2) := by decide +kernel
theorem dX5_tells_250 : decode cX5_tells 250 = .ok (.iadd, 1) := by decide +kernel
theorem dX5_tells_251 : decode cX5_tells 251 = .ok (.iconst 1, 1) := by decide +kernel
theorem dX5_tells_252 : decode cX5_tells 252 = .ok (.iadd, 1) := by decide +kernel
theorem dX5_tells_253 : decode cX5_tells 253 = .ok (.iconst 0, 1) := by decide +kernel
theorem dX5_tells_254 : decode cX5_tells 254 = .ok (.iastore, 1) := by decide +kernel
theorem dX5_tells_255 : decode cX5_tells 255 = .ok (.aload_n 0, 1) := by decide +kernel
theorem dX5_tells_256 : decode cX5_tells 256 = .ok (.getfield 7, 3) := by decide +kernel
theorem dX5_tells_259 : decode cX5_tells 259 = .ok (.iload_n 1, 1) := by decide +kernel
theorem dX5_tells_260 : decode cX5_tells 260 = .ok (.bipush 17, 2) := by decide +kernel
theorem dX5_tells_262 : decode cX5_tells 262 = .ok (.iadd, 1) := by decide +kernel
theorem dX5_tells_263 : decode cX5_tells 263 = .ok (.dup2, 1) := by decide +kernel
theorem dX5_tells_264 : decode cX5_tells 264 = .ok (.iaload, 1) := by decide +kernel
theorem dX5_tells_265 : decode cX5_tells 265 = .ok (.iconst 1, 1) := by decide +kernel
theorem dX5_tells_266 : decode cX5_tells 266 = .ok (.iadd, 1) := by decide +kernel
theorem dX5_tells_267 : decode cX5_tells 267 = .ok (.iastore, 1) := by decide +kernel
theorem dX5_tells_268 : decode cX5_tells 268 = .ok (.return_, 1) := by decide +kernel
theorem dX5_sign_0 : decode cX5_sign 0 = .ok (.iload_n 0, 1) := by decide +kernel
theorem dX5_sign_1 : decode cX5_sign 1 = .ok (.ifCond .le 7, 3) := by decide +kernel
theorem dX5_sign_4 : decode cX5_sign 4 = .ok (.iconst 2, 1) := by decide +kernel
theorem dX5_sign_5 : decode cX5_sign 5 = .ok (.goto 12, 3) := by decide +kernel
theorem dX5_sign_8 : decode cX5_sign 8 = .ok (.iload_n 0, 1) := by decide +kernel
theorem dX5_sign_9 : decode cX5_sign 9 = .ok (.ifCond .ge 7, 3) := by decide +kernel
theorem dX5_sign_12 : decode cX5_sign 12 = .ok (.iconst 0, 1) := by decide +kernel
theorem dX5_sign_13 : decode cX5_sign 13 = .ok (.goto 4, 3) := by decide +kernel
theorem dX5_sign_16 : decode cX5_sign 16 = .ok (.iconst 1, 1) := by decide +kernel
theorem dX5_sign_17 : decode cX5_sign 17 = .ok (.ireturn, 1) := by decide +kernel
theorem dX5_counts_0 : decode cX5_counts 0 = .ok (.aload_n 0, 1) := by decide +kernel
theorem dX5_counts_1 : decode cX5_counts 1 = .ok (.getfield 7, 3) := by decide +kernel
theorem dX5_counts_4 : decode cX5_counts 4 = .ok (.iload_n 1, 1) := by decide +kernel
theorem dX5_counts_5 : decode cX5_counts 5 = .ok (.bipush 14, 2) := by decide +kernel
theorem dX5_counts_7 : decode cX5_counts 7 = .ok (.iadd, 1) := by decide +kernel
theorem dX5_counts_8 : decode cX5_counts 8 = .ok (.iaload, 1) := by decide +kernel
theorem dX5_counts_9 : decode cX5_counts 9 = .ok (.invokestatic 60, 3) := by decide +kernel
theorem dX5_counts_12 : decode cX5_counts 12 = .ok (.istore_n 2, 1) := by decide +kernel
theorem dX5_counts_13 : decode cX5_counts 13 = .ok (.aload_n 0, 1) := by decide +kernel
theorem dX5_counts_14 : decode cX5_counts 14 = .ok (.getfield 7, 3) := by decide +kernel
theorem dX5_counts_17 : decode cX5_counts 17 = .ok (.iload_n 1, 1) := by decide +kernel
theorem dX5_counts_18 : decode cX5_counts 18 = .ok (.bipush 14, 2) := by decide +kernel
theorem dX5_counts_20 : decode cX5_counts 20 = .ok (.iadd, 1) := by decide +kernel
theorem dX5_counts_21 : decode cX5_counts 21 = .ok (.iconst 1, 1) := by decide +kernel
theorem dX5_counts_22 : decode cX5_counts 22 = .ok (.iadd, 1) := by decide +kernel
theorem dX5_counts_23 : decode cX5_counts 23 = .ok (.iaload, 1) := by decide +kernel
theorem dX5_counts_24 : decode cX5_counts 24 = .ok (.invokestatic 60, 3) := by decide +kernel
theorem dX5_counts_27 : decode cX5_counts 27 = .ok (.istore_n 3, 1) := by decide +kernel
theorem dX5_counts_28 : decode cX5_counts 28 = .ok (.iconst 0, 1) := by decide +kernel
theorem dX5_counts_29 : decode cX5_counts 29 = .ok (.istore 4, 2) := by decide +kernel
theorem dX5_counts_31 : decode cX5_counts 31 = .ok (.iload 4, 2) := by decide +kernel
theorem dX5_counts_33 : decode cX5_counts 33 = .ok (.aload_n 0, 1) := by decide +kernel
theorem dX5_counts_34 : decode cX5_counts 34 = .ok (.getfield 7, 3) := by decide +kernel
theorem dX5_counts_37 : decode cX5_counts 37 = .ok (.iload_n 1, 1) := by decide +kernel
theorem dX5_counts_38 : decode cX5_counts 38 = .ok (.bipush 22, 2) := by decide +kernel
theorem dX5_counts_40 : decode cX5_counts 40 = .ok (.iadd, 1) := by decide +kernel
theorem dX5_counts_41 : decode cX5_counts 41 = .ok (.iaload, 1) := by decide +kernel
theorem dX5_counts_42 : decode cX5_counts 42 = .ok (.if_icmp .ge 47, 3) := by decide +kernel
theorem dX5_counts_45 : decode cX5_counts 45 = .ok (.aload_n 0, 1) := by decide +kernel
theorem dX5_counts_46 : decode cX5_counts 46 = .ok (.getfield 7, 3) := by decide +kernel
theorem dX5_counts_49 : decode cX5_counts 49 = .ok (.iload_n 1, 1) := by decide +kernel
theorem dX5_counts_50 : decode cX5_counts 50 = .ok (.bipush 25, 2) := by decide +kernel
theorem dX5_counts_52 : decode cX5_counts 52 = .ok (.iadd, 1) := by decide +kernel
theorem dX5_counts_53 : decode cX5_counts 53 = .ok (.iconst 4, 1) := by decide +kernel
theorem dX5_counts_54 : decode cX5_counts 54 = .ok (.iload 4, 2) := by decide +kernel
theorem dX5_counts_56 : decode cX5_counts 56 = .ok (.imul, 1) := by decide +kernel
theorem dX5_counts_57 : decode cX5_counts 57 = .ok (.iadd, 1) := by decide +kernel
theorem dX5_counts_58 : decode cX5_counts 58 = .ok (.iaload, 1) := by decide +kernel
theorem dX5_counts_59 : decode cX5_counts 59 = .ok (.iload_n 2, 1) := by decide +kernel
theorem dX5_counts_60 : decode cX5_counts 60 = .ok (.if_icmp .ne 23, 3) := by decide +kernel
theorem dX5_counts_63 : decode cX5_counts 63 = .ok (.aload_n 0, 1) := by decide +kernel
theorem dX5_counts_64 : decode cX5_counts 64 = .ok (.getfield 7, 3) := by decide +kernel
theorem dX5_counts_67 : decode cX5_counts 67 = .ok (.iload_n 1, 1) := by decide +kernel
theorem dX5_counts_68 : decode cX5_counts 68 = .ok (.bipush 25, 2) := by decide +kernel
theorem dX5_counts_70 : decode cX5_counts 70 = .ok (.iadd, 1) := by decide +kernel
theorem dX5_counts_71 : decode cX5_counts 71 = .ok (.iconst 4, 1) := by decide +kernel
theorem dX5_counts_72 : decode cX5_counts 72 = .ok (.iload 4, 2) := by decide +kernel
theorem dX5_counts_74 : decode cX5_counts 74 = .ok (.imul, 1) := by decide +kernel
theorem dX5_counts_75 : decode cX5_counts 75 = .ok (.iadd, 1) := by decide +kernel
theorem dX5_counts_76 : decode cX5_counts 76 = .ok (.iconst 1, 1) := by decide +kernel
theorem dX5_counts_77 : decode cX5_counts 77 = .ok (.iadd, 1) := by decide +kernel
theorem dX5_counts_78 : decode cX5_counts 78 = .ok (.iaload, 1) := by decide +kernel
theorem dX5_counts_79 : decode cX5_counts 79 = .ok (.iload_n 3, 1) := by decide +kernel
theorem dX5_counts_80 : decode cX5_counts 80 = .ok (.if_icmp .eq 9, 3) := by decide +kernel
theorem dX5_counts_83 : decode cX5_counts 83 = .ok (.iinc 4 1, 3) := by decide +kernel
theorem dX5_counts_86 : decode cX5_counts 86 = .ok (.goto (-55), 3) := by decide +kernel
theorem dX5_counts_89 : decode cX5_counts 89 = .ok (.iload_n 1, 1) := by decide +kernel
theorem dX5_counts_90 : decode cX5_counts 90 = .ok (.bipush 25, 2) := by decide +kernel
theorem dX5_counts_92 : decode cX5_counts 92 = .ok (.iadd, 1) := by decide +kernel
theorem dX5_counts_93 : decode cX5_counts 93 = .ok (.iconst 4, 1) := by decide +kernel
theorem dX5_counts_94 : decode cX5_counts 94 = .ok (.iload 4, 2) := by decide +kernel
theorem dX5_counts_96 : decode cX5_counts 96 = .ok (.imul, 1) := by decide +kernel
theorem dX5_counts_97 : decode cX5_counts 97 = .ok (.iadd, 1) := by decide +kernel
theorem dX5_counts_98 : decode cX5_counts 98 = .ok (.istore 5, 2) := by decide +kernel
theorem dX5_counts_100 : decode cX5_counts 100 = .ok (.iload 4, 2) := by decide +kernel
theorem dX5_counts_102 : decode cX5_counts 102 = .ok (.aload_n 0, 1) := by decide +kernel
theorem dX5_counts_103 : decode cX5_counts 103 = .ok (.getfield 7, 3) := by decide +kernel
theorem dX5_counts_106 : decode cX5_counts 106 = .ok (.iload_n 1, 1) := by decide +kernel
theorem dX5_counts_107 : decode cX5_counts 107 = .ok (.bipush 22, 2) := by decide +kernel
theorem dX5_counts_109 : decode cX5_counts 109 = .ok (.iadd, 1) := by decide +kernel
theorem dX5_counts_110 : decode cX5_counts 110 = .ok (.iaload, 1) := by decide +kernel
theorem dX5_counts_111 : decode cX5_counts 111 = .ok (.if_icmp .ne 54, 3) := by decide +kernel
theorem dX5_counts_114 : decode cX5_counts 114 = .ok (.aload_n 0, 1) := by decide +kernel
theorem dX5_counts_115 : decode cX5_counts 115 = .ok (.getfield 7, 3) := by decide +kernel
theorem dX5_counts_118 : decode cX5_counts 118 = .ok (.iload_n 1, 1) := by decide +kernel
theorem dX5_counts_119 : decode cX5_counts 119 = .ok (.bipush 22, 2) := by decide +kernel
theorem dX5_counts_121 : decode cX5_counts 121 = .ok (.iadd, 1) := by decide +kernel
theorem dX5_counts_122 : decode cX5_counts 122 = .ok (.dup2, 1) := by decide +kernel
theorem dX5_counts_123 : decode cX5_counts 123 = .ok (.iaload, 1) := by decide +kernel
theorem dX5_counts_124 : decode cX5_counts 124 = .ok (.iconst 1, 1) := by decide +kernel
theorem dX5_counts_125 : decode cX5_counts 125 = .ok (.iadd, 1) := by decide +kernel
theorem dX5_counts_126 : decode cX5_counts 126 = .ok (.iastore, 1) := by decide +kernel
theorem dX5_counts_127 : decode cX5_counts 127 = .ok (.aload_n 0, 1) := by decide +kernel
theorem dX5_counts_128 : decode cX5_counts 128 = .ok (.getfield 7, 3) := by decide +kernel
theorem dX5_counts_131 : decode cX5_counts 131 = .ok (.iload 5, 2) := by decide +kernel
theorem dX5_counts_133 : decode cX5_counts 133 = .ok (.iload_n 2, 1) := by decide +kernel
theorem dX5_counts_134 : decode cX5_counts 134 = .ok (.iastore, 1) := by decide +kernel
theorem dX5_counts_135 : decode cX5_counts 135 = .ok (.aload_n 0, 1) := by decide +kernel
theorem dX5_counts_136 : decode cX5_counts 136 = .ok (.getfield 7, 3) := by decide +kernel
theorem dX5_counts_139 : decode cX5_counts 139 = .ok (.iload 5, 2) := by decide +kernel
theorem dX5_counts_141 : decode cX5_counts 141 = .ok (.iconst 1, 1) := by decide +kernel
theorem dX5_counts_142 : decode cX5_counts 142 = .ok (.iadd, 1) := by decide +kernel
theorem dX5_counts_143 : decode cX5_counts 143 = .ok (.iload_n 3, 1) := by decide +kernel
theorem dX5_counts_144 : decode cX5_counts 144 = .ok (.iastore, 1) := by decide +kernel
theorem dX5_counts_145 : decode cX5_counts 145 = .ok (.aload_n 0, 1) := by decide +kernel
theorem dX5_counts_146 : decode cX5_counts 146 = .ok (.getfield 7, 3) := by decide +kernel
theorem dX5_counts_149 : decode cX5_counts 149 = .ok (.iload 5, 2) := by decide +kernel
theorem dX5_counts_151 : decode cX5_counts 151 = .ok (.iconst 2, 1) := by decide +kernel
theorem dX5_counts_152 : decode cX5_counts 152 = .ok (.iadd, 1) := by decide +kernel
theorem dX5_counts_153 : decode cX5_counts 153 = .ok (.iconst 0, 1) := by decide +kernel
theorem dX5_counts_154 : decode cX5_counts 154 = .ok (.iastore, 1) := by decide +kernel
theorem dX5_counts_155 : decode cX5_counts 155 = .ok (.aload_n 0, 1) := by decide +kernel
theorem dX5_counts_156 : decode cX5_counts 156 = .ok (.getfield 7, 3) := by decide +kernel
theorem dX5_counts_159 : decode cX5_counts 159 = .ok (.iload 5, 2) := by decide +kernel
theorem dX5_counts_161 : decode cX5_counts 161 = .ok (.iconst 3, 1) := by decide +kernel
theorem dX5_counts_162 : decode cX5_counts 162 = .ok (.iadd, 1) := by decide +kernel
theorem dX5_counts_163 : decode cX5_counts 163 = .ok (.iconst 0, 1) := by decide +kernel
theorem dX5_counts_164 : decode cX5_counts 164 = .ok (.iastore, 1) := by decide +kernel
theorem dX5_counts_165 : decode cX5_counts 165 = .ok (.aload_n 0, 1) := by decide +kernel
theorem dX5_counts_166 : decode cX5_counts 166 = .ok (.getfield 7, 3) := by decide +kernel
theorem dX5_counts_169 : decode cX5_counts 169 = .ok (.iload_n 1, 1) := by decide +kernel
theorem dX5_counts_170 : decode cX5_counts 170 = .ok (.bipush 24, 2) := by decide +kernel
theorem dX5_counts_172 : decode cX5_counts 172 = .ok (.iadd, 1) := by decide +kernel
theorem dX5_counts_173 : decode cX5_counts 173 = .ok (.iload 4, 2) := by decide +kernel
theorem dX5_counts_175 : decode cX5_counts 175 = .ok (.aload_n 0, 1) := by decide +kernel
theorem dX5_counts_176 : decode cX5_counts 176 = .ok (.getfield 7, 3) := by decide +kernel
theorem dX5_counts_179 : decode cX5_counts 179 = .ok (.iload_n 1, 1) := by decide +kernel
theorem dX5_counts_180 : decode cX5_counts 180 = .ok (.bipush 23, 2) := by decide +kernel
theorem dX5_counts_182 : decode cX5_counts 182 = .ok (.iadd, 1) := by decide +kernel
theorem dX5_counts_183 : decode cX5_counts 183 = .ok (.iaload, 1) := by decide +kernel
theorem dX5_counts_184 : decode cX5_counts 184 = .ok (.if_icmp .ne 17, 3) := by decide +kernel
theorem dX5_counts_187 : decode cX5_counts 187 = .ok (.aload_n 0, 1) := by decide +kernel
theorem dX5_counts_188 : decode cX5_counts 188 = .ok (.getfield 7, 3) := by decide +kernel
theorem dX5_counts_191 : decode cX5_counts 191 = .ok (.iload_n 1, 1) := by decide +kernel
theorem dX5_counts_192 : decode cX5_counts 192 = .ok (.bipush 24, 2) := by decide +kernel
theorem dX5_counts_194 : decode cX5_counts 194 = .ok (.iadd, 1) := by decide +kernel
theorem dX5_counts_195 : decode cX5_counts 195 = .ok (.iaload, 1) := by decide +kernel
theorem dX5_counts_196 : decode cX5_counts 196 = .ok (.iconst 1, 1) := by decide +kernel
theorem dX5_counts_197 : decode cX5_counts 197 = .ok (.iadd, 1) := by decide +kernel
theorem dX5_counts_198 : decode cX5_counts 198 = .ok (.goto 4, 3) := by decide +kernel
theorem dX5_counts_201 : decode cX5_counts 201 = .ok (.iconst 1, 1) := by decide +kernel
theorem dX5_counts_202 : decode cX5_counts 202 = .ok (.iastore, 1) := by decide +kernel
theorem dX5_counts_203 : decode cX5_counts 203 = .ok (.aload_n 0, 1) := by decide +kernel
theorem dX5_counts_204 : decode cX5_counts 204 = .ok (.getfield 7, 3) := by decide +kernel
theorem dX5_counts_207 : decode cX5_counts 207 = .ok (.iload_n 1, 1) := by decide +kernel
theorem dX5_counts_208 : decode cX5_counts 208 = .ok (.bipush 23, 2) := by decide +kernel
theorem dX5_counts_210 : decode cX5_counts 210 = .ok (.iadd, 1) := by decide +kernel
theorem dX5_counts_211 : decode cX5_counts 211 = .ok (.iload 4, 2) := by decide +kernel
theorem dX5_counts_213 : decode cX5_counts 213 = .ok (.iastore, 1) := by decide +kernel
theorem dX5_counts_214 : decode cX5_counts 214 = .ok (.aload_n 0, 1) := by decide +kernel
theorem dX5_counts_215 : decode cX5_counts 215 = .ok (.getfield 7, 3) := by decide +kernel
theorem dX5_counts_218 : decode cX5_counts 218 = .ok (.iload 5, 2) := by decide +kernel
theorem dX5_counts_220 : decode cX5_counts 220 = .ok (.iconst 2, 1) := by decide +kernel
theorem dX5_counts_221 : decode cX5_counts 221 = .ok (.iadd, 1) := by decide +kernel
theorem dX5_counts_222 : decode cX5_counts 222 = .ok (.dup2, 1) := by decide +kernel
theorem dX5_counts_223 : decode cX5_counts 223 = .ok (.iaload, 1) := by decide +kernel
theorem dX5_counts_224 : decode cX5_counts 224 = .ok (.iconst 1, 1) := by decide +kernel
theorem dX5_counts_225 : decode cX5_counts 225 = .ok (.iadd, 1) := by decide +kernel
theorem dX5_counts_226 : decode cX5_counts 226 = .ok (.iastore, 1) := by decide +kernel
theorem dX5_counts_227 : decode cX5_counts 227 = .ok (.aload_n 0, 1) := by decide +kernel
theorem dX5_counts_228 : decode cX5_counts 228 = .ok (.getfield 7, 3) := by decide +kernel
theorem dX5_counts_231 : decode cX5_counts 231 = .ok (.iload 5, 2) := by decide +kernel
theorem dX5_counts_233 : decode cX5_counts 233 = .ok (.iconst 3, 1) := by decide +kernel
theorem dX5_counts_234 : decode cX5_counts 234 = .ok (.iadd, 1) := by decide +kernel
theorem dX5_counts_235 : decode cX5_counts 235 = .ok (.aload_n 0, 1) := by decide +kernel
theorem dX5_counts_236 : decode cX5_counts 236 = .ok (.getfield 7, 3) := by decide +kernel
theorem dX5_counts_239 : decode cX5_counts 239 = .ok (.iload 5, 2) := by decide +kernel
theorem dX5_counts_241 : decode cX5_counts 241 = .ok (.iconst 3, 1) := by decide +kernel
theorem dX5_counts_242 : decode cX5_counts 242 = .ok (.iadd, 1) := by decide +kernel
theorem dX5_counts_243 : decode cX5_counts 243 = .ok (.iaload, 1) := by decide +kernel
theorem dX5_counts_244 : decode cX5_counts 244 = .ok (.aload_n 0, 1) := by decide +kernel
theorem dX5_counts_245 : decode cX5_counts 245 = .ok (.getfield 7, 3) := by decide +kernel
theorem dX5_counts_248 : decode cX5_counts 248 = .ok (.iload_n 1, 1) := by decide +kernel
theorem dX5_counts_249 : decode cX5_counts 249 = .ok (.bipush 24, 2) := by decide +kernel
theorem dX5_counts_251 : decode cX5_counts 251 = .ok (.iadd, 1) := by decide +kernel
theorem dX5_counts_252 : decode cX5_counts 252 = .ok (.iaload, 1) := by decide +kernel
theorem dX5_counts_253 : decode cX5_counts 253 = .ok (.invokestatic 42, 3) := by decide +kernel
theorem dX5_counts_256 : decode cX5_counts 256 = .ok (.iastore, 1) := by decide +kernel
theorem dX5_counts_257 : decode cX5_counts 257 = .ok (.aload_n 0, 1) := by decide +kernel
theorem dX5_counts_258 : decode cX5_counts 258 = .ok (.getfield 7, 3) := by decide +kernel
theorem dX5_counts_261 : decode cX5_counts 261 = .ok (.iload_n 1, 1) := by decide +kernel
theorem dX5_counts_262 : decode cX5_counts 262 = .ok (.bipush 19, 2) := by decide +kernel
theorem dX5_counts_264 : decode cX5_counts 264 = .ok (.iadd, 1) := by decide +kernel
theorem dX5_counts_265 : decode cX5_counts 265 = .ok (.dup2, 1) := by decide +kernel
theorem dX5_counts_266 : decode cX5_counts 266 = .ok (.iaload, 1) := by decide +kernel
theorem dX5_counts_267 : decode cX5_counts 267 = .ok (.aload_n 0, 1) := by decide +kernel
theorem dX5_counts_268 : decode cX5_counts 268 = .ok (.iload_n 1, 1) := by decide +kernel
theorem dX5_counts_269 : decode cX5_counts 269 = .ok (.invokevirtual 46, 3) := by decide +kernel
theorem dX5_counts_272 : decode cX5_counts 272 = .ok (.ifCond .eq 7, 3) := by decide +kernel
theorem dX5_counts_275 : decode cX5_counts 275 = .ok (.iconst 1, 1) := by decide +kernel
theorem dX5_counts_276 : decode cX5_counts 276 = .ok (.goto 4, 3) := by decide +kernel
theorem dX5_counts_279 : decode cX5_counts 279 = .ok (.iconst 0, 1) := by decide +kernel
theorem dX5_counts_280 : decode cX5_counts 280 = .ok (.iadd, 1) := by decide +kernel
theorem dX5_counts_281 : decode cX5_counts 281 = .ok (.iastore, 1) := by decide +kernel
theorem dX5_counts_282 : decode cX5_counts 282 = .ok (.return_, 1) := by decide +kernel
theorem dX5_samples_0 : decode cX5_samples 0 = .ok (.aload_n 0, 1) := by decide +kernel
theorem dX5_samples_1 : decode cX5_samples 1 = .ok (.getfield 7, 3) := by decide +kernel
theorem dX5_samples_4 : decode cX5_samples 4 = .ok (.iload_n 1, 1) := by decide +kernel
theorem dX5_samples_5 : decode cX5_samples 5 = .ok (.bipush 21, 2) := by decide +kernel
theorem dX5_samples_7 : decode cX5_samples 7 = .ok (.iadd, 1) := by decide +kernel
theorem dX5_samples_8 : decode cX5_samples 8 = .ok (.iaload, 1) := by decide +kernel
theorem dX5_samples_9 : decode cX5_samples 9 = .ok (.ifCond .le 45, 3) := by decide +kernel
theorem dX5_samples_12 : decode cX5_samples 12 = .ok (.iload_n 2, 1) := by decide +kernel
theorem dX5_samples_13 : decode cX5_samples 13 = .ok (.aload_n 0, 1) := by decide +kernel
theorem dX5_samples_14 : decode cX5_samples 14 = .ok (.getfield 7, 3) := by decide +kernel
theorem dX5_samples_17 : decode cX5_samples 17 = .ok (.iload_n 1, 1) := by decide +kernel
theorem dX5_samples_18 : decode cX5_samples 18 = .ok (.bipush 10, 2) := by decide +kernel
theorem dX5_samples_20 : decode cX5_samples 20 = .ok (.iadd, 1) := by decide +kernel
theorem dX5_samples_21 : decode cX5_samples 21 = .ok (.iaload, 1) := by decide +kernel
theorem dX5_samples_22 : decode cX5_samples 22 = .ok (.isub, 1) := by decide +kernel
theorem dX5_samples_23 : decode cX5_samples 23 = .ok (.invokestatic 38, 3) := by decide +kernel
theorem dX5_samples_26 : decode cX5_samples 26 = .ok (.iconst 1, 1) := by decide +kernel
theorem dX5_samples_27 : decode cX5_samples 27 = .ok (.if_icmp .gt 27, 3) := by decide +kernel
theorem dX5_samples_30 : decode cX5_samples 30 = .ok (.iload_n 3, 1) := by decide +kernel
theorem dX5_samples_31 : decode cX5_samples 31 = .ok (.aload_n 0, 1) := by decide +kernel
theorem dX5_samples_32 : decode cX5_samples 32 = .ok (.getfield 7, 3) := by decide +kernel
theorem dX5_samples_35 : decode cX5_samples 35 = .ok (.iload_n 1, 1) := by decide +kernel
theorem dX5_samples_36 : decode cX5_samples 36 = .ok (.bipush 10, 2) := by decide +kernel
theorem dX5_samples_38 : decode cX5_samples 38 = .ok (.iadd, 1) := by decide +kernel
theorem dX5_samples_39 : decode cX5_samples 39 = .ok (.iconst 1, 1) := by decide +kernel
theorem dX5_samples_40 : decode cX5_samples 40 = .ok (.iadd, 1) := by decide +kernel
theorem dX5_samples_41 : decode cX5_samples 41 = .ok (.iaload, 1) := by decide +kernel
theorem dX5_samples_42 : decode cX5_samples 42 = .ok (.isub, 1) := by decide +kernel
theorem dX5_samples_43 : decode cX5_samples 43 = .ok (.invokestatic 38, 3) := by decide +kernel
theorem dX5_samples_46 : decode cX5_samples 46 = .ok (.iconst 1, 1) := by decide +kernel
theorem dX5_samples_47 : decode cX5_samples 47 = .ok (.if_icmp .gt 7, 3) := by decide +kernel
theorem dX5_samples_50 : decode cX5_samples 50 = .ok (.iconst 1, 1) := by decide +kernel
theorem dX5_samples_51 : decode cX5_samples 51 = .ok (.goto 4, 3) := by decide +kernel
theorem dX5_samples_54 : decode cX5_samples 54 = .ok (.iconst 0, 1) := by decide +kernel
theorem dX5_samples_55 : decode cX5_samples 55 = .ok (.istore 4, 2) := by decide +kernel
theorem dX5_samples_57 : decode cX5_samples 57 = .ok (.aload_n 0, 1) := by decide +kernel
theorem dX5_samples_58 : decode cX5_samples 58 = .ok (.getfield 7, 3) := by decide +kernel
theorem dX5_samples_61 : decode cX5_samples 61 = .ok (.iload_n 1, 1) := by decide +kernel
theorem dX5_samples_62 : decode cX5_samples 62 = .ok (.bipush 12, 2) := by decide +kernel
theorem dX5_samples_64 : decode cX5_samples 64 = .ok (.iadd, 1) := by decide +kernel
theorem dX5_samples_65 : decode cX5_samples 65 = .ok (.iload 4, 2) := by decide +kernel
theorem dX5_samples_67 : decode cX5_samples 67 = .ok (.ifCond .eq 17, 3) := by decide +kernel
theorem dX5_samples_70 : decode cX5_samples 70 = .ok (.aload_n 0, 1) := by decide +kernel
theorem dX5_samples_71 : decode cX5_samples 71 = .ok (.getfield 7, 3) := by decide +kernel
theorem dX5_samples_74 : decode cX5_samples 74 = .ok (.iload_n 1, 1) := by decide +kernel
theorem dX5_samples_75 : decode cX5_samples 75 = .ok (.bipush 12, 2) := by decide +kernel
theorem dX5_samples_77 : decode cX5_samples 77 = .ok (.iadd, 1) := by decide +kernel
theorem dX5_samples_78 : decode cX5_samples 78 = .ok (.iaload, 1) := by decide +kernel
theorem dX5_samples_79 : decode cX5_samples 79 = .ok (.iconst 1, 1) := by decide +kernel
theorem dX5_samples_80 : decode cX5_samples 80 = .ok (.iadd, 1) := by decide +kernel
theorem dX5_samples_81 : decode cX5_samples 81 = .ok (.goto 4, 3) := by decide +kernel
theorem dX5_samples_84 : decode cX5_samples 84 = .ok (.iconst 0, 1) := by decide +kernel
theorem dX5_samples_85 : decode cX5_samples 85 = .ok (.iastore, 1) := by decide +kernel
theorem dX5_samples_86 : decode cX5_samples 86 = .ok (.aload_n 0, 1) := by decide +kernel
theorem dX5_samples_87 : decode cX5_samples 87 = .ok (.getfield 7, 3) := by decide +kernel
theorem dX5_samples_90 : decode cX5_samples 90 = .ok (.iload_n 1, 1) := by decide +kernel
theorem dX5_samples_91 : decode cX5_samples 91 = .ok (.bipush 10, 2) := by decide +kernel
theorem dX5_samples_93 : decode cX5_samples 93 = .ok (.iadd, 1) := by decide +kernel
theorem dX5_samples_94 : decode cX5_samples 94 = .ok (.iload_n 2, 1) := by decide +kernel
theorem dX5_samples_95 : decode cX5_samples 95 = .ok (.iastore, 1) := by decide +kernel
theorem dX5_samples_96 : decode cX5_samples 96 = .ok (.aload_n 0, 1) := by decide +kernel
theorem dX5_samples_97 : decode cX5_samples 97 = .ok (.getfield 7, 3) := by decide +kernel
theorem dX5_samples_100 : decode cX5_samples 100 = .ok (.iload_n 1, 1) := by decide +kernel
theorem dX5_samples_101 : decode cX5_samples 101 = .ok (.bipush 10, 2) := by decide +kernel
theorem dX5_samples_103 : decode cX5_samples 103 = .ok (.iadd, 1) := by decide +kernel
theorem dX5_samples_104 : decode cX5_samples 104 = .ok (.iconst 1, 1) := by decide +kernel
theorem dX5_samples_105 : decode cX5_samples 105 = .ok (.iadd, 1) := by decide +kernel
theorem dX5_samples_106 : decode cX5_samples 106 = .ok (.iload_n 3, 1) := by decide +kernel
theorem dX5_samples_107 : decode cX5_samples 107 = .ok (.iastore, 1) := by decide +kernel
theorem dX5_samples_108 : decode cX5_samples 108 = .ok (.aload_n 0, 1) := by decide +kernel
theorem dX5_samples_109 : decode cX5_samples 109 = .ok (.iload_n 1, 1) := by decide +kernel
theorem dX5_samples_110 : decode cX5_samples 110 = .ok (.iload_n 2, 1) := by decide +kernel
theorem dX5_samples_111 : decode cX5_samples 111 = .ok (.iload_n 3, 1) := by decide +kernel
theorem dX5_samples_112 : decode cX5_samples 112 = .ok (.invokevirtual 50, 3) := by decide +kernel
theorem dX5_samples_115 : decode cX5_samples 115 = .ok (.aload_n 0, 1) := by decide +kernel
theorem dX5_samples_116 : decode cX5_samples 116 = .ok (.getfield 7, 3) := by decide +kernel
theorem dX5_samples_119 : decode cX5_samples 119 = .ok (.iload_n 1, 1) := by decide +kernel
theorem dX5_samples_120 : decode cX5_samples 120 = .ok (.bipush 9, 2) := by decide +kernel
theorem dX5_samples_122 : decode cX5_samples 122 = .ok (.iadd, 1) := by decide +kernel
theorem dX5_samples_123 : decode cX5_samples 123 = .ok (.iaload, 1) := by decide +kernel
theorem dX5_samples_124 : decode cX5_samples 124 = .ok (.if_icmp .gt 13, 3) := by decide +kernel
theorem dX5_samples_127 : decode cX5_samples 127 = .ok (.aload_n 0, 1) := by decide +kernel
theorem dX5_samples_128 : decode cX5_samples 128 = .ok (.iload_n 1, 1) := by decide +kernel
theorem dX5_samples_129 : decode cX5_samples 129 = .ok (.iload_n 2, 1) := by decide +kernel
theorem dX5_samples_130 : decode cX5_samples 130 = .ok (.iload_n 3, 1) := by decide +kernel
theorem dX5_samples_131 : decode cX5_samples 131 = .ok (.invokevirtual 63, 3) := by decide +kernel
theorem dX5_samples_134 : decode cX5_samples 134 = .ok (.goto 10, 3) := by decide +kernel
theorem dX5_samples_137 : decode cX5_samples 137 = .ok (.aload_n 0, 1) := by decide +kernel
theorem dX5_samples_138 : decode cX5_samples 138 = .ok (.iload_n 1, 1) := by decide +kernel
theorem dX5_samples_139 : decode cX5_samples 139 = .ok (.iload_n 2, 1) := by decide +kernel
theorem dX5_samples_140 : decode cX5_samples 140 = .ok (.iload_n 3, 1) := by decide +kernel
theorem dX5_samples_141 : decode cX5_samples 141 = .ok (.invokevirtual 66, 3) := by decide +kernel
theorem dX5_samples_144 : decode cX5_samples 144 = .ok (.aload_n 0, 1) := by decide +kernel
theorem dX5_samples_145 : decode cX5_samples 145 = .ok (.getfield 7, 3) := by decide +kernel
theorem dX5_samples_148 : decode cX5_samples 148 = .ok (.iload_n 1, 1) := by decide +kernel
theorem dX5_samples_149 : decode cX5_samples 149 = .ok (.bipush 13, 2) := by decide +kernel
theorem dX5_samples_151 : decode cX5_samples 151 = .ok (.iadd, 1) := by decide +kernel
theorem dX5_samples_152 : decode cX5_samples 152 = .ok (.dup2, 1) := by decide +kernel
theorem dX5_samples_153 : decode cX5_samples 153 = .ok (.iaload, 1) := by decide +kernel
theorem dX5_samples_154 : decode cX5_samples 154 = .ok (.aload_n 0, 1) := by decide +kernel
theorem dX5_samples_155 : decode cX5_samples 155 = .ok (.getfield 7, 3) := by decide +kernel
theorem dX5_samples_158 : decode cX5_samples 158 = .ok (.iload_n 1, 1) := by decide +kernel
theorem dX5_samples_159 : decode cX5_samples 159 = .ok (.bipush 13, 2) := by decide +kernel
theorem dX5_samples_161 : decode cX5_samples 161 = .ok (.iadd, 1) := by decide +kernel
theorem dX5_samples_162 : decode cX5_samples 162 = .ok (.iaload, 1) := by decide +kernel
theorem dX5_samples_163 : decode cX5_samples 163 = .ok (.ifCond .le 7, 3) := by decide +kernel
theorem dX5_samples_166 : decode cX5_samples 166 = .ok (.iconst 1, 1) := by decide +kernel
theorem dX5_samples_167 : decode cX5_samples 167 = .ok (.goto 4, 3) := by decide +kernel
theorem dX5_samples_170 : decode cX5_samples 170 = .ok (.iconst 0, 1) := by decide +kernel
theorem dX5_samples_171 : decode cX5_samples 171 = .ok (.isub, 1) := by decide +kernel
theorem dX5_samples_172 : decode cX5_samples 172 = .ok (.iastore, 1) := by decide +kernel
theorem dX5_samples_173 : decode cX5_samples 173 = .ok (.aload_n 0, 1) := by decide +kernel
theorem dX5_samples_174 : decode cX5_samples 174 = .ok (.getfield 7, 3) := by decide +kernel
theorem dX5_samples_177 : decode cX5_samples 177 = .ok (.iload_n 1, 1) := by decide +kernel
theorem dX5_samples_178 : decode cX5_samples 178 = .ok (.bipush 21, 2) := by decide +kernel
theorem dX5_samples_180 : decode cX5_samples 180 = .ok (.iadd, 1) := by decide +kernel
theorem dX5_samples_181 : decode cX5_samples 181 = .ok (.dup2, 1) := by decide +kernel
theorem dX5_samples_182 : decode cX5_samples 182 = .ok (.iaload, 1) := by decide +kernel
theorem dX5_samples_183 : decode cX5_samples 183 = .ok (.iconst 1, 1) := by decide +kernel
theorem dX5_samples_184 : decode cX5_samples 184 = .ok (.iadd, 1) := by decide +kernel
theorem dX5_samples_185 : decode cX5_samples 185 = .ok (.iastore, 1) := by decide +kernel
theorem dX5_samples_186 : decode cX5_samples 186 = .ok (.aload_n 0, 1) := by decide +kernel
theorem dX5_samples_187 : decode cX5_samples 187 = .ok (.iload_n 1, 1) := by decide +kernel
theorem dX5_samples_188 : decode cX5_samples 188 = .ok (.invokevirtual 69, 3) := by decide +kernel
theorem dX5_samples_191 : decode cX5_samples 191 = .ok (.return_, 1) := by decide +kernel
theorem dX5_told_0 : decode cX5_told 0 = .ok (.sipush 1000, 3) := by decide +kernel
theorem dX5_told_3 : decode cX5_told 3 = .ok (.aload_n 0, 1) := by decide +kernel
theorem dX5_told_4 : decode cX5_told 4 = .ok (.getfield 7, 3) := by decide +kernel
theorem dX5_told_7 : decode cX5_told 7 = .ok (.iload_n 1, 1) := by decide +kernel
theorem dX5_told_8 : decode cX5_told 8 = .ok (.bipush 14, 2) := by decide +kernel
theorem dX5_told_10 : decode cX5_told 10 = .ok (.iadd, 1) := by decide +kernel
theorem dX5_told_11 : decode cX5_told 11 = .ok (.iaload, 1) := by decide +kernel
theorem dX5_told_12 : decode cX5_told 12 = .ok (.bipush 100, 2) := by decide +kernel
theorem dX5_told_14 : decode cX5_told 14 = .ok (.iadd, 1) := by decide +kernel
theorem dX5_told_15 : decode cX5_told 15 = .ok (.imul, 1) := by decide +kernel
theorem dX5_told_16 : decode cX5_told 16 = .ok (.aload_n 0, 1) := by decide +kernel
theorem dX5_told_17 : decode cX5_told 17 = .ok (.getfield 7, 3) := by decide +kernel
theorem dX5_told_20 : decode cX5_told 20 = .ok (.iload_n 1, 1) := by decide +kernel
theorem dX5_told_21 : decode cX5_told 21 = .ok (.bipush 14, 2) := by decide +kernel
theorem dX5_told_23 : decode cX5_told 23 = .ok (.iadd, 1) := by decide +kernel
theorem dX5_told_24 : decode cX5_told 24 = .ok (.iconst 1, 1) := by decide +kernel
theorem dX5_told_25 : decode cX5_told 25 = .ok (.iadd, 1) := by decide +kernel
theorem dX5_told_26 : decode cX5_told 26 = .ok (.iaload, 1) := by decide +kernel
theorem dX5_told_27 : decode cX5_told 27 = .ok (.iadd, 1) := by decide +kernel
theorem dX5_told_28 : decode cX5_told 28 = .ok (.bipush 100, 2) := by decide +kernel
theorem dX5_told_30 : decode cX5_told 30 = .ok (.iadd, 1) := by decide +kernel
theorem dX5_told_31 : decode cX5_told 31 = .ok (.ireturn, 1) := by decide +kernel
theorem dX5_lowOf_0 : decode cX5_lowOf 0 = .ok (.iload_n 0, 1) := by decide +kernel
theorem dX5_lowOf_1 : decode cX5_lowOf 1 = .ok (.tableswitch 45 2 6 #[35, 37, 40, 43, 35], 35) := by decide +kernel
theorem dX5_lowOf_36 : decode cX5_lowOf 36 = .ok (.iconst 0, 1) := by decide +kernel
theorem dX5_lowOf_37 : decode cX5_lowOf 37 = .ok (.ireturn, 1) := by decide +kernel
theorem dX5_lowOf_38 : decode cX5_lowOf 38 = .ok (.bipush 60, 2) := by decide +kernel
theorem dX5_lowOf_40 : decode cX5_lowOf 40 = .ok (.ireturn, 1) := by decide +kernel
theorem dX5_lowOf_41 : decode cX5_lowOf 41 = .ok (.bipush 100, 2) := by decide +kernel
theorem dX5_lowOf_43 : decode cX5_lowOf 43 = .ok (.ireturn, 1) := by decide +kernel
theorem dX5_lowOf_44 : decode cX5_lowOf 44 = .ok (.iconst 2, 1) := by decide +kernel
theorem dX5_lowOf_45 : decode cX5_lowOf 45 = .ok (.ireturn, 1) := by decide +kernel
theorem dX5_lowOf_46 : decode cX5_lowOf 46 = .ok (.iconst 1, 1) := by decide +kernel
theorem dX5_lowOf_47 : decode cX5_lowOf 47 = .ok (.ireturn, 1) := by decide +kernel
theorem dX5_highOf_0 : decode cX5_highOf 0 = .ok (.iload_n 0, 1) := by decide +kernel
theorem dX5_highOf_1 : decode cX5_highOf 1 = .ok (.tableswitch 55 0 5 #[39, 42, 55, 45, 48, 52], 39) := by decide +kernel
theorem dX5_highOf_40 : decode cX5_highOf 40 = .ok (.bipush 64, 2) := by decide +kernel
theorem dX5_highOf_42 : decode cX5_highOf 42 = .ok (.ireturn, 1) := by decide +kernel
theorem dX5_highOf_43 : decode cX5_highOf 43 = .ok (.bipush 30, 2) := by decide +kernel
theorem dX5_highOf_45 : decode cX5_highOf 45 = .ok (.ireturn, 1) := by decide +kernel
theorem dX5_highOf_46 : decode cX5_highOf 46 = .ok (.bipush 127, 2) := by decide +kernel
theorem dX5_highOf_48 : decode cX5_highOf 48 = .ok (.ireturn, 1) := by decide +kernel
theorem dX5_highOf_49 : decode cX5_highOf 49 = .ok (.sipush 200, 3) := by decide +kernel
theorem dX5_highOf_52 : decode cX5_highOf 52 = .ok (.ireturn, 1) := by decide +kernel
theorem dX5_highOf_53 : decode cX5_highOf 53 = .ok (.bipush 60, 2) := by decide +kernel
theorem dX5_highOf_55 : decode cX5_highOf 55 = .ok (.ireturn, 1) := by decide +kernel
theorem dX5_highOf_56 : decode cX5_highOf 56 = .ok (.bipush 20, 2) := by decide +kernel
theorem dX5_highOf_58 : decode cX5_highOf 58 = .ok (.ireturn, 1) := by decide +kernel
theorem dX5_set_0 : decode cX5_set 0 = .ok (.iload_n 1, 1) := by decide +kernel
theorem dX5_set_1 : decode cX5_set 1 = .ok (.iconst 0, 1) := by decide +kernel
theorem dX5_set_2 : decode cX5_set 2 = .ok (.bipush 6, 2) := by decide +kernel
theorem dX5_set_4 : decode cX5_set 4 = .ok (.invokestatic 26, 3) := by decide +kernel
theorem dX5_set_7 : decode cX5_set 7 = .ok (.ifCond .eq 18, 3) := by decide +kernel
theorem dX5_set_10 : decode cX5_set 10 = .ok (.iload_n 2, 1) := by decide +kernel
theorem dX5_set_11 : decode cX5_set 11 = .ok (.iload_n 1, 1) := by decide +kernel
theorem dX5_set_12 : decode cX5_set 12 = .ok (.invokestatic 73, 3) := by decide +kernel
theorem dX5_set_15 : decode cX5_set 15 = .ok (.iload_n 1, 1) := by decide +kernel
theorem dX5_set_16 : decode cX5_set 16 = .ok (.invokestatic 76, 3) := by decide +kernel
theorem dX5_set_19 : decode cX5_set 19 = .ok (.invokestatic 26, 3) := by decide +kernel
theorem dX5_set_22 : decode cX5_set 22 = .ok (.ifCond .ne 6, 3) := by decide +kernel
theorem dX5_set_25 : decode cX5_set 25 = .ok (.bipush (-2), 2) := by decide +kernel
theorem dX5_set_27 : decode cX5_set 27 = .ok (.ireturn, 1) := by decide +kernel
theorem dX5_set_28 : decode cX5_set 28 = .ok (.aload_n 0, 1) := by decide +kernel
theorem dX5_set_29 : decode cX5_set 29 = .ok (.invokevirtual 79, 3) := by decide +kernel
theorem dX5_set_32 : decode cX5_set 32 = .ok (.aload_n 0, 1) := by decide +kernel
theorem dX5_set_33 : decode cX5_set 33 = .ok (.getfield 7, 3) := by decide +kernel
theorem dX5_set_36 : decode cX5_set 36 = .ok (.iload_n 1, 1) := by decide +kernel
theorem dX5_set_37 : decode cX5_set 37 = .ok (.iaload, 1) := by decide +kernel
theorem dX5_set_38 : decode cX5_set 38 = .ok (.istore_n 3, 1) := by decide +kernel
theorem dX5_set_39 : decode cX5_set 39 = .ok (.aload_n 0, 1) := by decide +kernel
theorem dX5_set_40 : decode cX5_set 40 = .ok (.getfield 7, 3) := by decide +kernel
theorem dX5_set_43 : decode cX5_set 43 = .ok (.iload_n 1, 1) := by decide +kernel
theorem dX5_set_44 : decode cX5_set 44 = .ok (.iload_n 2, 1) := by decide +kernel
theorem dX5_set_45 : decode cX5_set 45 = .ok (.iastore, 1) := by decide +kernel
theorem dX5_set_46 : decode cX5_set 46 = .ok (.iload_n 1, 1) := by decide +kernel
theorem dX5_set_47 : decode cX5_set 47 = .ok (.iconst 1, 1) := by decide +kernel
theorem dX5_set_48 : decode cX5_set 48 = .ok (.if_icmp .eq 8, 3) := by decide +kernel
theorem dX5_set_51 : decode cX5_set 51 = .ok (.iload_n 1, 1) := by decide +kernel
theorem dX5_set_52 : decode cX5_set 52 = .ok (.iconst 2, 1) := by decide +kernel
theorem dX5_set_53 : decode cX5_set 53 = .ok (.if_icmp .ne 16, 3) := by decide +kernel
theorem dX5_set_56 : decode cX5_set 56 = .ok (.aload_n 0, 1) := by decide +kernel
theorem dX5_set_57 : decode cX5_set 57 = .ok (.getfield 7, 3) := by decide +kernel
theorem dX5_set_60 : decode cX5_set 60 = .ok (.bipush 9, 2) := by decide +kernel
theorem dX5_set_62 : decode cX5_set 62 = .ok (.aload_n 0, 1) := by decide +kernel
theorem dX5_set_63 : decode cX5_set 63 = .ok (.getfield 7, 3) := by decide +kernel
theorem dX5_set_66 : decode cX5_set 66 = .ok (.iconst 1, 1) := by decide +kernel
theorem dX5_set_67 : decode cX5_set 67 = .ok (.iaload, 1) := by decide +kernel
theorem dX5_set_68 : decode cX5_set 68 = .ok (.iastore, 1) := by decide +kernel
theorem dX5_set_69 : decode cX5_set 69 = .ok (.iload_n 3, 1) := by decide +kernel
theorem dX5_set_70 : decode cX5_set 70 = .ok (.ireturn, 1) := by decide +kernel
theorem dX5_whyNot_0 : decode cX5_whyNot 0 = .ok (.iload_n 1, 1) := by decide +kernel
theorem dX5_whyNot_1 : decode cX5_whyNot 1 = .ok (.iload_n 2, 1) := by decide +kernel
theorem dX5_whyNot_2 : decode cX5_whyNot 2 = .ok (.invokestatic 82, 3) := by decide +kernel
theorem dX5_whyNot_5 : decode cX5_whyNot 5 = .ok (.ifCond .ne 8, 3) := by decide +kernel
theorem dX5_whyNot_8 : decode cX5_whyNot 8 = .ok (.bipush (-2), 2) := by decide +kernel
theorem dX5_whyNot_10 : decode cX5_whyNot 10 = .ok (.goto 24, 3) := by decide +kernel
theorem dX5_whyNot_13 : decode cX5_whyNot 13 = .ok (.aload_n 0, 1) := by decide +kernel
theorem dX5_whyNot_14 : decode cX5_whyNot 14 = .ok (.getfield 7, 3) := by decide +kernel
theorem dX5_whyNot_17 : decode cX5_whyNot 17 = .ok (.bipush 21, 2) := by decide +kernel
theorem dX5_whyNot_19 : decode cX5_whyNot 19 = .ok (.iaload, 1) := by decide +kernel
theorem dX5_whyNot_20 : decode cX5_whyNot 20 = .ok (.iload_n 3, 1) := by decide +kernel
theorem dX5_whyNot_21 : decode cX5_whyNot 21 = .ok (.iadd, 1) := by decide +kernel
theorem dX5_whyNot_22 : decode cX5_whyNot 22 = .ok (.sipush 9999, 3) := by decide +kernel
theorem dX5_whyNot_25 : decode cX5_whyNot 25 = .ok (.if_icmp .le 8, 3) := by decide +kernel
theorem dX5_whyNot_28 : decode cX5_whyNot 28 = .ok (.bipush (-5), 2) := by decide +kernel
theorem dX5_whyNot_30 : decode cX5_whyNot 30 = .ok (.goto 4, 3) := by decide +kernel
theorem dX5_whyNot_33 : decode cX5_whyNot 33 = .ok (.iconst 0, 1) := by decide +kernel
theorem dX5_whyNot_34 : decode cX5_whyNot 34 = .ok (.ireturn, 1) := by decide +kernel
theorem dX5_sample_0 : decode cX5_sample 0 = .ok (.aload_n 0, 1) := by decide +kernel
theorem dX5_sample_1 : decode cX5_sample 1 = .ok (.iload_n 1, 1) := by decide +kernel
theorem dX5_sample_2 : decode cX5_sample 2 = .ok (.iload_n 2, 1) := by decide +kernel
theorem dX5_sample_3 : decode cX5_sample 3 = .ok (.iconst 1, 1) := by decide +kernel
theorem dX5_sample_4 : decode cX5_sample 4 = .ok (.invokevirtual 86, 3) := by decide +kernel
theorem dX5_sample_7 : decode cX5_sample 7 = .ok (.istore_n 3, 1) := by decide +kernel
theorem dX5_sample_8 : decode cX5_sample 8 = .ok (.iload_n 3, 1) := by decide +kernel
theorem dX5_sample_9 : decode cX5_sample 9 = .ok (.ifCond .ge 5, 3) := by decide +kernel
theorem dX5_sample_12 : decode cX5_sample 12 = .ok (.iload_n 3, 1) := by decide +kernel
theorem dX5_sample_13 : decode cX5_sample 13 = .ok (.ireturn, 1) := by decide +kernel
theorem dX5_sample_14 : decode cX5_sample 14 = .ok (.aload_n 0, 1) := by decide +kernel
theorem dX5_sample_15 : decode cX5_sample 15 = .ok (.invokevirtual 79, 3) := by decide +kernel
theorem dX5_sample_18 : decode cX5_sample 18 = .ok (.aload_n 0, 1) := by decide +kernel
theorem dX5_sample_19 : decode cX5_sample 19 = .ok (.iconst 0, 1) := by decide +kernel
theorem dX5_sample_20 : decode cX5_sample 20 = .ok (.iload_n 1, 1) := by decide +kernel
theorem dX5_sample_21 : decode cX5_sample 21 = .ok (.iload_n 2, 1) := by decide +kernel
theorem dX5_sample_22 : decode cX5_sample 22 = .ok (.invokevirtual 89, 3) := by decide +kernel
theorem dX5_sample_25 : decode cX5_sample 25 = .ok (.aload_n 0, 1) := by decide +kernel
theorem dX5_sample_26 : decode cX5_sample 26 = .ok (.iconst 0, 1) := by decide +kernel
theorem dX5_sample_27 : decode cX5_sample 27 = .ok (.invokevirtual 92, 3) := by decide +kernel
theorem dX5_sample_30 : decode cX5_sample 30 = .ok (.ireturn, 1) := by decide +kernel
theorem dX5_hold_0 : decode cX5_hold 0 = .ok (.iload_n 3, 1) := by decide +kernel
theorem dX5_hold_1 : decode cX5_hold 1 = .ok (.iconst 1, 1) := by decide +kernel
theorem dX5_hold_2 : decode cX5_hold 2 = .ok (.sipush 200, 3) := by decide +kernel
theorem dX5_hold_5 : decode cX5_hold 5 = .ok (.invokestatic 26, 3) := by decide +kernel
theorem dX5_hold_8 : decode cX5_hold 8 = .ok (.ifCond .eq 13, 3) := by decide +kernel
theorem dX5_hold_11 : decode cX5_hold 11 = .ok (.aload_n 0, 1) := by decide +kernel
theorem dX5_hold_12 : decode cX5_hold 12 = .ok (.iload_n 1, 1) := by decide +kernel
theorem dX5_hold_13 : decode cX5_hold 13 = .ok (.iload_n 2, 1) := by decide +kernel
theorem dX5_hold_14 : decode cX5_hold 14 = .ok (.iload_n 3, 1) := by decide +kernel
theorem dX5_hold_15 : decode cX5_hold 15 = .ok (.invokevirtual 86, 3) := by decide +kernel
theorem dX5_hold_18 : decode cX5_hold 18 = .ok (.goto 5, 3) := by decide +kernel
theorem dX5_hold_21 : decode cX5_hold 21 = .ok (.bipush (-2), 2) := by decide +kernel
theorem dX5_hold_23 : decode cX5_hold 23 = .ok (.istore 4, 2) := by decide +kernel
theorem dX5_hold_25 : decode cX5_hold 25 = .ok (.iload 4, 2) := by decide +kernel
theorem dX5_hold_27 : decode cX5_hold 27 = .ok (.ifCond .ge 6, 3) := by decide +kernel
theorem dX5_hold_30 : decode cX5_hold 30 = .ok (.iload 4, 2) := by decide +kernel
theorem dX5_hold_32 : decode cX5_hold 32 = .ok (.ireturn, 1) := by decide +kernel
theorem dX5_hold_33 : decode cX5_hold 33 = .ok (.aload_n 0, 1) := by decide +kernel
theorem dX5_hold_34 : decode cX5_hold 34 = .ok (.invokevirtual 79, 3) := by decide +kernel
theorem dX5_hold_37 : decode cX5_hold 37 = .ok (.iconst 0, 1) := by decide +kernel
theorem dX5_hold_38 : decode cX5_hold 38 = .ok (.istore 5, 2) := by decide +kernel
theorem dX5_hold_40 : decode cX5_hold 40 = .ok (.iload 5, 2) := by decide +kernel
theorem dX5_hold_42 : decode cX5_hold 42 = .ok (.iload_n 3, 1) := by decide +kernel
theorem dX5_hold_43 : decode cX5_hold 43 = .ok (.if_icmp .ge 16, 3) := by decide +kernel
theorem dX5_hold_46 : decode cX5_hold 46 = .ok (.aload_n 0, 1) := by decide +kernel
theorem dX5_hold_47 : decode cX5_hold 47 = .ok (.iconst 0, 1) := by decide +kernel
theorem dX5_hold_48 : decode cX5_hold 48 = .ok (.iload_n 1, 1) := by decide +kernel
theorem dX5_hold_49 : decode cX5_hold 49 = .ok (.iload_n 2, 1) := by decide +kernel
theorem dX5_hold_50 : decode cX5_hold 50 = .ok (.invokevirtual 89, 3) := by decide +kernel
theorem dX5_hold_53 : decode cX5_hold 53 = .ok (.iinc 5 1, 3) := by decide +kernel
theorem dX5_hold_56 : decode cX5_hold 56 = .ok (.goto (-16), 3) := by decide +kernel
theorem dX5_hold_59 : decode cX5_hold 59 = .ok (.aload_n 0, 1) := by decide +kernel
theorem dX5_hold_60 : decode cX5_hold 60 = .ok (.iconst 0, 1) := by decide +kernel
theorem dX5_hold_61 : decode cX5_hold 61 = .ok (.invokevirtual 92, 3) := by decide +kernel
theorem dX5_hold_64 : decode cX5_hold 64 = .ok (.ireturn, 1) := by decide +kernel
theorem dX5_isDown_0 : decode cX5_isDown 0 = .ok (.aload_n 0, 1) := by decide +kernel
theorem dX5_isDown_1 : decode cX5_isDown 1 = .ok (.getfield 7, 3) := by decide +kernel
theorem dX5_isDown_4 : decode cX5_isDown 4 = .ok (.bipush 18, 2) := by decide +kernel
theorem dX5_isDown_6 : decode cX5_isDown 6 = .ok (.iaload, 1) := by decide +kernel
theorem dX5_isDown_7 : decode cX5_isDown 7 = .ok (.iload_n 1, 1) := by decide +kernel
theorem dX5_isDown_8 : decode cX5_isDown 8 = .ok (.ishr, 1) := by decide +kernel
theorem dX5_isDown_9 : decode cX5_isDown 9 = .ok (.iconst 1, 1) := by decide +kernel
theorem dX5_isDown_10 : decode cX5_isDown 10 = .ok (.iand, 1) := by decide +kernel
theorem dX5_isDown_11 : decode cX5_isDown 11 = .ok (.iconst 1, 1) := by decide +kernel
theorem dX5_isDown_12 : decode cX5_isDown 12 = .ok (.if_icmp .ne 7, 3) := by decide +kernel
theorem dX5_isDown_15 : decode cX5_isDown 15 = .ok (.iconst 1, 1) := by decide +kernel
theorem dX5_isDown_16 : decode cX5_isDown 16 = .ok (.goto 4, 3) := by decide +kernel
theorem dX5_isDown_19 : decode cX5_isDown 19 = .ok (.iconst 0, 1) := by decide +kernel
theorem dX5_isDown_20 : decode cX5_isDown 20 = .ok (.ireturn, 1) := by decide +kernel
theorem dX5_whyNotPress_0 : decode cX5_whyNotPress 0 = .ok (.iload_n 1, 1) := by decide +kernel
theorem dX5_whyNotPress_1 : decode cX5_whyNotPress 1 = .ok (.iconst 0, 1) := by decide +kernel
theorem dX5_whyNotPress_2 : decode cX5_whyNotPress 2 = .ok (.bipush 7, 2) := by decide +kernel
theorem dX5_whyNotPress_4 : decode cX5_whyNotPress 4 = .ok (.invokestatic 26, 3) := by decide +kernel
theorem dX5_whyNotPress_7 : decode cX5_whyNotPress 7 = .ok (.ifCond .ne 7, 3) := by decide +kernel
theorem dX5_whyNotPress_10 : decode cX5_whyNotPress 10 = .ok (.iconst (-1), 1) := by decide +kernel
theorem dX5_whyNotPress_11 : decode cX5_whyNotPress 11 = .ok (.goto 18, 3) := by decide +kernel
theorem dX5_whyNotPress_14 : decode cX5_whyNotPress 14 = .ok (.aload_n 0, 1) := by decide +kernel
theorem dX5_whyNotPress_15 : decode cX5_whyNotPress 15 = .ok (.iload_n 1, 1) := by decide +kernel
theorem dX5_whyNotPress_16 : decode cX5_whyNotPress 16 = .ok (.invokevirtual 95, 3) := by decide +kernel
theorem dX5_whyNotPress_19 : decode cX5_whyNotPress 19 = .ok (.iload_n 2, 1) := by decide +kernel
theorem dX5_whyNotPress_20 : decode cX5_whyNotPress 20 = .ok (.if_icmp .ne 8, 3) := by decide +kernel
theorem dX5_whyNotPress_23 : decode cX5_whyNotPress 23 = .ok (.bipush (-5), 2) := by decide +kernel
theorem dX5_whyNotPress_25 : decode cX5_whyNotPress 25 = .ok (.goto 4, 3) := by decide +kernel
theorem dX5_whyNotPress_28 : decode cX5_whyNotPress 28 = .ok (.iconst 0, 1) := by decide +kernel
theorem dX5_whyNotPress_29 : decode cX5_whyNotPress 29 = .ok (.ireturn, 1) := by decide +kernel
theorem dX5_presses_0 : decode cX5_presses 0 = .ok (.aload_n 0, 1) := by decide +kernel
theorem dX5_presses_1 : decode cX5_presses 1 = .ok (.getfield 7, 3) := by decide +kernel
theorem dX5_presses_4 : decode cX5_presses 4 = .ok (.bipush 18, 2) := by decide +kernel
theorem dX5_presses_6 : decode cX5_presses 6 = .ok (.dup2, 1) := by decide +kernel
theorem dX5_presses_7 : decode cX5_presses 7 = .ok (.iaload, 1) := by decide +kernel
theorem dX5_presses_8 : decode cX5_presses 8 = .ok (.iconst 1, 1) := by decide +kernel
theorem dX5_presses_9 : decode cX5_presses 9 = .ok (.iload_n 1, 1) := by decide +kernel
theorem dX5_presses_10 : decode cX5_presses 10 = .ok (.ishl, 1) := by decide +kernel
theorem dX5_presses_11 : decode cX5_presses 11 = .ok (.ior, 1) := by decide +kernel
theorem dX5_presses_12 : decode cX5_presses 12 = .ok (.iastore, 1) := by decide +kernel
theorem dX5_presses_13 : decode cX5_presses 13 = .ok (.aload_n 0, 1) := by decide +kernel
theorem dX5_presses_14 : decode cX5_presses 14 = .ok (.getfield 7, 3) := by decide +kernel
theorem dX5_presses_17 : decode cX5_presses 17 = .ok (.bipush 13, 2) := by decide +kernel
theorem dX5_presses_19 : decode cX5_presses 19 = .ok (.aload_n 0, 1) := by decide +kernel
theorem dX5_presses_20 : decode cX5_presses 20 = .ok (.getfield 7, 3) := by decide +kernel
theorem dX5_presses_23 : decode cX5_presses 23 = .ok (.bipush 6, 2) := by decide +kernel
theorem dX5_presses_25 : decode cX5_presses 25 = .ok (.iaload, 1) := by decide +kernel
theorem dX5_presses_26 : decode cX5_presses 26 = .ok (.iastore, 1) := by decide +kernel
theorem dX5_presses_27 : decode cX5_presses 27 = .ok (.aload_n 0, 1) := by decide +kernel
theorem dX5_presses_28 : decode cX5_presses 28 = .ok (.getfield 7, 3) := by decide +kernel
theorem dX5_presses_31 : decode cX5_presses 31 = .ok (.bipush 18, 2) := by decide +kernel
theorem dX5_presses_33 : decode cX5_presses 33 = .ok (.iaload, 1) := by decide +kernel
theorem dX5_presses_34 : decode cX5_presses 34 = .ok (.ireturn, 1) := by decide +kernel
theorem dX5_letsUp_0 : decode cX5_letsUp 0 = .ok (.aload_n 0, 1) := by decide +kernel
theorem dX5_letsUp_1 : decode cX5_letsUp 1 = .ok (.getfield 7, 3) := by decide +kernel
theorem dX5_letsUp_4 : decode cX5_letsUp 4 = .ok (.bipush 18, 2) := by decide +kernel
theorem dX5_letsUp_6 : decode cX5_letsUp 6 = .ok (.dup2, 1) := by decide +kernel
theorem dX5_letsUp_7 : decode cX5_letsUp 7 = .ok (.iaload, 1) := by decide +kernel
theorem dX5_letsUp_8 : decode cX5_letsUp 8 = .ok (.iconst 1, 1) := by decide +kernel
theorem dX5_letsUp_9 : decode cX5_letsUp 9 = .ok (.iload_n 1, 1) := by decide +kernel
theorem dX5_letsUp_10 : decode cX5_letsUp 10 = .ok (.ishl, 1) := by decide +kernel
theorem dX5_letsUp_11 : decode cX5_letsUp 11 = .ok (.iconst (-1), 1) := by decide +kernel
theorem dX5_letsUp_12 : decode cX5_letsUp 12 = .ok (.ixor, 1) := by decide +kernel
theorem dX5_letsUp_13 : decode cX5_letsUp 13 = .ok (.iand, 1) := by decide +kernel
theorem dX5_letsUp_14 : decode cX5_letsUp 14 = .ok (.iastore, 1) := by decide +kernel
theorem dX5_letsUp_15 : decode cX5_letsUp 15 = .ok (.aload_n 0, 1) := by decide +kernel
theorem dX5_letsUp_16 : decode cX5_letsUp 16 = .ok (.getfield 7, 3) := by decide +kernel
theorem dX5_letsUp_19 : decode cX5_letsUp 19 = .ok (.bipush 18, 2) := by decide +kernel
theorem dX5_letsUp_21 : decode cX5_letsUp 21 = .ok (.iaload, 1) := by decide +kernel
theorem dX5_letsUp_22 : decode cX5_letsUp 22 = .ok (.ireturn, 1) := by decide +kernel
theorem dX5_press_0 : decode cX5_press 0 = .ok (.aload_n 0, 1) := by decide +kernel
theorem dX5_press_1 : decode cX5_press 1 = .ok (.iload_n 1, 1) := by decide +kernel
theorem dX5_press_2 : decode cX5_press 2 = .ok (.iconst 1, 1) := by decide +kernel
theorem dX5_press_3 : decode cX5_press 3 = .ok (.invokevirtual 98, 3) := by decide +kernel
theorem dX5_press_6 : decode cX5_press 6 = .ok (.istore_n 2, 1) := by decide +kernel
theorem dX5_press_7 : decode cX5_press 7 = .ok (.iload_n 2, 1) := by decide +kernel
theorem dX5_press_8 : decode cX5_press 8 = .ok (.ifCond .ge 5, 3) := by decide +kernel
theorem dX5_press_11 : decode cX5_press 11 = .ok (.iload_n 2, 1) := by decide +kernel
theorem dX5_press_12 : decode cX5_press 12 = .ok (.ireturn, 1) := by decide +kernel
theorem dX5_press_13 : decode cX5_press 13 = .ok (.aload_n 0, 1) := by decide +kernel
theorem dX5_press_14 : decode cX5_press 14 = .ok (.invokevirtual 79, 3) := by decide +kernel
theorem dX5_press_17 : decode cX5_press 17 = .ok (.aload_n 0, 1) := by decide +kernel
theorem dX5_press_18 : decode cX5_press 18 = .ok (.iload_n 1, 1) := by decide +kernel
theorem dX5_press_19 : decode cX5_press 19 = .ok (.invokevirtual 102, 3) := by decide +kernel
theorem dX5_press_22 : decode cX5_press 22 = .ok (.ireturn, 1) := by decide +kernel
theorem dX5_letUp_0 : decode cX5_letUp 0 = .ok (.aload_n 0, 1) := by decide +kernel
theorem dX5_letUp_1 : decode cX5_letUp 1 = .ok (.iload_n 1, 1) := by decide +kernel
theorem dX5_letUp_2 : decode cX5_letUp 2 = .ok (.iconst 0, 1) := by decide +kernel
theorem dX5_letUp_3 : decode cX5_letUp 3 = .ok (.invokevirtual 98, 3) := by decide +kernel
theorem dX5_letUp_6 : decode cX5_letUp 6 = .ok (.istore_n 2, 1) := by decide +kernel
theorem dX5_letUp_7 : decode cX5_letUp 7 = .ok (.iload_n 2, 1) := by decide +kernel
theorem dX5_letUp_8 : decode cX5_letUp 8 = .ok (.ifCond .ge 5, 3) := by decide +kernel
theorem dX5_letUp_11 : decode cX5_letUp 11 = .ok (.iload_n 2, 1) := by decide +kernel
theorem dX5_letUp_12 : decode cX5_letUp 12 = .ok (.ireturn, 1) := by decide +kernel
theorem dX5_letUp_13 : decode cX5_letUp 13 = .ok (.aload_n 0, 1) := by decide +kernel
theorem dX5_letUp_14 : decode cX5_letUp 14 = .ok (.invokevirtual 79, 3) := by decide +kernel
theorem dX5_letUp_17 : decode cX5_letUp 17 = .ok (.aload_n 0, 1) := by decide +kernel
theorem dX5_letUp_18 : decode cX5_letUp 18 = .ok (.iload_n 1, 1) := by decide +kernel
theorem dX5_letUp_19 : decode cX5_letUp 19 = .ok (.invokevirtual 105, 3) := by decide +kernel
theorem dX5_letUp_22 : decode cX5_letUp 22 = .ok (.ireturn, 1) := by decide +kernel
theorem dX5_reset_0 : decode cX5_reset 0 = .ok (.aload_n 0, 1) := by decide +kernel
theorem dX5_reset_1 : decode cX5_reset 1 = .ok (.invokevirtual 79, 3) := by decide +kernel
theorem dX5_reset_4 : decode cX5_reset 4 = .ok (.aload_n 0, 1) := by decide +kernel
theorem dX5_reset_5 : decode cX5_reset 5 = .ok (.getfield 7, 3) := by decide +kernel
theorem dX5_reset_8 : decode cX5_reset 8 = .ok (.bipush 7, 2) := by decide +kernel
theorem dX5_reset_10 : decode cX5_reset 10 = .ok (.iaload, 1) := by decide +kernel
theorem dX5_reset_11 : decode cX5_reset 11 = .ok (.sipush 2048, 3) := by decide +kernel
theorem dX5_reset_14 : decode cX5_reset 14 = .ok (.isub, 1) := by decide +kernel
theorem dX5_reset_15 : decode cX5_reset 15 = .ok (.invokestatic 38, 3) := by decide +kernel
theorem dX5_reset_18 : decode cX5_reset 18 = .ok (.aload_n 0, 1) := by decide +kernel
theorem dX5_reset_19 : decode cX5_reset 19 = .ok (.getfield 7, 3) := by decide +kernel
theorem dX5_reset_22 : decode cX5_reset 22 = .ok (.bipush 8, 2) := by decide +kernel
theorem dX5_reset_24 : decode cX5_reset 24 = .ok (.iaload, 1) := by decide +kernel
theorem dX5_reset_25 : decode cX5_reset 25 = .ok (.sipush 2048, 3) := by decide +kernel
theorem dX5_reset_28 : decode cX5_reset 28 = .ok (.isub, 1) := by decide +kernel
theorem dX5_reset_29 : decode cX5_reset 29 = .ok (.invokestatic 38, 3) := by decide +kernel
theorem dX5_reset_32 : decode cX5_reset 32 = .ok (.iadd, 1) := by decide +kernel
theorem dX5_reset_33 : decode cX5_reset 33 = .ok (.istore_n 1, 1) := by decide +kernel
theorem dX5_reset_34 : decode cX5_reset 34 = .ok (.aload_n 0, 1) := by decide +kernel
theorem dX5_reset_35 : decode cX5_reset 35 = .ok (.getfield 7, 3) := by decide +kernel
theorem dX5_reset_38 : decode cX5_reset 38 = .ok (.bipush 7, 2) := by decide +kernel
theorem dX5_reset_40 : decode cX5_reset 40 = .ok (.sipush 2048, 3) := by decide +kernel
theorem dX5_reset_43 : decode cX5_reset 43 = .ok (.iastore, 1) := by decide +kernel
theorem dX5_reset_44 : decode cX5_reset 44 = .ok (.aload_n 0, 1) := by decide +kernel
theorem dX5_reset_45 : decode cX5_reset 45 = .ok (.getfield 7, 3) := by decide +kernel
theorem dX5_reset_48 : decode cX5_reset 48 = .ok (.bipush 8, 2) := by decide +kernel
theorem dX5_reset_50 : decode cX5_reset 50 = .ok (.sipush 2048, 3) := by decide +kernel
theorem dX5_reset_53 : decode cX5_reset 53 = .ok (.iastore, 1) := by decide +kernel
theorem dX5_reset_54 : decode cX5_reset 54 = .ok (.aload_n 0, 1) := by decide +kernel
theorem dX5_reset_55 : decode cX5_reset 55 = .ok (.getfield 7, 3) := by decide +kernel
theorem dX5_reset_58 : decode cX5_reset 58 = .ok (.bipush 9, 2) := by decide +kernel
theorem dX5_reset_60 : decode cX5_reset 60 = .ok (.aload_n 0, 1) := by decide +kernel
theorem dX5_reset_61 : decode cX5_reset 61 = .ok (.getfield 7, 3) := by decide +kernel
theorem dX5_reset_64 : decode cX5_reset 64 = .ok (.iconst 1, 1) := by decide +kernel
theorem dX5_reset_65 : decode cX5_reset 65 = .ok (.iaload, 1) := by decide +kernel
theorem dX5_reset_66 : decode cX5_reset 66 = .ok (.iastore, 1) := by decide +kernel
theorem dX5_reset_67 : decode cX5_reset 67 = .ok (.aload_n 0, 1) := by decide +kernel
theorem dX5_reset_68 : decode cX5_reset 68 = .ok (.getfield 7, 3) := by decide +kernel
theorem dX5_reset_71 : decode cX5_reset 71 = .ok (.bipush 12, 2) := by decide +kernel
theorem dX5_reset_73 : decode cX5_reset 73 = .ok (.iconst 0, 1) := by decide +kernel
theorem dX5_reset_74 : decode cX5_reset 74 = .ok (.iastore, 1) := by decide +kernel
theorem dX5_reset_75 : decode cX5_reset 75 = .ok (.iload_n 1, 1) := by decide +kernel
theorem dX5_reset_76 : decode cX5_reset 76 = .ok (.ireturn, 1) := by decide +kernel
theorem dX5_of_0 : decode cX5_of 0 = .ok (.iload_n 1, 1) := by decide +kernel
theorem dX5_of_1 : decode cX5_of 1 = .ok (.iconst 0, 1) := by decide +kernel
theorem dX5_of_2 : decode cX5_of 2 = .ok (.iconst 1, 1) := by decide +kernel
theorem dX5_of_3 : decode cX5_of 3 = .ok (.invokestatic 26, 3) := by decide +kernel
theorem dX5_of_6 : decode cX5_of 6 = .ok (.ifCond .ne 5, 3) := by decide +kernel
theorem dX5_of_9 : decode cX5_of 9 = .ok (.iconst (-1), 1) := by decide +kernel
theorem dX5_of_10 : decode cX5_of 10 = .ok (.ireturn, 1) := by decide +kernel
theorem dX5_of_11 : decode cX5_of 11 = .ok (.aload_n 0, 1) := by decide +kernel
theorem dX5_of_12 : decode cX5_of 12 = .ok (.getfield 7, 3) := by decide +kernel
theorem dX5_of_15 : decode cX5_of 15 = .ok (.bipush 10, 2) := by decide +kernel
theorem dX5_of_17 : decode cX5_of 17 = .ok (.iload_n 1, 1) := by decide +kernel
theorem dX5_of_18 : decode cX5_of 18 = .ok (.iadd, 1) := by decide +kernel
theorem dX5_of_19 : decode cX5_of 19 = .ok (.iaload, 1) := by decide +kernel
theorem dX5_of_20 : decode cX5_of 20 = .ok (.istore_n 3, 1) := by decide +kernel
theorem dX5_of_21 : decode cX5_of 21 = .ok (.iload_n 2, 1) := by decide +kernel
theorem dX5_of_22 : decode cX5_of 22 = .ok (.tableswitch 85 0 3 #[30, 40, 53, 64], 30) := by decide +kernel
theorem dX5_of_52 : decode cX5_of 52 = .ok (.aload_n 0, 1) := by decide +kernel
theorem dX5_of_53 : decode cX5_of 53 = .ok (.getfield 7, 3) := by decide +kernel
theorem dX5_of_56 : decode cX5_of 56 = .ok (.bipush 7, 2) := by decide +kernel
theorem dX5_of_58 : decode cX5_of 58 = .ok (.iload_n 1, 1) := by decide +kernel
theorem dX5_of_59 : decode cX5_of 59 = .ok (.iadd, 1) := by decide +kernel
theorem dX5_of_60 : decode cX5_of 60 = .ok (.iaload, 1) := by decide +kernel
theorem dX5_of_61 : decode cX5_of 61 = .ok (.ireturn, 1) := by decide +kernel
theorem dX5_of_62 : decode cX5_of 62 = .ok (.aload_n 0, 1) := by decide +kernel
theorem dX5_of_63 : decode cX5_of 63 = .ok (.getfield 7, 3) := by decide +kernel
theorem dX5_of_66 : decode cX5_of 66 = .ok (.bipush 14, 2) := by decide +kernel
theorem dX5_of_68 : decode cX5_of 68 = .ok (.iload_n 1, 1) := by decide +kernel
theorem dX5_of_69 : decode cX5_of 69 = .ok (.iadd, 1) := by decide +kernel
theorem dX5_of_70 : decode cX5_of 70 = .ok (.iaload, 1) := by decide +kernel
theorem dX5_of_71 : decode cX5_of 71 = .ok (.bipush 100, 2) := by decide +kernel
theorem dX5_of_73 : decode cX5_of 73 = .ok (.iadd, 1) := by decide +kernel
theorem dX5_of_74 : decode cX5_of 74 = .ok (.ireturn, 1) := by decide +kernel
theorem dX5_of_75 : decode cX5_of 75 = .ok (.iload_n 3, 1) := by decide +kernel
theorem dX5_of_76 : decode cX5_of 76 = .ok (.ifCond .ge 8, 3) := by decide +kernel
theorem dX5_of_79 : decode cX5_of 79 = .ok (.bipush (-6), 2) := by decide +kernel
theorem dX5_of_81 : decode cX5_of 81 = .ok (.goto 4, 3) := by decide +kernel
theorem dX5_of_84 : decode cX5_of 84 = .ok (.iload_n 3, 1) := by decide +kernel
theorem dX5_of_85 : decode cX5_of 85 = .ok (.ireturn, 1) := by decide +kernel
theorem dX5_of_86 : decode cX5_of 86 = .ok (.iload_n 3, 1) := by decide +kernel
theorem dX5_of_87 : decode cX5_of 87 = .ok (.ifCond .ge 8, 3) := by decide +kernel
theorem dX5_of_90 : decode cX5_of 90 = .ok (.bipush (-6), 2) := by decide +kernel
theorem dX5_of_92 : decode cX5_of 92 = .ok (.goto 14, 3) := by decide +kernel
theorem dX5_of_95 : decode cX5_of 95 = .ok (.aload_n 0, 1) := by decide +kernel
theorem dX5_of_96 : decode cX5_of 96 = .ok (.iconst 0, 1) := by decide +kernel
theorem dX5_of_97 : decode cX5_of 97 = .ok (.iload_n 1, 1) := by decide +kernel
theorem dX5_of_98 : decode cX5_of 98 = .ok (.iload_n 3, 1) := by decide +kernel
theorem dX5_of_99 : decode cX5_of 99 = .ok (.invokevirtual 34, 3) := by decide +kernel
theorem dX5_of_102 : decode cX5_of 102 = .ok (.sipush 1000, 3) := by decide +kernel
theorem dX5_of_105 : decode cX5_of 105 = .ok (.iadd, 1) := by decide +kernel
theorem dX5_of_106 : decode cX5_of 106 = .ok (.ireturn, 1) := by decide +kernel
theorem dX5_of_107 : decode cX5_of 107 = .ok (.bipush (-2), 2) := by decide +kernel
theorem dX5_of_109 : decode cX5_of 109 = .ok (.ireturn, 1) := by decide +kernel
theorem dX5_direction_0 : decode cX5_direction 0 = .ok (.iload_n 1, 1) := by decide +kernel
theorem dX5_direction_1 : decode cX5_direction 1 = .ok (.iconst 0, 1) := by decide +kernel
theorem dX5_direction_2 : decode cX5_direction 2 = .ok (.aload_n 0, 1) := by decide +kernel
theorem dX5_direction_3 : decode cX5_direction 3 = .ok (.getfield 7, 3) := by decide +kernel
theorem dX5_direction_6 : decode cX5_direction 6 = .ok (.bipush 22, 2) := by decide +kernel
theorem dX5_direction_8 : decode cX5_direction 8 = .ok (.iaload, 1) := by decide +kernel
theorem dX5_direction_9 : decode cX5_direction 9 = .ok (.iconst 1, 1) := by decide +kernel
theorem dX5_direction_10 : decode cX5_direction 10 = .ok (.isub, 1) := by decide +kernel
theorem dX5_direction_11 : decode cX5_direction 11 = .ok (.invokestatic 26, 3) := by decide +kernel
theorem dX5_direction_14 : decode cX5_direction 14 = .ok (.ifCond .ne 5, 3) := by decide +kernel
theorem dX5_direction_17 : decode cX5_direction 17 = .ok (.iconst (-1), 1) := by decide +kernel
theorem dX5_direction_18 : decode cX5_direction 18 = .ok (.ireturn, 1) := by decide +kernel
theorem dX5_direction_19 : decode cX5_direction 19 = .ok (.iload_n 2, 1) := by decide +kernel
theorem dX5_direction_20 : decode cX5_direction 20 = .ok (.iconst 0, 1) := by decide +kernel
theorem dX5_direction_21 : decode cX5_direction 21 = .ok (.iconst 3, 1) := by decide +kernel
theorem dX5_direction_22 : decode cX5_direction 22 = .ok (.invokestatic 26, 3) := by decide +kernel
theorem dX5_direction_25 : decode cX5_direction 25 = .ok (.ifCond .eq 19, 3) := by decide +kernel
theorem dX5_direction_28 : decode cX5_direction 28 = .ok (.aload_n 0, 1) := by decide +kernel
theorem dX5_direction_29 : decode cX5_direction 29 = .ok (.getfield 7, 3) := by decide +kernel
theorem dX5_direction_32 : decode cX5_direction 32 = .ok (.bipush 25, 2) := by decide +kernel
theorem dX5_direction_34 : decode cX5_direction 34 = .ok (.iconst 4, 1) := by decide +kernel
theorem dX5_direction_35 : decode cX5_direction 35 = .ok (.iload_n 1, 1) := by decide +kernel
theorem dX5_direction_36 : decode cX5_direction 36 = .ok (.imul, 1) := by decide +kernel
theorem dX5_direction_37 : decode cX5_direction 37 = .ok (.iadd, 1) := by decide +kernel
theorem dX5_direction_38 : decode cX5_direction 38 = .ok (.iload_n 2, 1) := by decide +kernel
theorem dX5_direction_39 : decode cX5_direction 39 = .ok (.iadd, 1) := by decide +kernel
theorem dX5_direction_40 : decode cX5_direction 40 = .ok (.iaload, 1) := by decide +kernel
theorem dX5_direction_41 : decode cX5_direction 41 = .ok (.goto 5, 3) := by decide +kernel
theorem dX5_direction_44 : decode cX5_direction 44 = .ok (.bipush (-2), 2) := by decide +kernel
theorem dX5_direction_46 : decode cX5_direction 46 = .ok (.ireturn, 1) := by decide +kernel
theorem dX5_count_0 : decode cX5_count 0 = .ok (.iload_n 1, 1) := by decide +kernel
theorem dX5_count_1 : decode cX5_count 1 = .ok (.tableswitch 181 0 18 #[91, 99, 107, 115, 123, 131, 139, 147, 155, 163, 181, 181, 181, 181, 181, 181, 181, 171, 176], 91) := by decide +kernel
theorem dX5_count_92 : decode cX5_count 92 = .ok (.aload_n 0, 1) := by decide +kernel
theorem dX5_count_93 : decode cX5_count 93 = .ok (.getfield 7, 3) := by decide +kernel
theorem dX5_count_96 : decode cX5_count 96 = .ok (.bipush 21, 2) := by decide +kernel
theorem dX5_count_98 : decode cX5_count 98 = .ok (.iaload, 1) := by decide +kernel
theorem dX5_count_99 : decode cX5_count 99 = .ok (.ireturn, 1) := by decide +kernel
theorem dX5_count_100 : decode cX5_count 100 = .ok (.aload_n 0, 1) := by decide +kernel
theorem dX5_count_101 : decode cX5_count 101 = .ok (.getfield 7, 3) := by decide +kernel
theorem dX5_count_104 : decode cX5_count 104 = .ok (.bipush 9, 2) := by decide +kernel
theorem dX5_count_106 : decode cX5_count 106 = .ok (.iaload, 1) := by decide +kernel
theorem dX5_count_107 : decode cX5_count 107 = .ok (.ireturn, 1) := by decide +kernel
theorem dX5_count_108 : decode cX5_count 108 = .ok (.aload_n 0, 1) := by decide +kernel
theorem dX5_count_109 : decode cX5_count 109 = .ok (.getfield 7, 3) := by decide +kernel
theorem dX5_count_112 : decode cX5_count 112 = .ok (.bipush 12, 2) := by decide +kernel
theorem dX5_count_114 : decode cX5_count 114 = .ok (.iaload, 1) := by decide +kernel
theorem dX5_count_115 : decode cX5_count 115 = .ok (.ireturn, 1) := by decide +kernel
theorem dX5_count_116 : decode cX5_count 116 = .ok (.aload_n 0, 1) := by decide +kernel
theorem dX5_count_117 : decode cX5_count 117 = .ok (.getfield 7, 3) := by decide +kernel
theorem dX5_count_120 : decode cX5_count 120 = .ok (.bipush 13, 2) := by decide +kernel
theorem dX5_count_122 : decode cX5_count 122 = .ok (.iaload, 1) := by decide +kernel
theorem dX5_count_123 : decode cX5_count 123 = .ok (.ireturn, 1) := by decide +kernel
theorem dX5_count_124 : decode cX5_count 124 = .ok (.aload_n 0, 1) := by decide +kernel
theorem dX5_count_125 : decode cX5_count 125 = .ok (.getfield 7, 3) := by decide +kernel
theorem dX5_count_128 : decode cX5_count 128 = .ok (.bipush 16, 2) := by decide +kernel
theorem dX5_count_130 : decode cX5_count 130 = .ok (.iaload, 1) := by decide +kernel
theorem dX5_count_131 : decode cX5_count 131 = .ok (.ireturn, 1) := by decide +kernel
theorem dX5_count_132 : decode cX5_count 132 = .ok (.aload_n 0, 1) := by decide +kernel
theorem dX5_count_133 : decode cX5_count 133 = .ok (.getfield 7, 3) := by decide +kernel
theorem dX5_count_136 : decode cX5_count 136 = .ok (.bipush 17, 2) := by decide +kernel
theorem dX5_count_138 : decode cX5_count 138 = .ok (.iaload, 1) := by decide +kernel
theorem dX5_count_139 : decode cX5_count 139 = .ok (.ireturn, 1) := by decide +kernel
theorem dX5_count_140 : decode cX5_count 140 = .ok (.aload_n 0, 1) := by decide +kernel
theorem dX5_count_141 : decode cX5_count 141 = .ok (.getfield 7, 3) := by decide +kernel
theorem dX5_count_144 : decode cX5_count 144 = .ok (.bipush 18, 2) := by decide +kernel
theorem dX5_count_146 : decode cX5_count 146 = .ok (.iaload, 1) := by decide +kernel
theorem dX5_count_147 : decode cX5_count 147 = .ok (.ireturn, 1) := by decide +kernel
theorem dX5_count_148 : decode cX5_count 148 = .ok (.aload_n 0, 1) := by decide +kernel
theorem dX5_count_149 : decode cX5_count 149 = .ok (.getfield 7, 3) := by decide +kernel
theorem dX5_count_152 : decode cX5_count 152 = .ok (.bipush 19, 2) := by decide +kernel
theorem dX5_count_154 : decode cX5_count 154 = .ok (.iaload, 1) := by decide +kernel
theorem dX5_count_155 : decode cX5_count 155 = .ok (.ireturn, 1) := by decide +kernel
theorem dX5_count_156 : decode cX5_count 156 = .ok (.aload_n 0, 1) := by decide +kernel
theorem dX5_count_157 : decode cX5_count 157 = .ok (.getfield 7, 3) := by decide +kernel
theorem dX5_count_160 : decode cX5_count 160 = .ok (.bipush 22, 2) := by decide +kernel
theorem dX5_count_162 : decode cX5_count 162 = .ok (.iaload, 1) := by decide +kernel
theorem dX5_count_163 : decode cX5_count 163 = .ok (.ireturn, 1) := by decide +kernel
theorem dX5_count_164 : decode cX5_count 164 = .ok (.aload_n 0, 1) := by decide +kernel
theorem dX5_count_165 : decode cX5_count 165 = .ok (.getfield 7, 3) := by decide +kernel
theorem dX5_count_168 : decode cX5_count 168 = .ok (.bipush 20, 2) := by decide +kernel
theorem dX5_count_170 : decode cX5_count 170 = .ok (.iaload, 1) := by decide +kernel
theorem dX5_count_171 : decode cX5_count 171 = .ok (.ireturn, 1) := by decide +kernel
theorem dX5_count_172 : decode cX5_count 172 = .ok (.aload_n 0, 1) := by decide +kernel
theorem dX5_count_173 : decode cX5_count 173 = .ok (.getfield 108, 3) := by decide +kernel
theorem dX5_count_176 : decode cX5_count 176 = .ok (.ireturn, 1) := by decide +kernel
theorem dX5_count_177 : decode cX5_count 177 = .ok (.aload_n 0, 1) := by decide +kernel
theorem dX5_count_178 : decode cX5_count 178 = .ok (.getfield 30, 3) := by decide +kernel
theorem dX5_count_181 : decode cX5_count 181 = .ok (.ireturn, 1) := by decide +kernel
theorem dX5_count_182 : decode cX5_count 182 = .ok (.iload_n 1, 1) := by decide +kernel
theorem dX5_count_183 : decode cX5_count 183 = .ok (.bipush 10, 2) := by decide +kernel
theorem dX5_count_185 : decode cX5_count 185 = .ok (.bipush 16, 2) := by decide +kernel
theorem dX5_count_187 : decode cX5_count 187 = .ok (.invokestatic 26, 3) := by decide +kernel
theorem dX5_count_190 : decode cX5_count 190 = .ok (.ifCond .eq 15, 3) := by decide +kernel
theorem dX5_count_193 : decode cX5_count 193 = .ok (.aload_n 0, 1) := by decide +kernel
theorem dX5_count_194 : decode cX5_count 194 = .ok (.getfield 7, 3) := by decide +kernel
theorem dX5_count_197 : decode cX5_count 197 = .ok (.iload_n 1, 1) := by decide +kernel
theorem dX5_count_198 : decode cX5_count 198 = .ok (.bipush 10, 2) := by decide +kernel
theorem dX5_count_200 : decode cX5_count 200 = .ok (.isub, 1) := by decide +kernel
theorem dX5_count_201 : decode cX5_count 201 = .ok (.iaload, 1) := by decide +kernel
theorem dX5_count_202 : decode cX5_count 202 = .ok (.goto 5, 3) := by decide +kernel
theorem dX5_count_205 : decode cX5_count 205 = .ok (.bipush (-2), 2) := by decide +kernel
theorem dX5_count_207 : decode cX5_count 207 = .ok (.ireturn, 1) := by decide +kernel
theorem dX5_wouldTell_0 : decode cX5_wouldTell 0 = .ok (.iload_n 1, 1) := by decide +kernel
theorem dX5_wouldTell_1 : decode cX5_wouldTell 1 = .ok (.iload_n 2, 1) := by decide +kernel
theorem dX5_wouldTell_2 : decode cX5_wouldTell 2 = .ok (.invokestatic 82, 3) := by decide +kernel
theorem dX5_wouldTell_5 : decode cX5_wouldTell 5 = .ok (.ifCond .ne 6, 3) := by decide +kernel
theorem dX5_wouldTell_8 : decode cX5_wouldTell 8 = .ok (.bipush (-2), 2) := by decide +kernel
theorem dX5_wouldTell_10 : decode cX5_wouldTell 10 = .ok (.ireturn, 1) := by decide +kernel
theorem dX5_wouldTell_11 : decode cX5_wouldTell 11 = .ok (.aload_n 0, 1) := by decide +kernel
theorem dX5_wouldTell_12 : decode cX5_wouldTell 12 = .ok (.invokevirtual 111, 3) := by decide +kernel
theorem dX5_wouldTell_15 : decode cX5_wouldTell 15 = .ok (.aload_n 0, 1) := by decide +kernel
theorem dX5_wouldTell_16 : decode cX5_wouldTell 16 = .ok (.bipush 61, 2) := by decide +kernel
theorem dX5_wouldTell_18 : decode cX5_wouldTell 18 = .ok (.iload_n 1, 1) := by decide +kernel
theorem dX5_wouldTell_19 : decode cX5_wouldTell 19 = .ok (.iload_n 2, 1) := by decide +kernel
theorem dX5_wouldTell_20 : decode cX5_wouldTell 20 = .ok (.invokevirtual 89, 3) := by decide +kernel
theorem dX5_wouldTell_23 : decode cX5_wouldTell 23 = .ok (.aload_n 0, 1) := by decide +kernel
theorem dX5_wouldTell_24 : decode cX5_wouldTell 24 = .ok (.bipush 61, 2) := by decide +kernel
theorem dX5_wouldTell_26 : decode cX5_wouldTell 26 = .ok (.invokevirtual 92, 3) := by decide +kernel
theorem dX5_wouldTell_29 : decode cX5_wouldTell 29 = .ok (.ireturn, 1) := by decide +kernel
theorem dX5_learnedIn_0 : decode cX5_learnedIn 0 = .ok (.iload_n 1, 1) := by decide +kernel
theorem dX5_learnedIn_1 : decode cX5_learnedIn 1 = .ok (.iload_n 2, 1) := by decide +kernel
theorem dX5_learnedIn_2 : decode cX5_learnedIn 2 = .ok (.invokestatic 82, 3) := by decide +kernel
theorem dX5_learnedIn_5 : decode cX5_learnedIn 5 = .ok (.ifCond .ne 6, 3) := by decide +kernel
theorem dX5_learnedIn_8 : decode cX5_learnedIn 8 = .ok (.bipush (-2), 2) := by decide +kernel
theorem dX5_learnedIn_10 : decode cX5_learnedIn 10 = .ok (.ireturn, 1) := by decide +kernel
theorem dX5_learnedIn_11 : decode cX5_learnedIn 11 = .ok (.aload_n 0, 1) := by decide +kernel
theorem dX5_learnedIn_12 : decode cX5_learnedIn 12 = .ok (.invokevirtual 111, 3) := by decide +kernel
theorem dX5_learnedIn_15 : decode cX5_learnedIn 15 = .ok (.iconst 0, 1) := by decide +kernel
theorem dX5_learnedIn_16 : decode cX5_learnedIn 16 = .ok (.istore_n 3, 1) := by decide +kernel
theorem dX5_learnedIn_17 : decode cX5_learnedIn 17 = .ok (.iload_n 3, 1) := by decide +kernel
theorem dX5_learnedIn_18 : decode cX5_learnedIn 18 = .ok (.sipush 500, 3) := by decide +kernel
theorem dX5_learnedIn_21 : decode cX5_learnedIn 21 = .ok (.if_icmp .gt 30, 3) := by decide +kernel
theorem dX5_learnedIn_24 : decode cX5_learnedIn 24 = .ok (.aload_n 0, 1) := by decide +kernel
theorem dX5_learnedIn_25 : decode cX5_learnedIn 25 = .ok (.bipush 61, 2) := by decide +kernel
theorem dX5_learnedIn_27 : decode cX5_learnedIn 27 = .ok (.iload_n 1, 1) := by decide +kernel
theorem dX5_learnedIn_28 : decode cX5_learnedIn 28 = .ok (.iload_n 2, 1) := by decide +kernel
theorem dX5_learnedIn_29 : decode cX5_learnedIn 29 = .ok (.invokevirtual 50, 3) := by decide +kernel
theorem dX5_learnedIn_32 : decode cX5_learnedIn 32 = .ok (.ifCond .ne 5, 3) := by decide +kernel
theorem dX5_learnedIn_35 : decode cX5_learnedIn 35 = .ok (.iload_n 3, 1) := by decide +kernel
theorem dX5_learnedIn_36 : decode cX5_learnedIn 36 = .ok (.ireturn, 1) := by decide +kernel
theorem dX5_learnedIn_37 : decode cX5_learnedIn 37 = .ok (.aload_n 0, 1) := by decide +kernel
theorem dX5_learnedIn_38 : decode cX5_learnedIn 38 = .ok (.bipush 61, 2) := by decide +kernel
theorem dX5_learnedIn_40 : decode cX5_learnedIn 40 = .ok (.iload_n 1, 1) := by decide +kernel
theorem dX5_learnedIn_41 : decode cX5_learnedIn 41 = .ok (.iload_n 2, 1) := by decide +kernel
theorem dX5_learnedIn_42 : decode cX5_learnedIn 42 = .ok (.invokevirtual 89, 3) := by decide +kernel
theorem dX5_learnedIn_45 : decode cX5_learnedIn 45 = .ok (.iinc 3 1, 3) := by decide +kernel
theorem dX5_learnedIn_48 : decode cX5_learnedIn 48 = .ok (.goto (-31), 3) := by decide +kernel
theorem dX5_learnedIn_51 : decode cX5_learnedIn 51 = .ok (.bipush (-6), 2) := by decide +kernel
theorem dX5_learnedIn_53 : decode cX5_learnedIn 53 = .ok (.ireturn, 1) := by decide +kernel
theorem dX5_edge_0 : decode cX5_edge 0 = .ok (.iload_n 1, 1) := by decide +kernel
theorem dX5_edge_1 : decode cX5_edge 1 = .ok (.iconst 0, 1) := by decide +kernel
theorem dX5_edge_2 : decode cX5_edge 2 = .ok (.iconst 1, 1) := by decide +kernel
theorem dX5_edge_3 : decode cX5_edge 3 = .ok (.invokestatic 26, 3) := by decide +kernel
theorem dX5_edge_6 : decode cX5_edge 6 = .ok (.ifCond .ne 5, 3) := by decide +kernel
theorem dX5_edge_9 : decode cX5_edge 9 = .ok (.iconst (-1), 1) := by decide +kernel
theorem dX5_edge_10 : decode cX5_edge 10 = .ok (.ireturn, 1) := by decide +kernel
theorem dX5_edge_11 : decode cX5_edge 11 = .ok (.iload_n 2, 1) := by decide +kernel
theorem dX5_edge_12 : decode cX5_edge 12 = .ok (.iconst 0, 1) := by decide +kernel
theorem dX5_edge_13 : decode cX5_edge 13 = .ok (.iconst 1, 1) := by decide +kernel
theorem dX5_edge_14 : decode cX5_edge 14 = .ok (.invokestatic 26, 3) := by decide +kernel
theorem dX5_edge_17 : decode cX5_edge 17 = .ok (.ifCond .ne 6, 3) := by decide +kernel
theorem dX5_edge_20 : decode cX5_edge 20 = .ok (.bipush (-2), 2) := by decide +kernel
theorem dX5_edge_22 : decode cX5_edge 22 = .ok (.ireturn, 1) := by decide +kernel
theorem dX5_edge_23 : decode cX5_edge 23 = .ok (.aload_n 0, 1) := by decide +kernel
theorem dX5_edge_24 : decode cX5_edge 24 = .ok (.getfield 7, 3) := by decide +kernel
theorem dX5_edge_27 : decode cX5_edge 27 = .ok (.bipush 7, 2) := by decide +kernel
theorem dX5_edge_29 : decode cX5_edge 29 = .ok (.iaload, 1) := by decide +kernel
theorem dX5_edge_30 : decode cX5_edge 30 = .ok (.bipush 16, 2) := by decide +kernel
theorem dX5_edge_32 : decode cX5_edge 32 = .ok (.idiv, 1) := by decide +kernel
theorem dX5_edge_33 : decode cX5_edge 33 = .ok (.istore_n 3, 1) := by decide +kernel
theorem dX5_edge_34 : decode cX5_edge 34 = .ok (.aload_n 0, 1) := by decide +kernel
theorem dX5_edge_35 : decode cX5_edge 35 = .ok (.getfield 7, 3) := by decide +kernel
theorem dX5_edge_38 : decode cX5_edge 38 = .ok (.bipush 8, 2) := by decide +kernel
theorem dX5_edge_40 : decode cX5_edge 40 = .ok (.iaload, 1) := by decide +kernel
theorem dX5_edge_41 : decode cX5_edge 41 = .ok (.bipush 16, 2) := by decide +kernel
theorem dX5_edge_43 : decode cX5_edge 43 = .ok (.idiv, 1) := by decide +kernel
theorem dX5_edge_44 : decode cX5_edge 44 = .ok (.istore 4, 2) := by decide +kernel
theorem dX5_edge_46 : decode cX5_edge 46 = .ok (.iconst 1, 1) := by decide +kernel
theorem dX5_edge_47 : decode cX5_edge 47 = .ok (.istore 5, 2) := by decide +kernel
theorem dX5_edge_49 : decode cX5_edge 49 = .ok (.iload 5, 2) := by decide +kernel
theorem dX5_edge_51 : decode cX5_edge 51 = .ok (.sipush 255, 3) := by decide +kernel
theorem dX5_edge_54 : decode cX5_edge 54 = .ok (.if_icmp .gt 91, 3) := by decide +kernel
theorem dX5_edge_57 : decode cX5_edge 57 = .ok (.iload_n 2, 1) := by decide +kernel
theorem dX5_edge_58 : decode cX5_edge 58 = .ok (.iconst 1, 1) := by decide +kernel
theorem dX5_edge_59 : decode cX5_edge 59 = .ok (.if_icmp .ne 8, 3) := by decide +kernel
theorem dX5_edge_62 : decode cX5_edge 62 = .ok (.iload 5, 2) := by decide +kernel
theorem dX5_edge_64 : decode cX5_edge 64 = .ok (.goto 6, 3) := by decide +kernel
theorem dX5_edge_67 : decode cX5_edge 67 = .ok (.iload 5, 2) := by decide +kernel
theorem dX5_edge_69 : decode cX5_edge 69 = .ok (.ineg, 1) := by decide +kernel
theorem dX5_edge_70 : decode cX5_edge 70 = .ok (.istore 6, 2) := by decide +kernel
theorem dX5_edge_72 : decode cX5_edge 72 = .ok (.iload_n 1, 1) := by decide +kernel
theorem dX5_edge_73 : decode cX5_edge 73 = .ok (.ifCond .ne 10, 3) := by decide +kernel
theorem dX5_edge_76 : decode cX5_edge 76 = .ok (.iload_n 3, 1) := by decide +kernel
theorem dX5_edge_77 : decode cX5_edge 77 = .ok (.iload 6, 2) := by decide +kernel
theorem dX5_edge_79 : decode cX5_edge 79 = .ok (.iadd, 1) := by decide +kernel
theorem dX5_edge_80 : decode cX5_edge 80 = .ok (.goto 4, 3) := by decide +kernel
theorem dX5_edge_83 : decode cX5_edge 83 = .ok (.iload_n 3, 1) := by decide +kernel
theorem dX5_edge_84 : decode cX5_edge 84 = .ok (.istore 7, 2) := by decide +kernel
theorem dX5_edge_86 : decode cX5_edge 86 = .ok (.iload_n 1, 1) := by decide +kernel
theorem dX5_edge_87 : decode cX5_edge 87 = .ok (.iconst 1, 1) := by decide +kernel
theorem dX5_edge_88 : decode cX5_edge 88 = .ok (.if_icmp .ne 11, 3) := by decide +kernel
theorem dX5_edge_91 : decode cX5_edge 91 = .ok (.iload 4, 2) := by decide +kernel
theorem dX5_edge_93 : decode cX5_edge 93 = .ok (.iload 6, 2) := by decide +kernel
theorem dX5_edge_95 : decode cX5_edge 95 = .ok (.iadd, 1) := by decide +kernel
theorem dX5_edge_96 : decode cX5_edge 96 = .ok (.goto 5, 3) := by decide +kernel
theorem dX5_edge_99 : decode cX5_edge 99 = .ok (.iload 4, 2) := by decide +kernel
theorem dX5_edge_101 : decode cX5_edge 101 = .ok (.istore 8, 2) := by decide +kernel
theorem dX5_edge_103 : decode cX5_edge 103 = .ok (.iload 7, 2) := by decide +kernel
theorem dX5_edge_105 : decode cX5_edge 105 = .ok (.iload 8, 2) := by decide +kernel
theorem dX5_edge_107 : decode cX5_edge 107 = .ok (.invokestatic 82, 3) := by decide +kernel
theorem dX5_edge_110 : decode cX5_edge 110 = .ok (.ifCond .eq 29, 3) := by decide +kernel
theorem dX5_edge_113 : decode cX5_edge 113 = .ok (.aload_n 0, 1) := by decide +kernel
theorem dX5_edge_114 : decode cX5_edge 114 = .ok (.invokevirtual 111, 3) := by decide +kernel
theorem dX5_edge_117 : decode cX5_edge 117 = .ok (.aload_n 0, 1) := by decide +kernel
theorem dX5_edge_118 : decode cX5_edge 118 = .ok (.bipush 61, 2) := by decide +kernel
theorem dX5_edge_120 : decode cX5_edge 120 = .ok (.iload 7, 2) := by decide +kernel
theorem dX5_edge_122 : decode cX5_edge 122 = .ok (.iload 8, 2) := by decide +kernel
theorem dX5_edge_124 : decode cX5_edge 124 = .ok (.invokevirtual 89, 3) := by decide +kernel
theorem dX5_edge_127 : decode cX5_edge 127 = .ok (.aload_n 0, 1) := by decide +kernel
theorem dX5_edge_128 : decode cX5_edge 128 = .ok (.bipush 61, 2) := by decide +kernel
theorem dX5_edge_130 : decode cX5_edge 130 = .ok (.invokevirtual 46, 3) := by decide +kernel
theorem dX5_edge_133 : decode cX5_edge 133 = .ok (.ifCond .eq 6, 3) := by decide +kernel
theorem dX5_edge_136 : decode cX5_edge 136 = .ok (.iload 5, 2) := by decide +kernel
theorem dX5_edge_138 : decode cX5_edge 138 = .ok (.ireturn, 1) := by decide +kernel
theorem dX5_edge_139 : decode cX5_edge 139 = .ok (.iinc 5 1, 3) := by decide +kernel
theorem dX5_edge_142 : decode cX5_edge 142 = .ok (.goto (-93), 3) := by decide +kernel
theorem dX5_edge_145 : decode cX5_edge 145 = .ok (.bipush (-6), 2) := by decide +kernel
theorem dX5_edge_147 : decode cX5_edge 147 = .ok (.ireturn, 1) := by decide +kernel
theorem dX5_driftsIn_0 : decode cX5_driftsIn 0 = .ok (.iload_n 1, 1) := by decide +kernel
theorem dX5_driftsIn_1 : decode cX5_driftsIn 1 = .ok (.iload_n 2, 1) := by decide +kernel
theorem dX5_driftsIn_2 : decode cX5_driftsIn 2 = .ok (.invokestatic 82, 3) := by decide +kernel
theorem dX5_driftsIn_5 : decode cX5_driftsIn 5 = .ok (.ifCond .ne 6, 3) := by decide +kernel
theorem dX5_driftsIn_8 : decode cX5_driftsIn 8 = .ok (.bipush (-2), 2) := by decide +kernel
theorem dX5_driftsIn_10 : decode cX5_driftsIn 10 = .ok (.ireturn, 1) := by decide +kernel
theorem dX5_driftsIn_11 : decode cX5_driftsIn 11 = .ok (.aload_n 0, 1) := by decide +kernel
theorem dX5_driftsIn_12 : decode cX5_driftsIn 12 = .ok (.invokevirtual 111, 3) := by decide +kernel
theorem dX5_driftsIn_15 : decode cX5_driftsIn 15 = .ok (.iconst 1, 1) := by decide +kernel
theorem dX5_driftsIn_16 : decode cX5_driftsIn 16 = .ok (.istore_n 3, 1) := by decide +kernel
theorem dX5_driftsIn_17 : decode cX5_driftsIn 17 = .ok (.iload_n 3, 1) := by decide +kernel
theorem dX5_driftsIn_18 : decode cX5_driftsIn 18 = .ok (.sipush 200, 3) := by decide +kernel
theorem dX5_driftsIn_21 : decode cX5_driftsIn 21 = .ok (.if_icmp .gt 36, 3) := by decide +kernel
theorem dX5_driftsIn_24 : decode cX5_driftsIn 24 = .ok (.aload_n 0, 1) := by decide +kernel
theorem dX5_driftsIn_25 : decode cX5_driftsIn 25 = .ok (.bipush 61, 2) := by decide +kernel
theorem dX5_driftsIn_27 : decode cX5_driftsIn 27 = .ok (.iload_n 1, 1) := by decide +kernel
theorem dX5_driftsIn_28 : decode cX5_driftsIn 28 = .ok (.iload_n 2, 1) := by decide +kernel
theorem dX5_driftsIn_29 : decode cX5_driftsIn 29 = .ok (.invokevirtual 89, 3) := by decide +kernel
theorem dX5_driftsIn_32 : decode cX5_driftsIn 32 = .ok (.aload_n 0, 1) := by decide +kernel
theorem dX5_driftsIn_33 : decode cX5_driftsIn 33 = .ok (.getfield 7, 3) := by decide +kernel
theorem dX5_driftsIn_36 : decode cX5_driftsIn 36 = .ok (.bipush 78, 2) := by decide +kernel
theorem dX5_driftsIn_38 : decode cX5_driftsIn 38 = .ok (.iaload, 1) := by decide +kernel
theorem dX5_driftsIn_39 : decode cX5_driftsIn 39 = .ok (.aload_n 0, 1) := by decide +kernel
theorem dX5_driftsIn_40 : decode cX5_driftsIn 40 = .ok (.getfield 7, 3) := by decide +kernel
theorem dX5_driftsIn_43 : decode cX5_driftsIn 43 = .ok (.bipush 17, 2) := by decide +kernel
theorem dX5_driftsIn_45 : decode cX5_driftsIn 45 = .ok (.iaload, 1) := by decide +kernel
theorem dX5_driftsIn_46 : decode cX5_driftsIn 46 = .ok (.if_icmp .le 5, 3) := by decide +kernel
theorem dX5_driftsIn_49 : decode cX5_driftsIn 49 = .ok (.iload_n 3, 1) := by decide +kernel
theorem dX5_driftsIn_50 : decode cX5_driftsIn 50 = .ok (.ireturn, 1) := by decide +kernel
theorem dX5_driftsIn_51 : decode cX5_driftsIn 51 = .ok (.iinc 3 1, 3) := by decide +kernel
theorem dX5_driftsIn_54 : decode cX5_driftsIn 54 = .ok (.goto (-37), 3) := by decide +kernel
theorem dX5_driftsIn_57 : decode cX5_driftsIn 57 = .ok (.bipush (-6), 2) := by decide +kernel
theorem dX5_driftsIn_59 : decode cX5_driftsIn 59 = .ok (.ireturn, 1) := by decide +kernel
theorem dX5_put_0 : decode cX5_put 0 = .ok (.iconst 0, 1) := by decide +kernel
theorem dX5_put_1 : decode cX5_put 1 = .ok (.istore_n 3, 1) := by decide +kernel
theorem dX5_put_2 : decode cX5_put 2 = .ok (.iconst 1, 1) := by decide +kernel
theorem dX5_put_3 : decode cX5_put 3 = .ok (.istore 4, 2) := by decide +kernel
theorem dX5_put_5 : decode cX5_put 5 = .ok (.iconst 0, 1) := by decide +kernel
theorem dX5_put_6 : decode cX5_put 6 = .ok (.istore 5, 2) := by decide +kernel
theorem dX5_put_8 : decode cX5_put 8 = .ok (.iconst 0, 1) := by decide +kernel
theorem dX5_put_9 : decode cX5_put 9 = .ok (.istore 6, 2) := by decide +kernel
theorem dX5_put_11 : decode cX5_put 11 = .ok (.iload 6, 2) := by decide +kernel
theorem dX5_put_13 : decode cX5_put 13 = .ok (.bipush 8, 2) := by decide +kernel
theorem dX5_put_15 : decode cX5_put 15 = .ok (.if_icmp .ge 90, 3) := by decide +kernel
theorem dX5_put_18 : decode cX5_put 18 = .ok (.lload_n 1, 1) := by decide +kernel
theorem dX5_put_19 : decode cX5_put 19 = .ok (.bipush 8, 2) := by decide +kernel
theorem dX5_put_21 : decode cX5_put 21 = .ok (.iload 6, 2) := by decide +kernel
theorem dX5_put_23 : decode cX5_put 23 = .ok (.imul, 1) := by decide +kernel
theorem dX5_put_24 : decode cX5_put 24 = .ok (.lshr, 1) := by decide +kernel
theorem dX5_put_25 : decode cX5_put 25 = .ok (.ldc2_w 114, 3) := by decide +kernel
theorem dX5_put_28 : decode cX5_put 28 = .ok (.land, 1) := by decide +kernel
theorem dX5_put_29 : decode cX5_put 29 = .ok (.l2i, 1) := by decide +kernel
theorem dX5_put_30 : decode cX5_put 30 = .ok (.istore 7, 2) := by decide +kernel
theorem dX5_put_32 : decode cX5_put 32 = .ok (.iload 5, 2) := by decide +kernel
theorem dX5_put_34 : decode cX5_put 34 = .ok (.ifCond .ne 8, 3) := by decide +kernel
theorem dX5_put_37 : decode cX5_put 37 = .ok (.iload 7, 2) := by decide +kernel
theorem dX5_put_39 : decode cX5_put 39 = .ok (.ifCond .ne 7, 3) := by decide +kernel
theorem dX5_put_42 : decode cX5_put 42 = .ok (.iconst 1, 1) := by decide +kernel
theorem dX5_put_43 : decode cX5_put 43 = .ok (.goto 4, 3) := by decide +kernel
theorem dX5_put_46 : decode cX5_put 46 = .ok (.iconst 0, 1) := by decide +kernel
theorem dX5_put_47 : decode cX5_put 47 = .ok (.istore 5, 2) := by decide +kernel
theorem dX5_put_49 : decode cX5_put 49 = .ok (.iload 4, 2) := by decide +kernel
theorem dX5_put_51 : decode cX5_put 51 = .ok (.ifCond .eq 32, 3) := by decide +kernel
theorem dX5_put_54 : decode cX5_put 54 = .ok (.iload 5, 2) := by decide +kernel
theorem dX5_put_56 : decode cX5_put 56 = .ok (.ifCond .eq 11, 3) := by decide +kernel
theorem dX5_put_59 : decode cX5_put 59 = .ok (.iload 7, 2) := by decide +kernel
theorem dX5_put_61 : decode cX5_put 61 = .ok (.ifCond .ne 22, 3) := by decide +kernel
theorem dX5_put_64 : decode cX5_put 64 = .ok (.goto 15, 3) := by decide +kernel
theorem dX5_put_67 : decode cX5_put 67 = .ok (.iload 7, 2) := by decide +kernel
theorem dX5_put_69 : decode cX5_put 69 = .ok (.bipush 33, 2) := by decide +kernel
theorem dX5_put_71 : decode cX5_put 71 = .ok (.bipush 126, 2) := by decide +kernel
theorem dX5_put_73 : decode cX5_put 73 = .ok (.invokestatic 26, 3) := by decide +kernel
theorem dX5_put_76 : decode cX5_put 76 = .ok (.ifCond .eq 7, 3) := by decide +kernel
theorem dX5_put_79 : decode cX5_put 79 = .ok (.iconst 1, 1) := by decide +kernel
theorem dX5_put_80 : decode cX5_put 80 = .ok (.goto 4, 3) := by decide +kernel
theorem dX5_put_83 : decode cX5_put 83 = .ok (.iconst 0, 1) := by decide +kernel
theorem dX5_put_84 : decode cX5_put 84 = .ok (.istore 4, 2) := by decide +kernel
theorem dX5_put_86 : decode cX5_put 86 = .ok (.iload_n 3, 1) := by decide +kernel
theorem dX5_put_87 : decode cX5_put 87 = .ok (.iload 5, 2) := by decide +kernel
theorem dX5_put_89 : decode cX5_put 89 = .ok (.ifCond .eq 7, 3) := by decide +kernel
theorem dX5_put_92 : decode cX5_put 92 = .ok (.iconst 0, 1) := by decide +kernel
theorem dX5_put_93 : decode cX5_put 93 = .ok (.goto 4, 3) := by decide +kernel
theorem dX5_put_96 : decode cX5_put 96 = .ok (.iconst 1, 1) := by decide +kernel
theorem dX5_put_97 : decode cX5_put 97 = .ok (.iadd, 1) := by decide +kernel
theorem dX5_put_98 : decode cX5_put 98 = .ok (.istore_n 3, 1) := by decide +kernel
theorem dX5_put_99 : decode cX5_put 99 = .ok (.iinc 6 1, 3) := by decide +kernel
theorem dX5_put_102 : decode cX5_put 102 = .ok (.goto (-91), 3) := by decide +kernel
theorem dX5_put_105 : decode cX5_put 105 = .ok (.iload 4, 2) := by decide +kernel
theorem dX5_put_107 : decode cX5_put 107 = .ok (.ifCond .eq 7, 3) := by decide +kernel
theorem dX5_put_110 : decode cX5_put 110 = .ok (.iload_n 3, 1) := by decide +kernel
theorem dX5_put_111 : decode cX5_put 111 = .ok (.ifCond .ne 6, 3) := by decide +kernel
theorem dX5_put_114 : decode cX5_put 114 = .ok (.bipush (-2), 2) := by decide +kernel
theorem dX5_put_116 : decode cX5_put 116 = .ok (.ireturn, 1) := by decide +kernel
theorem dX5_put_117 : decode cX5_put 117 = .ok (.aload_n 0, 1) := by decide +kernel
theorem dX5_put_118 : decode cX5_put 118 = .ok (.getfield 108, 3) := by decide +kernel
theorem dX5_put_121 : decode cX5_put 121 = .ok (.iload_n 3, 1) := by decide +kernel
theorem dX5_put_122 : decode cX5_put 122 = .ok (.iadd, 1) := by decide +kernel
theorem dX5_put_123 : decode cX5_put 123 = .ok (.bipush 80, 2) := by decide +kernel
theorem dX5_put_125 : decode cX5_put 125 = .ok (.if_icmp .le 6, 3) := by decide +kernel
theorem dX5_put_128 : decode cX5_put 128 = .ok (.bipush (-4), 2) := by decide +kernel
theorem dX5_put_130 : decode cX5_put 130 = .ok (.ireturn, 1) := by decide +kernel
theorem dX5_put_131 : decode cX5_put 131 = .ok (.iload_n 3, 1) := by decide +kernel
theorem dX5_put_132 : decode cX5_put 132 = .ok (.iconst 1, 1) := by decide +kernel
theorem dX5_put_133 : decode cX5_put 133 = .ok (.isub, 1) := by decide +kernel
theorem dX5_put_134 : decode cX5_put 134 = .ok (.istore 6, 2) := by decide +kernel
theorem dX5_put_136 : decode cX5_put 136 = .ok (.iload 6, 2) := by decide +kernel
theorem dX5_put_138 : decode cX5_put 138 = .ok (.ifCond .lt 40, 3) := by decide +kernel
theorem dX5_put_141 : decode cX5_put 141 = .ok (.aload_n 0, 1) := by decide +kernel
theorem dX5_put_142 : decode cX5_put 142 = .ok (.getfield 23, 3) := by decide +kernel
theorem dX5_put_145 : decode cX5_put 145 = .ok (.aload_n 0, 1) := by decide +kernel
theorem dX5_put_146 : decode cX5_put 146 = .ok (.getfield 108, 3) := by decide +kernel
theorem dX5_put_149 : decode cX5_put 149 = .ok (.lload_n 1, 1) := by decide +kernel
theorem dX5_put_150 : decode cX5_put 150 = .ok (.bipush 8, 2) := by decide +kernel
theorem dX5_put_152 : decode cX5_put 152 = .ok (.iload 6, 2) := by decide +kernel
theorem dX5_put_154 : decode cX5_put 154 = .ok (.imul, 1) := by decide +kernel
theorem dX5_put_155 : decode cX5_put 155 = .ok (.lshr, 1) := by decide +kernel
theorem dX5_put_156 : decode cX5_put 156 = .ok (.ldc2_w 114, 3) := by decide +kernel
theorem dX5_put_159 : decode cX5_put 159 = .ok (.land, 1) := by decide +kernel
theorem dX5_put_160 : decode cX5_put 160 = .ok (.l2i, 1) := by decide +kernel
theorem dX5_put_161 : decode cX5_put 161 = .ok (.iastore, 1) := by decide +kernel
theorem dX5_put_162 : decode cX5_put 162 = .ok (.aload_n 0, 1) := by decide +kernel
theorem dX5_put_163 : decode cX5_put 163 = .ok (.dup, 1) := by decide +kernel
theorem dX5_put_164 : decode cX5_put 164 = .ok (.getfield 108, 3) := by decide +kernel
theorem dX5_put_167 : decode cX5_put 167 = .ok (.iconst 1, 1) := by decide +kernel
theorem dX5_put_168 : decode cX5_put 168 = .ok (.iadd, 1) := by decide +kernel
theorem dX5_put_169 : decode cX5_put 169 = .ok (.putfield 108, 3) := by decide +kernel
theorem dX5_put_172 : decode cX5_put 172 = .ok (.iinc 6 (-1), 3) := by decide +kernel
theorem dX5_put_175 : decode cX5_put 175 = .ok (.goto (-39), 3) := by decide +kernel
theorem dX5_put_178 : decode cX5_put 178 = .ok (.aload_n 0, 1) := by decide +kernel
theorem dX5_put_179 : decode cX5_put 179 = .ok (.getfield 108, 3) := by decide +kernel
theorem dX5_put_182 : decode cX5_put 182 = .ok (.ireturn, 1) := by decide +kernel
theorem dX5_wipe_0 : decode cX5_wipe 0 = .ok (.aload_n 0, 1) := by decide +kernel
theorem dX5_wipe_1 : decode cX5_wipe 1 = .ok (.getfield 108, 3) := by decide +kernel
theorem dX5_wipe_4 : decode cX5_wipe 4 = .ok (.istore_n 1, 1) := by decide +kernel
theorem dX5_wipe_5 : decode cX5_wipe 5 = .ok (.aload_n 0, 1) := by decide +kernel
theorem dX5_wipe_6 : decode cX5_wipe 6 = .ok (.iconst 0, 1) := by decide +kernel
theorem dX5_wipe_7 : decode cX5_wipe 7 = .ok (.putfield 108, 3) := by decide +kernel
theorem dX5_wipe_10 : decode cX5_wipe 10 = .ok (.iload_n 1, 1) := by decide +kernel
theorem dX5_wipe_11 : decode cX5_wipe 11 = .ok (.ireturn, 1) := by decide +kernel
theorem dX5_signAt_0 : decode cX5_signAt 0 = .ok (.iload_n 1, 1) := by decide +kernel
theorem dX5_signAt_1 : decode cX5_signAt 1 = .ok (.aload_n 0, 1) := by decide +kernel
theorem dX5_signAt_2 : decode cX5_signAt 2 = .ok (.getfield 108, 3) := by decide +kernel
theorem dX5_signAt_5 : decode cX5_signAt 5 = .ok (.if_icmp .ge 12, 3) := by decide +kernel
theorem dX5_signAt_8 : decode cX5_signAt 8 = .ok (.aload_n 0, 1) := by decide +kernel
theorem dX5_signAt_9 : decode cX5_signAt 9 = .ok (.getfield 23, 3) := by decide +kernel
theorem dX5_signAt_12 : decode cX5_signAt 12 = .ok (.iload_n 1, 1) := by decide +kernel
theorem dX5_signAt_13 : decode cX5_signAt 13 = .ok (.iaload, 1) := by decide +kernel
theorem dX5_signAt_14 : decode cX5_signAt 14 = .ok (.goto 4, 3) := by decide +kernel
theorem dX5_signAt_17 : decode cX5_signAt 17 = .ok (.iconst (-1), 1) := by decide +kernel
theorem dX5_signAt_18 : decode cX5_signAt 18 = .ok (.ireturn, 1) := by decide +kernel
theorem dX5_digit_0 : decode cX5_digit 0 = .ok (.aload_n 0, 1) := by decide +kernel
theorem dX5_digit_1 : decode cX5_digit 1 = .ok (.iload_n 1, 1) := by decide +kernel
theorem dX5_digit_2 : decode cX5_digit 2 = .ok (.invokevirtual 116, 3) := by decide +kernel
theorem dX5_digit_5 : decode cX5_digit 5 = .ok (.bipush 48, 2) := by decide +kernel
theorem dX5_digit_7 : decode cX5_digit 7 = .ok (.bipush 57, 2) := by decide +kernel
theorem dX5_digit_9 : decode cX5_digit 9 = .ok (.invokestatic 26, 3) := by decide +kernel
theorem dX5_digit_12 : decode cX5_digit 12 = .ok (.ifCond .eq 14, 3) := by decide +kernel
theorem dX5_digit_15 : decode cX5_digit 15 = .ok (.aload_n 0, 1) := by decide +kernel
theorem dX5_digit_16 : decode cX5_digit 16 = .ok (.iload_n 1, 1) := by decide +kernel
theorem dX5_digit_17 : decode cX5_digit 17 = .ok (.invokevirtual 116, 3) := by decide +kernel
theorem dX5_digit_20 : decode cX5_digit 20 = .ok (.bipush 48, 2) := by decide +kernel
theorem dX5_digit_22 : decode cX5_digit 22 = .ok (.isub, 1) := by decide +kernel
theorem dX5_digit_23 : decode cX5_digit 23 = .ok (.goto 4, 3) := by decide +kernel
theorem dX5_digit_26 : decode cX5_digit 26 = .ok (.iconst (-1), 1) := by decide +kernel
theorem dX5_digit_27 : decode cX5_digit 27 = .ok (.ireturn, 1) := by decide +kernel
theorem dX5_numberEnd_0 : decode cX5_numberEnd 0 = .ok (.iload_n 1, 1) := by decide +kernel
theorem dX5_numberEnd_1 : decode cX5_numberEnd 1 = .ok (.ifCond .ge 5, 3) := by decide +kernel
theorem dX5_numberEnd_4 : decode cX5_numberEnd 4 = .ok (.iload_n 1, 1) := by decide +kernel
theorem dX5_numberEnd_5 : decode cX5_numberEnd 5 = .ok (.ireturn, 1) := by decide +kernel
theorem dX5_numberEnd_6 : decode cX5_numberEnd 6 = .ok (.aload_n 0, 1) := by decide +kernel
theorem dX5_numberEnd_7 : decode cX5_numberEnd 7 = .ok (.iload_n 1, 1) := by decide +kernel
theorem dX5_numberEnd_8 : decode cX5_numberEnd 8 = .ok (.invokevirtual 119, 3) := by decide +kernel
theorem dX5_numberEnd_11 : decode cX5_numberEnd 11 = .ok (.ifCond .ge 7, 3) := by decide +kernel
theorem dX5_numberEnd_14 : decode cX5_numberEnd 14 = .ok (.iconst (-1), 1) := by decide +kernel
theorem dX5_numberEnd_15 : decode cX5_numberEnd 15 = .ok (.iload_n 1, 1) := by decide +kernel
theorem dX5_numberEnd_16 : decode cX5_numberEnd 16 = .ok (.isub, 1) := by decide +kernel
theorem dX5_numberEnd_17 : decode cX5_numberEnd 17 = .ok (.ireturn, 1) := by decide +kernel
theorem dX5_numberEnd_18 : decode cX5_numberEnd 18 = .ok (.iload_n 1, 1) := by decide +kernel
theorem dX5_numberEnd_19 : decode cX5_numberEnd 19 = .ok (.iconst 1, 1) := by decide +kernel
theorem dX5_numberEnd_20 : decode cX5_numberEnd 20 = .ok (.iadd, 1) := by decide +kernel
theorem dX5_numberEnd_21 : decode cX5_numberEnd 21 = .ok (.istore_n 2, 1) := by decide +kernel
theorem dX5_numberEnd_22 : decode cX5_numberEnd 22 = .ok (.aload_n 0, 1) := by decide +kernel
theorem dX5_numberEnd_23 : decode cX5_numberEnd 23 = .ok (.iload_n 1, 1) := by decide +kernel
theorem dX5_numberEnd_24 : decode cX5_numberEnd 24 = .ok (.invokevirtual 119, 3) := by decide +kernel
theorem dX5_numberEnd_27 : decode cX5_numberEnd 27 = .ok (.ifCond .le 24, 3) := by decide +kernel
theorem dX5_numberEnd_30 : decode cX5_numberEnd 30 = .ok (.iload_n 2, 1) := by decide +kernel
theorem dX5_numberEnd_31 : decode cX5_numberEnd 31 = .ok (.iload_n 1, 1) := by decide +kernel
theorem dX5_numberEnd_32 : decode cX5_numberEnd 32 = .ok (.iconst 3, 1) := by decide +kernel
theorem dX5_numberEnd_33 : decode cX5_numberEnd 33 = .ok (.iadd, 1) := by decide +kernel
theorem dX5_numberEnd_34 : decode cX5_numberEnd 34 = .ok (.if_icmp .ge 17, 3) := by decide +kernel
theorem dX5_numberEnd_37 : decode cX5_numberEnd 37 = .ok (.aload_n 0, 1) := by decide +kernel
theorem dX5_numberEnd_38 : decode cX5_numberEnd 38 = .ok (.iload_n 2, 1) := by decide +kernel
theorem dX5_numberEnd_39 : decode cX5_numberEnd 39 = .ok (.invokevirtual 119, 3) := by decide +kernel
theorem dX5_numberEnd_42 : decode cX5_numberEnd 42 = .ok (.ifCond .lt 9, 3) := by decide +kernel
theorem dX5_numberEnd_45 : decode cX5_numberEnd 45 = .ok (.iinc 2 1, 3) := by decide +kernel
theorem dX5_numberEnd_48 : decode cX5_numberEnd 48 = .ok (.goto (-26), 3) := by decide +kernel
theorem dX5_numberEnd_51 : decode cX5_numberEnd 51 = .ok (.iload_n 2, 1) := by decide +kernel
theorem dX5_numberEnd_52 : decode cX5_numberEnd 52 = .ok (.ireturn, 1) := by decide +kernel
theorem dX5_numberAt_0 : decode cX5_numberAt 0 = .ok (.iconst 0, 1) := by decide +kernel
theorem dX5_numberAt_1 : decode cX5_numberAt 1 = .ok (.istore_n 2, 1) := by decide +kernel
theorem dX5_numberAt_2 : decode cX5_numberAt 2 = .ok (.iload_n 1, 1) := by decide +kernel
theorem dX5_numberAt_3 : decode cX5_numberAt 3 = .ok (.istore_n 3, 1) := by decide +kernel
theorem dX5_numberAt_4 : decode cX5_numberAt 4 = .ok (.iload_n 3, 1) := by decide +kernel
theorem dX5_numberAt_5 : decode cX5_numberAt 5 = .ok (.aload_n 0, 1) := by decide +kernel
theorem dX5_numberAt_6 : decode cX5_numberAt 6 = .ok (.iload_n 1, 1) := by decide +kernel
theorem dX5_numberAt_7 : decode cX5_numberAt 7 = .ok (.invokevirtual 122, 3) := by decide +kernel
theorem dX5_numberAt_10 : decode cX5_numberAt 10 = .ok (.if_icmp .ge 20, 3) := by decide +kernel
theorem dX5_numberAt_13 : decode cX5_numberAt 13 = .ok (.bipush 10, 2) := by decide +kernel
theorem dX5_numberAt_15 : decode cX5_numberAt 15 = .ok (.iload_n 2, 1) := by decide +kernel
theorem dX5_numberAt_16 : decode cX5_numberAt 16 = .ok (.imul, 1) := by decide +kernel
theorem dX5_numberAt_17 : decode cX5_numberAt 17 = .ok (.aload_n 0, 1) := by decide +kernel
theorem dX5_numberAt_18 : decode cX5_numberAt 18 = .ok (.iload_n 3, 1) := by decide +kernel
theorem dX5_numberAt_19 : decode cX5_numberAt 19 = .ok (.invokevirtual 119, 3) := by decide +kernel
theorem dX5_numberAt_22 : decode cX5_numberAt 22 = .ok (.iadd, 1) := by decide +kernel
theorem dX5_numberAt_23 : decode cX5_numberAt 23 = .ok (.istore_n 2, 1) := by decide +kernel
theorem dX5_numberAt_24 : decode cX5_numberAt 24 = .ok (.iinc 3 1, 3) := by decide +kernel
theorem dX5_numberAt_27 : decode cX5_numberAt 27 = .ok (.goto (-23), 3) := by decide +kernel
theorem dX5_numberAt_30 : decode cX5_numberAt 30 = .ok (.iload_n 2, 1) := by decide +kernel
theorem dX5_numberAt_31 : decode cX5_numberAt 31 = .ok (.ireturn, 1) := by decide +kernel
theorem dX5_behind_0 : decode cX5_behind 0 = .ok (.iload_n 1, 1) := by decide +kernel
theorem dX5_behind_1 : decode cX5_behind 1 = .ok (.ifCond .ge 7, 3) := by decide +kernel
theorem dX5_behind_4 : decode cX5_behind 4 = .ok (.iload_n 1, 1) := by decide +kernel
theorem dX5_behind_5 : decode cX5_behind 5 = .ok (.goto 21, 3) := by decide +kernel
theorem dX5_behind_8 : decode cX5_behind 8 = .ok (.aload_n 0, 1) := by decide +kernel
theorem dX5_behind_9 : decode cX5_behind 9 = .ok (.iload_n 1, 1) := by decide +kernel
theorem dX5_behind_10 : decode cX5_behind 10 = .ok (.invokevirtual 116, 3) := by decide +kernel
theorem dX5_behind_13 : decode cX5_behind 13 = .ok (.iload_n 2, 1) := by decide +kernel
theorem dX5_behind_14 : decode cX5_behind 14 = .ok (.if_icmp .ne 9, 3) := by decide +kernel
theorem dX5_behind_17 : decode cX5_behind 17 = .ok (.iload_n 1, 1) := by decide +kernel
theorem dX5_behind_18 : decode cX5_behind 18 = .ok (.iconst 1, 1) := by decide +kernel
theorem dX5_behind_19 : decode cX5_behind 19 = .ok (.iadd, 1) := by decide +kernel
theorem dX5_behind_20 : decode cX5_behind 20 = .ok (.goto 6, 3) := by decide +kernel
theorem dX5_behind_23 : decode cX5_behind 23 = .ok (.iconst (-1), 1) := by decide +kernel
theorem dX5_behind_24 : decode cX5_behind 24 = .ok (.iload_n 1, 1) := by decide +kernel
theorem dX5_behind_25 : decode cX5_behind 25 = .ok (.isub, 1) := by decide +kernel
theorem dX5_behind_26 : decode cX5_behind 26 = .ok (.ireturn, 1) := by decide +kernel
theorem dX5_orderEnd_0 : decode cX5_orderEnd 0 = .ok (.aload_n 0, 1) := by decide +kernel
theorem dX5_orderEnd_1 : decode cX5_orderEnd 1 = .ok (.iload_n 1, 1) := by decide +kernel
theorem dX5_orderEnd_2 : decode cX5_orderEnd 2 = .ok (.invokevirtual 116, 3) := by decide +kernel
theorem dX5_orderEnd_5 : decode cX5_orderEnd 5 = .ok (.lookupswitch 100 #[(98, 79), (115, 35), (117, 79)], 35) := by decide +kernel
theorem dX5_orderEnd_40 : decode cX5_orderEnd 40 = .ok (.aload_n 0, 1) := by decide +kernel
theorem dX5_orderEnd_41 : decode cX5_orderEnd 41 = .ok (.aload_n 0, 1) := by decide +kernel
theorem dX5_orderEnd_42 : decode cX5_orderEnd 42 = .ok (.aload_n 0, 1) := by decide +kernel
theorem dX5_orderEnd_43 : decode cX5_orderEnd 43 = .ok (.iload_n 1, 1) := by decide +kernel
theorem dX5_orderEnd_44 : decode cX5_orderEnd 44 = .ok (.iconst 1, 1) := by decide +kernel
theorem dX5_orderEnd_45 : decode cX5_orderEnd 45 = .ok (.iadd, 1) := by decide +kernel
theorem dX5_orderEnd_46 : decode cX5_orderEnd 46 = .ok (.invokevirtual 122, 3) := by decide +kernel
theorem dX5_orderEnd_49 : decode cX5_orderEnd 49 = .ok (.bipush 44, 2) := by decide +kernel
theorem dX5_orderEnd_51 : decode cX5_orderEnd 51 = .ok (.invokevirtual 125, 3) := by decide +kernel
theorem dX5_orderEnd_54 : decode cX5_orderEnd 54 = .ok (.invokevirtual 122, 3) := by decide +kernel
theorem dX5_orderEnd_57 : decode cX5_orderEnd 57 = .ok (.istore_n 2, 1) := by decide +kernel
theorem dX5_orderEnd_58 : decode cX5_orderEnd 58 = .ok (.iload_n 2, 1) := by decide +kernel
theorem dX5_orderEnd_59 : decode cX5_orderEnd 59 = .ok (.ifCond .le 23, 3) := by decide +kernel
theorem dX5_orderEnd_62 : decode cX5_orderEnd 62 = .ok (.aload_n 0, 1) := by decide +kernel
theorem dX5_orderEnd_63 : decode cX5_orderEnd 63 = .ok (.iload_n 2, 1) := by decide +kernel
theorem dX5_orderEnd_64 : decode cX5_orderEnd 64 = .ok (.invokevirtual 116, 3) := by decide +kernel
theorem dX5_orderEnd_67 : decode cX5_orderEnd 67 = .ok (.bipush 42, 2) := by decide +kernel
theorem dX5_orderEnd_69 : decode cX5_orderEnd 69 = .ok (.if_icmp .ne 13, 3) := by decide +kernel
theorem dX5_orderEnd_72 : decode cX5_orderEnd 72 = .ok (.aload_n 0, 1) := by decide +kernel
theorem dX5_orderEnd_73 : decode cX5_orderEnd 73 = .ok (.iload_n 2, 1) := by decide +kernel
theorem dX5_orderEnd_74 : decode cX5_orderEnd 74 = .ok (.iconst 1, 1) := by decide +kernel
theorem dX5_orderEnd_75 : decode cX5_orderEnd 75 = .ok (.iadd, 1) := by decide +kernel
theorem dX5_orderEnd_76 : decode cX5_orderEnd 76 = .ok (.invokevirtual 122, 3) := by decide +kernel
theorem dX5_orderEnd_79 : decode cX5_orderEnd 79 = .ok (.goto 4, 3) := by decide +kernel
theorem dX5_orderEnd_82 : decode cX5_orderEnd 82 = .ok (.iload_n 2, 1) := by decide +kernel
theorem dX5_orderEnd_83 : decode cX5_orderEnd 83 = .ok (.ireturn, 1) := by decide +kernel
theorem dX5_orderEnd_84 : decode cX5_orderEnd 84 = .ok (.aload_n 0, 1) := by decide +kernel
theorem dX5_orderEnd_85 : decode cX5_orderEnd 85 = .ok (.iload_n 1, 1) := by decide +kernel
theorem dX5_orderEnd_86 : decode cX5_orderEnd 86 = .ok (.iconst 1, 1) := by decide +kernel
theorem dX5_orderEnd_87 : decode cX5_orderEnd 87 = .ok (.iadd, 1) := by decide +kernel
theorem dX5_orderEnd_88 : decode cX5_orderEnd 88 = .ok (.invokevirtual 119, 3) := by decide +kernel
theorem dX5_orderEnd_91 : decode cX5_orderEnd 91 = .ok (.ifCond .ge 10, 3) := by decide +kernel
theorem dX5_orderEnd_94 : decode cX5_orderEnd 94 = .ok (.bipush (-2), 2) := by decide +kernel
theorem dX5_orderEnd_96 : decode cX5_orderEnd 96 = .ok (.iload_n 1, 1) := by decide +kernel
theorem dX5_orderEnd_97 : decode cX5_orderEnd 97 = .ok (.isub, 1) := by decide +kernel
theorem dX5_orderEnd_98 : decode cX5_orderEnd 98 = .ok (.goto 6, 3) := by decide +kernel
theorem dX5_orderEnd_101 : decode cX5_orderEnd 101 = .ok (.iload_n 1, 1) := by decide +kernel
theorem dX5_orderEnd_102 : decode cX5_orderEnd 102 = .ok (.iconst 2, 1) := by decide +kernel
theorem dX5_orderEnd_103 : decode cX5_orderEnd 103 = .ok (.iadd, 1) := by decide +kernel
theorem dX5_orderEnd_104 : decode cX5_orderEnd 104 = .ok (.ireturn, 1) := by decide +kernel
theorem dX5_orderEnd_105 : decode cX5_orderEnd 105 = .ok (.iconst (-1), 1) := by decide +kernel
theorem dX5_orderEnd_106 : decode cX5_orderEnd 106 = .ok (.iload_n 1, 1) := by decide +kernel
theorem dX5_orderEnd_107 : decode cX5_orderEnd 107 = .ok (.isub, 1) := by decide +kernel
theorem dX5_orderEnd_108 : decode cX5_orderEnd 108 = .ok (.ireturn, 1) := by decide +kernel
theorem dX5_fault_0 : decode cX5_fault 0 = .ok (.iconst 0, 1) := by decide +kernel
theorem dX5_fault_1 : decode cX5_fault 1 = .ok (.istore_n 1, 1) := by decide +kernel
theorem dX5_fault_2 : decode cX5_fault 2 = .ok (.iconst 0, 1) := by decide +kernel
theorem dX5_fault_3 : decode cX5_fault 3 = .ok (.istore_n 2, 1) := by decide +kernel
theorem dX5_fault_4 : decode cX5_fault 4 = .ok (.iload_n 2, 1) := by decide +kernel
theorem dX5_fault_5 : decode cX5_fault 5 = .ok (.bipush 80, 2) := by decide +kernel
theorem dX5_fault_7 : decode cX5_fault 7 = .ok (.if_icmp .ge 50, 3) := by decide +kernel
theorem dX5_fault_10 : decode cX5_fault 10 = .ok (.aload_n 0, 1) := by decide +kernel
theorem dX5_fault_11 : decode cX5_fault 11 = .ok (.iload_n 1, 1) := by decide +kernel
theorem dX5_fault_12 : decode cX5_fault 12 = .ok (.invokevirtual 128, 3) := by decide +kernel
theorem dX5_fault_15 : decode cX5_fault 15 = .ok (.istore_n 3, 1) := by decide +kernel
theorem dX5_fault_16 : decode cX5_fault 16 = .ok (.iload_n 3, 1) := by decide +kernel
theorem dX5_fault_17 : decode cX5_fault 17 = .ok (.ifCond .ge 7, 3) := by decide +kernel
theorem dX5_fault_20 : decode cX5_fault 20 = .ok (.iconst (-1), 1) := by decide +kernel
theorem dX5_fault_21 : decode cX5_fault 21 = .ok (.iload_n 3, 1) := by decide +kernel
theorem dX5_fault_22 : decode cX5_fault 22 = .ok (.isub, 1) := by decide +kernel
theorem dX5_fault_23 : decode cX5_fault 23 = .ok (.ireturn, 1) := by decide +kernel
theorem dX5_fault_24 : decode cX5_fault 24 = .ok (.iload_n 3, 1) := by decide +kernel
theorem dX5_fault_25 : decode cX5_fault 25 = .ok (.aload_n 0, 1) := by decide +kernel
theorem dX5_fault_26 : decode cX5_fault 26 = .ok (.getfield 108, 3) := by decide +kernel
theorem dX5_fault_29 : decode cX5_fault 29 = .ok (.if_icmp .ne 6, 3) := by decide +kernel
theorem dX5_fault_32 : decode cX5_fault 32 = .ok (.bipush (-6), 2) := by decide +kernel
theorem dX5_fault_34 : decode cX5_fault 34 = .ok (.ireturn, 1) := by decide +kernel
theorem dX5_fault_35 : decode cX5_fault 35 = .ok (.aload_n 0, 1) := by decide +kernel
theorem dX5_fault_36 : decode cX5_fault 36 = .ok (.iload_n 3, 1) := by decide +kernel
theorem dX5_fault_37 : decode cX5_fault 37 = .ok (.invokevirtual 116, 3) := by decide +kernel
theorem dX5_fault_40 : decode cX5_fault 40 = .ok (.bipush 59, 2) := by decide +kernel
theorem dX5_fault_42 : decode cX5_fault 42 = .ok (.if_icmp .eq 5, 3) := by decide +kernel
theorem dX5_fault_45 : decode cX5_fault 45 = .ok (.iload_n 3, 1) := by decide +kernel
theorem dX5_fault_46 : decode cX5_fault 46 = .ok (.ireturn, 1) := by decide +kernel
theorem dX5_fault_47 : decode cX5_fault 47 = .ok (.iload_n 3, 1) := by decide +kernel
theorem dX5_fault_48 : decode cX5_fault 48 = .ok (.iconst 1, 1) := by decide +kernel
theorem dX5_fault_49 : decode cX5_fault 49 = .ok (.iadd, 1) := by decide +kernel
theorem dX5_fault_50 : decode cX5_fault 50 = .ok (.istore_n 1, 1) := by decide +kernel
theorem dX5_fault_51 : decode cX5_fault 51 = .ok (.iinc 2 1, 3) := by decide +kernel
theorem dX5_fault_54 : decode cX5_fault 54 = .ok (.goto (-50), 3) := by decide +kernel
theorem dX5_fault_57 : decode cX5_fault 57 = .ok (.bipush (-6), 2) := by decide +kernel
theorem dX5_fault_59 : decode cX5_fault 59 = .ok (.ireturn, 1) := by decide +kernel
theorem dX5_carries_0 : decode cX5_carries 0 = .ok (.aload_n 0, 1) := by decide +kernel
theorem dX5_carries_1 : decode cX5_carries 1 = .ok (.iload_n 1, 1) := by decide +kernel
theorem dX5_carries_2 : decode cX5_carries 2 = .ok (.iconst 1, 1) := by decide +kernel
theorem dX5_carries_3 : decode cX5_carries 3 = .ok (.iadd, 1) := by decide +kernel
theorem dX5_carries_4 : decode cX5_carries 4 = .ok (.invokevirtual 119, 3) := by decide +kernel
theorem dX5_carries_7 : decode cX5_carries 7 = .ok (.istore_n 2, 1) := by decide +kernel
theorem dX5_carries_8 : decode cX5_carries 8 = .ok (.iconst 0, 1) := by decide +kernel
theorem dX5_carries_9 : decode cX5_carries 9 = .ok (.istore_n 3, 1) := by decide +kernel
theorem dX5_carries_10 : decode cX5_carries 10 = .ok (.iconst 0, 1) := by decide +kernel
theorem dX5_carries_11 : decode cX5_carries 11 = .ok (.istore 4, 2) := by decide +kernel
theorem dX5_carries_13 : decode cX5_carries 13 = .ok (.aload_n 0, 1) := by decide +kernel
theorem dX5_carries_14 : decode cX5_carries 14 = .ok (.iload_n 1, 1) := by decide +kernel
theorem dX5_carries_15 : decode cX5_carries 15 = .ok (.invokevirtual 116, 3) := by decide +kernel
theorem dX5_carries_18 : decode cX5_carries 18 = .ok (.lookupswitch 74 #[(98, 26), (117, 50)], 26) := by decide +kernel
theorem dX5_carries_44 : decode cX5_carries 44 = .ok (.aload_n 0, 1) := by decide +kernel
theorem dX5_carries_45 : decode cX5_carries 45 = .ok (.iload_n 2, 1) := by decide +kernel
theorem dX5_carries_46 : decode cX5_carries 46 = .ok (.iconst 1, 1) := by decide +kernel
theorem dX5_carries_47 : decode cX5_carries 47 = .ok (.invokevirtual 98, 3) := by decide +kernel
theorem dX5_carries_50 : decode cX5_carries 50 = .ok (.istore_n 3, 1) := by decide +kernel
theorem dX5_carries_51 : decode cX5_carries 51 = .ok (.iload_n 3, 1) := by decide +kernel
theorem dX5_carries_52 : decode cX5_carries 52 = .ok (.ifCond .ge 7, 3) := by decide +kernel
theorem dX5_carries_55 : decode cX5_carries 55 = .ok (.iconst 0, 1) := by decide +kernel
theorem dX5_carries_56 : decode cX5_carries 56 = .ok (.goto 8, 3) := by decide +kernel
theorem dX5_carries_59 : decode cX5_carries 59 = .ok (.aload_n 0, 1) := by decide +kernel
theorem dX5_carries_60 : decode cX5_carries 60 = .ok (.iload_n 2, 1) := by decide +kernel
theorem dX5_carries_61 : decode cX5_carries 61 = .ok (.invokevirtual 102, 3) := by decide +kernel
theorem dX5_carries_64 : decode cX5_carries 64 = .ok (.istore 4, 2) := by decide +kernel
theorem dX5_carries_66 : decode cX5_carries 66 = .ok (.iload_n 3, 1) := by decide +kernel
theorem dX5_carries_67 : decode cX5_carries 67 = .ok (.ireturn, 1) := by decide +kernel
theorem dX5_carries_68 : decode cX5_carries 68 = .ok (.aload_n 0, 1) := by decide +kernel
theorem dX5_carries_69 : decode cX5_carries 69 = .ok (.iload_n 2, 1) := by decide +kernel
theorem dX5_carries_70 : decode cX5_carries 70 = .ok (.iconst 0, 1) := by decide +kernel
theorem dX5_carries_71 : decode cX5_carries 71 = .ok (.invokevirtual 98, 3) := by decide +kernel
theorem dX5_carries_74 : decode cX5_carries 74 = .ok (.istore_n 3, 1) := by decide +kernel
theorem dX5_carries_75 : decode cX5_carries 75 = .ok (.iload_n 3, 1) := by decide +kernel
theorem dX5_carries_76 : decode cX5_carries 76 = .ok (.ifCond .ge 7, 3) := by decide +kernel
theorem dX5_carries_79 : decode cX5_carries 79 = .ok (.iconst 0, 1) := by decide +kernel
theorem dX5_carries_80 : decode cX5_carries 80 = .ok (.goto 8, 3) := by decide +kernel
theorem dX5_carries_83 : decode cX5_carries 83 = .ok (.aload_n 0, 1) := by decide +kernel
theorem dX5_carries_84 : decode cX5_carries 84 = .ok (.iload_n 2, 1) := by decide +kernel
theorem dX5_carries_85 : decode cX5_carries 85 = .ok (.invokevirtual 105, 3) := by decide +kernel
theorem dX5_carries_88 : decode cX5_carries 88 = .ok (.istore 4, 2) := by decide +kernel
theorem dX5_carries_90 : decode cX5_carries 90 = .ok (.iload_n 3, 1) := by decide +kernel
theorem dX5_carries_91 : decode cX5_carries 91 = .ok (.ireturn, 1) := by decide +kernel
theorem dX5_carries_92 : decode cX5_carries 92 = .ok (.aload_n 0, 1) := by decide +kernel
theorem dX5_carries_93 : decode cX5_carries 93 = .ok (.iload_n 1, 1) := by decide +kernel
theorem dX5_carries_94 : decode cX5_carries 94 = .ok (.iconst 1, 1) := by decide +kernel
theorem dX5_carries_95 : decode cX5_carries 95 = .ok (.iadd, 1) := by decide +kernel
theorem dX5_carries_96 : decode cX5_carries 96 = .ok (.invokevirtual 131, 3) := by decide +kernel
theorem dX5_carries_99 : decode cX5_carries 99 = .ok (.istore 5, 2) := by decide +kernel
theorem dX5_carries_101 : decode cX5_carries 101 = .ok (.aload_n 0, 1) := by decide +kernel
theorem dX5_carries_102 : decode cX5_carries 102 = .ok (.aload_n 0, 1) := by decide +kernel
theorem dX5_carries_103 : decode cX5_carries 103 = .ok (.iload_n 1, 1) := by decide +kernel
theorem dX5_carries_104 : decode cX5_carries 104 = .ok (.iconst 1, 1) := by decide +kernel
theorem dX5_carries_105 : decode cX5_carries 105 = .ok (.iadd, 1) := by decide +kernel
theorem dX5_carries_106 : decode cX5_carries 106 = .ok (.invokevirtual 122, 3) := by decide +kernel
theorem dX5_carries_109 : decode cX5_carries 109 = .ok (.iconst 1, 1) := by decide +kernel
theorem dX5_carries_110 : decode cX5_carries 110 = .ok (.iadd, 1) := by decide +kernel
theorem dX5_carries_111 : decode cX5_carries 111 = .ok (.invokevirtual 131, 3) := by decide +kernel
theorem dX5_carries_114 : decode cX5_carries 114 = .ok (.istore 6, 2) := by decide +kernel
theorem dX5_carries_116 : decode cX5_carries 116 = .ok (.aload_n 0, 1) := by decide +kernel
theorem dX5_carries_117 : decode cX5_carries 117 = .ok (.iload 5, 2) := by decide +kernel
theorem dX5_carries_119 : decode cX5_carries 119 = .ok (.iload 6, 2) := by decide +kernel
theorem dX5_carries_121 : decode cX5_carries 121 = .ok (.iconst 1, 1) := by decide +kernel
theorem dX5_carries_122 : decode cX5_carries 122 = .ok (.invokevirtual 86, 3) := by decide +kernel
theorem dX5_carries_125 : decode cX5_carries 125 = .ok (.istore_n 3, 1) := by decide +kernel
theorem dX5_carries_126 : decode cX5_carries 126 = .ok (.iload_n 3, 1) := by decide +kernel
theorem dX5_carries_127 : decode cX5_carries 127 = .ok (.ifCond .ne 12, 3) := by decide +kernel
theorem dX5_carries_130 : decode cX5_carries 130 = .ok (.aload_n 0, 1) := by decide +kernel
theorem dX5_carries_131 : decode cX5_carries 131 = .ok (.iconst 0, 1) := by decide +kernel
theorem dX5_carries_132 : decode cX5_carries 132 = .ok (.iload 5, 2) := by decide +kernel
theorem dX5_carries_134 : decode cX5_carries 134 = .ok (.iload 6, 2) := by decide +kernel
theorem dX5_carries_136 : decode cX5_carries 136 = .ok (.invokevirtual 89, 3) := by decide +kernel
theorem dX5_carries_139 : decode cX5_carries 139 = .ok (.iload_n 3, 1) := by decide +kernel
theorem dX5_carries_140 : decode cX5_carries 140 = .ok (.ireturn, 1) := by decide +kernel
theorem dX5_ordersAt_0 : decode cX5_ordersAt 0 = .ok (.aload_n 0, 1) := by decide +kernel
theorem dX5_ordersAt_1 : decode cX5_ordersAt 1 = .ok (.iload_n 1, 1) := by decide +kernel
theorem dX5_ordersAt_2 : decode cX5_ordersAt 2 = .ok (.invokevirtual 116, 3) := by decide +kernel
theorem dX5_ordersAt_5 : decode cX5_ordersAt 5 = .ok (.bipush 115, 2) := by decide +kernel
theorem dX5_ordersAt_7 : decode cX5_ordersAt 7 = .ok (.if_icmp .eq 5, 3) := by decide +kernel
theorem dX5_ordersAt_10 : decode cX5_ordersAt 10 = .ok (.iconst 1, 1) := by decide +kernel
theorem dX5_ordersAt_11 : decode cX5_ordersAt 11 = .ok (.ireturn, 1) := by decide +kernel
theorem dX5_ordersAt_12 : decode cX5_ordersAt 12 = .ok (.aload_n 0, 1) := by decide +kernel
theorem dX5_ordersAt_13 : decode cX5_ordersAt 13 = .ok (.aload_n 0, 1) := by decide +kernel
theorem dX5_ordersAt_14 : decode cX5_ordersAt 14 = .ok (.iload_n 1, 1) := by decide +kernel
theorem dX5_ordersAt_15 : decode cX5_ordersAt 15 = .ok (.iconst 1, 1) := by decide +kernel
theorem dX5_ordersAt_16 : decode cX5_ordersAt 16 = .ok (.iadd, 1) := by decide +kernel
theorem dX5_ordersAt_17 : decode cX5_ordersAt 17 = .ok (.invokevirtual 122, 3) := by decide +kernel
theorem dX5_ordersAt_20 : decode cX5_ordersAt 20 = .ok (.iconst 1, 1) := by decide +kernel
theorem dX5_ordersAt_21 : decode cX5_ordersAt 21 = .ok (.iadd, 1) := by decide +kernel
theorem dX5_ordersAt_22 : decode cX5_ordersAt 22 = .ok (.invokevirtual 122, 3) := by decide +kernel
theorem dX5_ordersAt_25 : decode cX5_ordersAt 25 = .ok (.istore_n 2, 1) := by decide +kernel
theorem dX5_ordersAt_26 : decode cX5_ordersAt 26 = .ok (.aload_n 0, 1) := by decide +kernel
theorem dX5_ordersAt_27 : decode cX5_ordersAt 27 = .ok (.iload_n 2, 1) := by decide +kernel
theorem dX5_ordersAt_28 : decode cX5_ordersAt 28 = .ok (.invokevirtual 116, 3) := by decide +kernel
theorem dX5_ordersAt_31 : decode cX5_ordersAt 31 = .ok (.bipush 42, 2) := by decide +kernel
theorem dX5_ordersAt_33 : decode cX5_ordersAt 33 = .ok (.if_icmp .ne 13, 3) := by decide +kernel
theorem dX5_ordersAt_36 : decode cX5_ordersAt 36 = .ok (.aload_n 0, 1) := by decide +kernel
theorem dX5_ordersAt_37 : decode cX5_ordersAt 37 = .ok (.iload_n 2, 1) := by decide +kernel
theorem dX5_ordersAt_38 : decode cX5_ordersAt 38 = .ok (.iconst 1, 1) := by decide +kernel
theorem dX5_ordersAt_39 : decode cX5_ordersAt 39 = .ok (.iadd, 1) := by decide +kernel
theorem dX5_ordersAt_40 : decode cX5_ordersAt 40 = .ok (.invokevirtual 131, 3) := by decide +kernel
theorem dX5_ordersAt_43 : decode cX5_ordersAt 43 = .ok (.goto 4, 3) := by decide +kernel
theorem dX5_ordersAt_46 : decode cX5_ordersAt 46 = .ok (.iconst 1, 1) := by decide +kernel
theorem dX5_ordersAt_47 : decode cX5_ordersAt 47 = .ok (.ireturn, 1) := by decide +kernel
theorem dX5_carryOut_0 : decode cX5_carryOut 0 = .ok (.aload_n 0, 1) := by decide +kernel
theorem dX5_carryOut_1 : decode cX5_carryOut 1 = .ok (.invokevirtual 134, 3) := by decide +kernel
theorem dX5_carryOut_4 : decode cX5_carryOut 4 = .ok (.bipush (-6), 2) := by decide +kernel
theorem dX5_carryOut_6 : decode cX5_carryOut 6 = .ok (.if_icmp .eq 6, 3) := by decide +kernel
theorem dX5_carryOut_9 : decode cX5_carryOut 9 = .ok (.bipush (-3), 2) := by decide +kernel
theorem dX5_carryOut_11 : decode cX5_carryOut 11 = .ok (.ireturn, 1) := by decide +kernel
theorem dX5_carryOut_12 : decode cX5_carryOut 12 = .ok (.aload_n 0, 1) := by decide +kernel
theorem dX5_carryOut_13 : decode cX5_carryOut 13 = .ok (.invokevirtual 79, 3) := by decide +kernel
theorem dX5_carryOut_16 : decode cX5_carryOut 16 = .ok (.iconst 0, 1) := by decide +kernel
theorem dX5_carryOut_17 : decode cX5_carryOut 17 = .ok (.istore_n 1, 1) := by decide +kernel
theorem dX5_carryOut_18 : decode cX5_carryOut 18 = .ok (.iconst 0, 1) := by decide +kernel
theorem dX5_carryOut_19 : decode cX5_carryOut 19 = .ok (.istore_n 2, 1) := by decide +kernel
theorem dX5_carryOut_20 : decode cX5_carryOut 20 = .ok (.iconst 1, 1) := by decide +kernel
theorem dX5_carryOut_21 : decode cX5_carryOut 21 = .ok (.istore_n 3, 1) := by decide +kernel
theorem dX5_carryOut_22 : decode cX5_carryOut 22 = .ok (.iload_n 2, 1) := by decide +kernel
theorem dX5_carryOut_23 : decode cX5_carryOut 23 = .ok (.aload_n 0, 1) := by decide +kernel
theorem dX5_carryOut_24 : decode cX5_carryOut 24 = .ok (.getfield 108, 3) := by decide +kernel
theorem dX5_carryOut_27 : decode cX5_carryOut 27 = .ok (.if_icmp .ge 66, 3) := by decide +kernel
theorem dX5_carryOut_30 : decode cX5_carryOut 30 = .ok (.iload_n 3, 1) := by decide +kernel
theorem dX5_carryOut_31 : decode cX5_carryOut 31 = .ok (.ifCond .eq 62, 3) := by decide +kernel
theorem dX5_carryOut_34 : decode cX5_carryOut 34 = .ok (.aload_n 0, 1) := by decide +kernel
theorem dX5_carryOut_35 : decode cX5_carryOut 35 = .ok (.iload_n 2, 1) := by decide +kernel
theorem dX5_carryOut_36 : decode cX5_carryOut 36 = .ok (.invokevirtual 138, 3) := by decide +kernel
theorem dX5_carryOut_39 : decode cX5_carryOut 39 = .ok (.istore 4, 2) := by decide +kernel
theorem dX5_carryOut_41 : decode cX5_carryOut 41 = .ok (.iload 4, 2) := by decide +kernel
theorem dX5_carryOut_43 : decode cX5_carryOut 43 = .ok (.ifCond .le 39, 3) := by decide +kernel
theorem dX5_carryOut_46 : decode cX5_carryOut 46 = .ok (.iload_n 3, 1) := by decide +kernel
theorem dX5_carryOut_47 : decode cX5_carryOut 47 = .ok (.ifCond .eq 35, 3) := by decide +kernel
theorem dX5_carryOut_50 : decode cX5_carryOut 50 = .ok (.aload_n 0, 1) := by decide +kernel
theorem dX5_carryOut_51 : decode cX5_carryOut 51 = .ok (.iload_n 2, 1) := by decide +kernel
theorem dX5_carryOut_52 : decode cX5_carryOut 52 = .ok (.invokevirtual 141, 3) := by decide +kernel
theorem dX5_carryOut_55 : decode cX5_carryOut 55 = .ok (.ifCond .ne 7, 3) := by decide +kernel
theorem dX5_carryOut_58 : decode cX5_carryOut 58 = .ok (.iconst 1, 1) := by decide +kernel
theorem dX5_carryOut_59 : decode cX5_carryOut 59 = .ok (.goto 4, 3) := by decide +kernel
theorem dX5_carryOut_62 : decode cX5_carryOut 62 = .ok (.iconst 0, 1) := by decide +kernel
theorem dX5_carryOut_63 : decode cX5_carryOut 63 = .ok (.istore_n 3, 1) := by decide +kernel
theorem dX5_carryOut_64 : decode cX5_carryOut 64 = .ok (.iload_n 1, 1) := by decide +kernel
theorem dX5_carryOut_65 : decode cX5_carryOut 65 = .ok (.iload_n 3, 1) := by decide +kernel
theorem dX5_carryOut_66 : decode cX5_carryOut 66 = .ok (.ifCond .eq 7, 3) := by decide +kernel
theorem dX5_carryOut_69 : decode cX5_carryOut 69 = .ok (.iconst 1, 1) := by decide +kernel
theorem dX5_carryOut_70 : decode cX5_carryOut 70 = .ok (.goto 4, 3) := by decide +kernel
theorem dX5_carryOut_73 : decode cX5_carryOut 73 = .ok (.iconst 0, 1) := by decide +kernel
theorem dX5_carryOut_74 : decode cX5_carryOut 74 = .ok (.iadd, 1) := by decide +kernel
theorem dX5_carryOut_75 : decode cX5_carryOut 75 = .ok (.istore_n 1, 1) := by decide +kernel
theorem dX5_carryOut_76 : decode cX5_carryOut 76 = .ok (.iinc 4 (-1), 3) := by decide +kernel
theorem dX5_carryOut_79 : decode cX5_carryOut 79 = .ok (.goto (-38), 3) := by decide +kernel
theorem dX5_carryOut_82 : decode cX5_carryOut 82 = .ok (.aload_n 0, 1) := by decide +kernel
theorem dX5_carryOut_83 : decode cX5_carryOut 83 = .ok (.iload_n 2, 1) := by decide +kernel
theorem dX5_carryOut_84 : decode cX5_carryOut 84 = .ok (.invokevirtual 128, 3) := by decide +kernel
theorem dX5_carryOut_87 : decode cX5_carryOut 87 = .ok (.iconst 1, 1) := by decide +kernel
theorem dX5_carryOut_88 : decode cX5_carryOut 88 = .ok (.iadd, 1) := by decide +kernel
theorem dX5_carryOut_89 : decode cX5_carryOut 89 = .ok (.istore_n 2, 1) := by decide +kernel
theorem dX5_carryOut_90 : decode cX5_carryOut 90 = .ok (.goto (-68), 3) := by decide +kernel
theorem dX5_carryOut_93 : decode cX5_carryOut 93 = .ok (.aload_n 0, 1) := by decide +kernel
theorem dX5_carryOut_94 : decode cX5_carryOut 94 = .ok (.iconst 0, 1) := by decide +kernel
theorem dX5_carryOut_95 : decode cX5_carryOut 95 = .ok (.putfield 108, 3) := by decide +kernel
theorem dX5_carryOut_98 : decode cX5_carryOut 98 = .ok (.iload_n 1, 1) := by decide +kernel
theorem dX5_carryOut_99 : decode cX5_carryOut 99 = .ok (.ireturn, 1) := by decide +kernel
theorem dX5_undo_0 : decode cX5_undo 0 = .ok (.aload_n 0, 1) := by decide +kernel
theorem dX5_undo_1 : decode cX5_undo 1 = .ok (.getfield 30, 3) := by decide +kernel
theorem dX5_undo_4 : decode cX5_undo 4 = .ok (.ifCond .ne 6, 3) := by decide +kernel
theorem dX5_undo_7 : decode cX5_undo 7 = .ok (.bipush (-5), 2) := by decide +kernel
theorem dX5_undo_9 : decode cX5_undo 9 = .ok (.ireturn, 1) := by decide +kernel
theorem dX5_undo_10 : decode cX5_undo 10 = .ok (.aload_n 0, 1) := by decide +kernel
theorem dX5_undo_11 : decode cX5_undo 11 = .ok (.dup, 1) := by decide +kernel
theorem dX5_undo_12 : decode cX5_undo 12 = .ok (.getfield 30, 3) := by decide +kernel
theorem dX5_undo_15 : decode cX5_undo 15 = .ok (.iconst 1, 1) := by decide +kernel
theorem dX5_undo_16 : decode cX5_undo 16 = .ok (.isub, 1) := by decide +kernel
theorem dX5_undo_17 : decode cX5_undo 17 = .ok (.putfield 30, 3) := by decide +kernel
theorem dX5_undo_20 : decode cX5_undo 20 = .ok (.iconst 0, 1) := by decide +kernel
theorem dX5_undo_21 : decode cX5_undo 21 = .ok (.istore_n 1, 1) := by decide +kernel
theorem dX5_undo_22 : decode cX5_undo 22 = .ok (.iload_n 1, 1) := by decide +kernel
theorem dX5_undo_23 : decode cX5_undo 23 = .ok (.bipush 61, 2) := by decide +kernel
theorem dX5_undo_25 : decode cX5_undo 25 = .ok (.if_icmp .ge 29, 3) := by decide +kernel
theorem dX5_undo_28 : decode cX5_undo 28 = .ok (.aload_n 0, 1) := by decide +kernel
theorem dX5_undo_29 : decode cX5_undo 29 = .ok (.getfield 7, 3) := by decide +kernel
theorem dX5_undo_32 : decode cX5_undo 32 = .ok (.iload_n 1, 1) := by decide +kernel
theorem dX5_undo_33 : decode cX5_undo 33 = .ok (.aload_n 0, 1) := by decide +kernel
theorem dX5_undo_34 : decode cX5_undo 34 = .ok (.getfield 13, 3) := by decide +kernel
theorem dX5_undo_37 : decode cX5_undo 37 = .ok (.bipush 61, 2) := by decide +kernel
theorem dX5_undo_39 : decode cX5_undo 39 = .ok (.aload_n 0, 1) := by decide +kernel
theorem dX5_undo_40 : decode cX5_undo 40 = .ok (.getfield 30, 3) := by decide +kernel
theorem dX5_undo_43 : decode cX5_undo 43 = .ok (.imul, 1) := by decide +kernel
theorem dX5_undo_44 : decode cX5_undo 44 = .ok (.iload_n 1, 1) := by decide +kernel
theorem dX5_undo_45 : decode cX5_undo 45 = .ok (.iadd, 1) := by decide +kernel
theorem dX5_undo_46 : decode cX5_undo 46 = .ok (.iaload, 1) := by decide +kernel
theorem dX5_undo_47 : decode cX5_undo 47 = .ok (.iastore, 1) := by decide +kernel
theorem dX5_undo_48 : decode cX5_undo 48 = .ok (.iinc 1 1, 3) := by decide +kernel
theorem dX5_undo_51 : decode cX5_undo 51 = .ok (.goto (-29), 3) := by decide +kernel
theorem dX5_undo_54 : decode cX5_undo 54 = .ok (.aload_n 0, 1) := by decide +kernel
theorem dX5_undo_55 : decode cX5_undo 55 = .ok (.getfield 30, 3) := by decide +kernel
theorem dX5_undo_58 : decode cX5_undo 58 = .ok (.ireturn, 1) := by decide +kernel
theorem dX5_save_0 : decode cX5_save 0 = .ok (.iload_n 1, 1) := by decide +kernel
theorem dX5_save_1 : decode cX5_save 1 = .ok (.iconst 0, 1) := by decide +kernel
theorem dX5_save_2 : decode cX5_save 2 = .ok (.iconst 1, 1) := by decide +kernel
theorem dX5_save_3 : decode cX5_save 3 = .ok (.invokestatic 26, 3) := by decide +kernel
theorem dX5_save_6 : decode cX5_save 6 = .ok (.ifCond .ne 6, 3) := by decide +kernel
theorem dX5_save_9 : decode cX5_save 9 = .ok (.bipush (-2), 2) := by decide +kernel
theorem dX5_save_11 : decode cX5_save 11 = .ok (.ireturn, 1) := by decide +kernel
theorem dX5_save_12 : decode cX5_save 12 = .ok (.iconst 0, 1) := by decide +kernel
theorem dX5_save_13 : decode cX5_save 13 = .ok (.istore_n 2, 1) := by decide +kernel
theorem dX5_save_14 : decode cX5_save 14 = .ok (.iload_n 2, 1) := by decide +kernel
theorem dX5_save_15 : decode cX5_save 15 = .ok (.bipush 61, 2) := by decide +kernel
theorem dX5_save_17 : decode cX5_save 17 = .ok (.if_icmp .ge 26, 3) := by decide +kernel
theorem dX5_save_20 : decode cX5_save 20 = .ok (.aload_n 0, 1) := by decide +kernel
theorem dX5_save_21 : decode cX5_save 21 = .ok (.getfield 16, 3) := by decide +kernel
theorem dX5_save_24 : decode cX5_save 24 = .ok (.bipush 61, 2) := by decide +kernel
theorem dX5_save_26 : decode cX5_save 26 = .ok (.iload_n 1, 1) := by decide +kernel
theorem dX5_save_27 : decode cX5_save 27 = .ok (.imul, 1) := by decide +kernel
theorem dX5_save_28 : decode cX5_save 28 = .ok (.iload_n 2, 1) := by decide +kernel
theorem dX5_save_29 : decode cX5_save 29 = .ok (.iadd, 1) := by decide +kernel
theorem dX5_save_30 : decode cX5_save 30 = .ok (.aload_n 0, 1) := by decide +kernel
theorem dX5_save_31 : decode cX5_save 31 = .ok (.getfield 7, 3) := by decide +kernel
theorem dX5_save_34 : decode cX5_save 34 = .ok (.iload_n 2, 1) := by decide +kernel
theorem dX5_save_35 : decode cX5_save 35 = .ok (.iaload, 1) := by decide +kernel
theorem dX5_save_36 : decode cX5_save 36 = .ok (.iastore, 1) := by decide +kernel
theorem dX5_save_37 : decode cX5_save 37 = .ok (.iinc 2 1, 3) := by decide +kernel
theorem dX5_save_40 : decode cX5_save 40 = .ok (.goto (-26), 3) := by decide +kernel
theorem dX5_save_43 : decode cX5_save 43 = .ok (.aload_n 0, 1) := by decide +kernel
theorem dX5_save_44 : decode cX5_save 44 = .ok (.getfield 19, 3) := by decide +kernel
theorem dX5_save_47 : decode cX5_save 47 = .ok (.iload_n 1, 1) := by decide +kernel
theorem dX5_save_48 : decode cX5_save 48 = .ok (.iconst 1, 1) := by decide +kernel
theorem dX5_save_49 : decode cX5_save 49 = .ok (.bastore, 1) := by decide +kernel
theorem dX5_save_50 : decode cX5_save 50 = .ok (.aload_n 0, 1) := by decide +kernel
theorem dX5_save_51 : decode cX5_save 51 = .ok (.getfield 7, 3) := by decide +kernel
theorem dX5_save_54 : decode cX5_save 54 = .ok (.bipush 21, 2) := by decide +kernel
theorem dX5_save_56 : decode cX5_save 56 = .ok (.iaload, 1) := by decide +kernel
theorem dX5_save_57 : decode cX5_save 57 = .ok (.ireturn, 1) := by decide +kernel
theorem dX5_restore_0 : decode cX5_restore 0 = .ok (.iload_n 1, 1) := by decide +kernel
theorem dX5_restore_1 : decode cX5_restore 1 = .ok (.iconst 0, 1) := by decide +kernel
theorem dX5_restore_2 : decode cX5_restore 2 = .ok (.iconst 1, 1) := by decide +kernel
theorem dX5_restore_3 : decode cX5_restore 3 = .ok (.invokestatic 26, 3) := by decide +kernel
theorem dX5_restore_6 : decode cX5_restore 6 = .ok (.ifCond .ne 6, 3) := by decide +kernel
theorem dX5_restore_9 : decode cX5_restore 9 = .ok (.bipush (-2), 2) := by decide +kernel
theorem dX5_restore_11 : decode cX5_restore 11 = .ok (.ireturn, 1) := by decide +kernel
theorem dX5_restore_12 : decode cX5_restore 12 = .ok (.aload_n 0, 1) := by decide +kernel
theorem dX5_restore_13 : decode cX5_restore 13 = .ok (.getfield 19, 3) := by decide +kernel
theorem dX5_restore_16 : decode cX5_restore 16 = .ok (.iload_n 1, 1) := by decide +kernel
theorem dX5_restore_17 : decode cX5_restore 17 = .ok (.baload, 1) := by decide +kernel
theorem dX5_restore_18 : decode cX5_restore 18 = .ok (.ifCond .ne 6, 3) := by decide +kernel
theorem dX5_restore_21 : decode cX5_restore 21 = .ok (.bipush (-5), 2) := by decide +kernel
theorem dX5_restore_23 : decode cX5_restore 23 = .ok (.ireturn, 1) := by decide +kernel
theorem dX5_restore_24 : decode cX5_restore 24 = .ok (.aload_n 0, 1) := by decide +kernel
theorem dX5_restore_25 : decode cX5_restore 25 = .ok (.invokevirtual 79, 3) := by decide +kernel
theorem dX5_restore_28 : decode cX5_restore 28 = .ok (.iconst 0, 1) := by decide +kernel
theorem dX5_restore_29 : decode cX5_restore 29 = .ok (.istore_n 2, 1) := by decide +kernel
theorem dX5_restore_30 : decode cX5_restore 30 = .ok (.iload_n 2, 1) := by decide +kernel
theorem dX5_restore_31 : decode cX5_restore 31 = .ok (.bipush 61, 2) := by decide +kernel
theorem dX5_restore_33 : decode cX5_restore 33 = .ok (.if_icmp .ge 26, 3) := by decide +kernel
theorem dX5_restore_36 : decode cX5_restore 36 = .ok (.aload_n 0, 1) := by decide +kernel
theorem dX5_restore_37 : decode cX5_restore 37 = .ok (.getfield 7, 3) := by decide +kernel
theorem dX5_restore_40 : decode cX5_restore 40 = .ok (.iload_n 2, 1) := by decide +kernel
theorem dX5_restore_41 : decode cX5_restore 41 = .ok (.aload_n 0, 1) := by decide +kernel
theorem dX5_restore_42 : decode cX5_restore 42 = .ok (.getfield 16, 3) := by decide +kernel
theorem dX5_restore_45 : decode cX5_restore 45 = .ok (.bipush 61, 2) := by decide +kernel
theorem dX5_restore_47 : decode cX5_restore 47 = .ok (.iload_n 1, 1) := by decide +kernel
theorem dX5_restore_48 : decode cX5_restore 48 = .ok (.imul, 1) := by decide +kernel
theorem dX5_restore_49 : decode cX5_restore 49 = .ok (.iload_n 2, 1) := by decide +kernel
theorem dX5_restore_50 : decode cX5_restore 50 = .ok (.iadd, 1) := by decide +kernel
theorem dX5_restore_51 : decode cX5_restore 51 = .ok (.iaload, 1) := by decide +kernel
theorem dX5_restore_52 : decode cX5_restore 52 = .ok (.iastore, 1) := by decide +kernel
theorem dX5_restore_53 : decode cX5_restore 53 = .ok (.iinc 2 1, 3) := by decide +kernel
theorem dX5_restore_56 : decode cX5_restore 56 = .ok (.goto (-26), 3) := by decide +kernel
theorem dX5_restore_59 : decode cX5_restore 59 = .ok (.aload_n 0, 1) := by decide +kernel
theorem dX5_restore_60 : decode cX5_restore 60 = .ok (.getfield 7, 3) := by decide +kernel
theorem dX5_restore_63 : decode cX5_restore 63 = .ok (.bipush 21, 2) := by decide +kernel
theorem dX5_restore_65 : decode cX5_restore 65 = .ok (.iaload, 1) := by decide +kernel
theorem dX5_restore_66 : decode cX5_restore 66 = .ok (.ireturn, 1) := by decide +kernel
end
section
/-! the walk's judgement: heap, array of locals and framing are quantified away; what is left is the world's cells, the pc, the listed locals, the stack -/
abbrev gD : Type := va_G × ClassId × ClassId × ClassId × ClassId
def gTys (d : gD) : List (ClassId × FieldType) := [(d.2.1, .int), (d.2.2.1, .char), (d.2.2.2.1, .boolean), (d.2.2.2.2, .object RX3)]
/-- the words of private members of nest mates -/
def gNest : List Cond := [.fieldLinkNest "StickRests$Stick" 9 "StickRests" "FIRST" "[I" "StickRests", .fieldLinkNest "StickRests$Stick" 168 "StickRests$Directions" "unlike" "I" "StickRests", .fieldLinkNest "StickRests" 89 "StickRests$Stick" "directions" "LStickRests$Directions;" "StickRests", .fieldLinkNest "StickRests" 180 "StickRests$Stick" "samples" "I" "StickRests", .fieldLinkNest "StickRests" 98 "StickRests$Pad" "length" "I" "StickRests", .fieldLinkNest "StickRests" 153 "StickRests$Pad" "kind" "C" "StickRests", .fieldLinkNest "StickRests" 170 "StickRests$Pad" "first" "I" "StickRests", .fieldLinkNest "StickRests" 173 "StickRests$Pad" "second" "I" "StickRests", .fieldLinkNest "StickRests" 163 "StickRests$Pad" "times" "I" "StickRests", .fieldLinkNest "StickRests" 102 "StickRests$History" "size" "I" "StickRests", .methodLinkNest "StickRests$Stick" 99 ⟨"StickRests", "isSample", "(II)Z"⟩ "StickRests", .methodLinkNest "StickRests$Stick" 123 ⟨"StickRests", "packed", "(II)I"⟩ "StickRests", .methodLinkNest "StickRests$Stick" 129 ⟨"StickRests", "quotient", "(II)I"⟩ "StickRests"]
theorem gNest_kind : ∀ w ∈ gNest, (∃ (a : String) (i : Nat) (b n d h : String), w = .fieldLinkNest a i b n d h) ∨ (∃ (a : String) (i : Nat) (x : MethodName) (h : String), w = .methodLinkNest a i x h) := by
  intro w hw
  simp only [gNest, List.mem_cons, List.not_mem_nil, or_false] at hw
  rcases hw with rfl | rfl | rfl | rfl | rfl | rfl | rfl | rfl | rfl | rfl | rfl | rfl | rfl
  · exact Or.inl ⟨_, _, _, _, _, _, rfl⟩
  · exact Or.inl ⟨_, _, _, _, _, _, rfl⟩
  · exact Or.inl ⟨_, _, _, _, _, _, rfl⟩
  · exact Or.inl ⟨_, _, _, _, _, _, rfl⟩
  · exact Or.inl ⟨_, _, _, _, _, _, rfl⟩
  · exact Or.inl ⟨_, _, _, _, _, _, rfl⟩
  · exact Or.inl ⟨_, _, _, _, _, _, rfl⟩
  · exact Or.inl ⟨_, _, _, _, _, _, rfl⟩
  · exact Or.inl ⟨_, _, _, _, _, _, rfl⟩
  · exact Or.inl ⟨_, _, _, _, _, _, rfl⟩
  · exact Or.inr ⟨_, _, _, _, rfl⟩
  · exact Or.inr ⟨_, _, _, _, rfl⟩
  · exact Or.inr ⟨_, _, _, _, rfl⟩
/-- what the tables say of the launch's classes, beside the words -/
def gK (d : gD) (U : State) : Prop := va_K d.1 vwCl (gTys d) U ∧ va_AO RX3 U ∧ va_Nw (.castable "[I" "java/lang/Cloneable") U ∧ ∀ w ∈ gNest, va_Nw w U
theorem gK.warm {d : gD} {u U : State} (hW : u.WarmedH U.vm) (h : gK d u) : gK d U := by
  obtain ⟨h1, h2, h3, h4⟩ := h
  refine ⟨h1.moved hW.alike, h2.moved hW.alike, ?_, fun w hw => ?_⟩
  · exact va_tabs rfl (rfl : (u.setVm U.vm).vm = U.vm) (by rw [Cond.castable_setVm hW.alike]; exact h3)
  · rcases gNest_kind w hw with ⟨a, i, b, n, t, q, rfl⟩ | ⟨a, i, y, q, rfl⟩
    · exact va_Nw.warmF hW (h4 _ hw)
    · exact va_Nw.warmM hW (h4 _ hw)
theorem gK.calling {d : gD} {U : State} {g : JFrame} {mk : MethodId} {a : Array Value} (h : gK d U) : gK d (U.calling g mk a) := by
  obtain ⟨h1, h2, h3, h4⟩ := h
  refine ⟨va_K.moved (u := U) (U := U.calling g mk a) (Vm.Alike.refl U.vm) h1, va_AO.moved (u := U) (U := U.calling g mk a) (Vm.Alike.refl U.vm) h2, va_Nw.same rfl (u := U) rfl h3, fun w hw => ?_⟩
  rcases gNest_kind w hw with ⟨a, i, b, n, t, q, rfl⟩ | ⟨a, i, y, q, rfl⟩
  · exact va_Nw.same rfl (u := U) rfl (h4 _ hw)
  · exact va_Nw.same rfl (u := U) rfl (h4 _ hw)
/-- the three tables of the class: which is first, least, most -/
def tabF : Nat → Int32 := fun k => match k with | 0 => 8 | 1 => 6 | 2 => 8 | 3 => 100 | 4 => 150 | 5 => 12 | _ => 4
def tabL : Nat → Int32 := fun k => match k with | 0 => 1 | 1 => 1 | 2 => 0 | 3 => 60 | 4 => 100 | 5 => 2 | _ => 0
def tabM : Nat → Int32 := fun k => match k with | 0 => 64 | 1 => 30 | 2 => 20 | 3 => 127 | 4 => 200 | 5 => 60 | _ => 20
def gZ (n : String) (f : Nat → Int32) (A : Nat → Prop) (U : State) (H : Heap) : Prop := ∃ t : Nat, va_Z RX4 n "[I" (.ref t) A U H ∧ va_T .int t 7 (fun j => .int (f j)) A U H
/-- FIRST's own cell, for its clone -/
def gF (cI : ClassId) (A : Nat → Prop) (U : State) (H : Heap) : Prop := ∃ t : Nat, va_Z RX4 "FIRST" "[I" (.ref t) A U H ∧ ∃ cell : Cell, H[t]? = some cell ∧ cell.vm ≠ .unknown ∧ (∀ k, cell.vm ≠ .statics k) ∧ cell.cls = cI ∧ cell.slots = (vp_cell cI (7, .inl tabF)).slots ∧ U.vm.findClass "[I" = some cI ∧ ¬ A t
def gS (cI : ClassId) (A : Nat → Prop) (U : State) (H : Heap) : Prop := gF cI A U H ∧ gZ "LEAST" tabL A U H ∧ gZ "MOST" tabM A U H
theorem gZ.go {n : String} {f : Nat → Int32} {A B : Nat → Prop} {u U : State} {H H1 : Heap} (hvm : u.vm.Alike U.vm) (hAB : ∀ q, B q → A q) (hq : ∀ a : Nat, a < H.size → ¬ A a → H1[a]? = H[a]?) (h : gZ n f A u H) : gZ n f B U H1 := by
  obtain ⟨t, h1, h2⟩ := h
  exact ⟨t, ((h1.moved hvm).kept hq).narrow hAB, ((h2.moved hvm).kept hq).narrow hAB⟩
theorem gF.go {cI : ClassId} {A B : Nat → Prop} {u U : State} {H H1 : Heap} (hvm : u.vm.Alike U.vm) (hAB : ∀ q, B q → A q) (hq : ∀ a : Nat, a < H.size → ¬ A a → H1[a]? = H[a]?) (h : gF cI A u H) : gF cI B U H1 := by
  obtain ⟨t, h1, cell, h2, h3, h4, h5, h6, h7, h8⟩ := h
  exact ⟨t, ((h1.moved hvm).kept hq).narrow hAB, cell, by rw [hq t (Array.getElem?_eq_some_iff.mp h2).1 h8]; exact h2, h3, h4, h5, h6, by rw [hvm.findClass]; exact h7, fun z => h8 (hAB t z)⟩
theorem gS.go {cI : ClassId} {A B : Nat → Prop} {u U : State} {H H1 : Heap} (hvm : u.vm.Alike U.vm) (hAB : ∀ q, B q → A q) (hq : ∀ a : Nat, a < H.size → ¬ A a → H1[a]? = H[a]?) (h : gS cI A u H) : gS cI B U H1 := ⟨h.1.go hvm hAB hq, h.2.1.go hvm hAB hq, h.2.2.go hvm hAB hq⟩
/-- all that a walk stands in: program, launch, env, room, start, method, arguments, frames below, its record, its code, what it may write, the number of its locals, the end -/
abbrev gX : Type := Program × Launch × Env × Room × State × MethodId × Array Value × List Frame × Method × Code × (Nat → Prop) × Nat × (State → Prop)
def G (d : gD) : gX → va_W → Nat → Nat → Nat → List (Nat × Value) → List Value → Prop := fun (p, l, e, R, s, m, args, below, meth, c, A, nL, Q) ws cells slots pc lv st =>
  ∀ (H : Heap) (locs : List Loc) (ls : Array Slot), va_P d.1 vwCl ws H → va_D A ws → va_S A s.heap H locs → lv_has ls nL lv → W p l e R s m args below meth c H locs cells slots Q (F0 m pc ls st)
def gE (d : gD) : gX → String → ByteArray → Nat → Room → Prop := fun (p, _, _, R, s, m, args, _, meth, c, A, nL, _) own cc n rm =>
  p.tables.exec = Jvm.exec ∧ c.code = cc ∧ c.maxLocals = n ∧ nL = n ∧ s.vm.findClass own = some m.cls ∧ (∀ w ∈ wsL_law, w.before args s = true) ∧ gK d s ∧ gS d.2.1 A s s.heap ∧ (∀ q, s.heap.size ≤ q → A q) ∧ R = rm ∧ meth.locks = false
def gInit : gX → Prop := fun (_, _, _, _, _, _, _, _, meth, _, _, _, _) => meth.name = "<init>"
theorem arrV_congr {cI : ClassId} {N : Nat} {f g : Nat → Value} (h : ∀ j, j < N → f j = g j) : arrV cI N f = arrV cI N g := by
  unfold arrV
  congr 2
  funext j
  exact h j.val j.isLt
section GL
variable {d : gD} {x : gX} {own : String} {cc : ByteArray} {n : Nat} {rm : Room} {ws : va_W} {cells slots pc : Nat} {lv : List (Nat × Value)} {st : List Value}
theorem g_eq {ws' : va_W} (h : ws = ws') (k : G d x ws' cells slots pc lv st) : G d x ws cells slots pc lv st := h ▸ k
theorem g_st {st' : List Value} (h : st = st') (k : G d x ws cells slots pc lv st') : G d x ws cells slots pc lv st := h ▸ k
theorem g_top {a b : Int32} (h : a = b) (k : G d x ws cells slots pc lv (.int b :: st)) : G d x ws cells slots pc lv (.int a :: st) := h ▸ k
theorem g_topl {a b : Int64} (h : a = b) (k : G d x ws cells slots pc lv (.long b :: st)) : G d x ws cells slots pc lv (.long a :: st) := h ▸ k
theorem g_nm {a : Int32} (k : ∀ y : Int32, y = a → G d x ws cells slots pc lv (.int y :: st)) : G d x ws cells slots pc lv (.int a :: st) := k a rfl
theorem g_lv {lv' : List (Nat × Value)} (h : ∀ q ∈ lv', q ∈ lv) (k : G d x ws cells slots pc lv' st) : G d x ws cells slots pc lv st := by
  obtain ⟨p, l, e, R, s, m, args, below, meth, c, A, nL, Q⟩ := x
  intro H locs ls hP hD hS hl
  exact k H locs ls hP hD hS ⟨hl.1, hl.2.1, fun q hq => hl.2.2 q (h q hq)⟩
theorem g_lvs {lv' : List (Nat × Value)} (ks : List Nat) (h : lv_pick lv ks = lv') (k : G d x ws cells slots pc lv' st) : G d x ws cells slots pc lv st := by
  obtain ⟨p, l, e, R, s, m, args, below, meth, c, A, nL, Q⟩ := x
  intro H locs ls hP hD hS hl
  exact k H locs ls hP hD hS (lv_sub hl ks h)
theorem g_widen {k1 n1 : Nat} (h1 : cells ≤ k1) (h2 : slots ≤ n1) (k : G d x ws k1 n1 pc lv st) : G d x ws cells slots pc lv st := by
  obtain ⟨p, l, e, R, s, m, args, below, meth, c, A, nL, Q⟩ := x
  intro H locs ls hP hD hS hl
  exact W.widen h1 h2 (k H locs ls hP hD hS hl)
/-- the cells in another order, or fewer -/
theorem g_sub {ws' : va_W} (hm : ∀ q ∈ ws', q ∈ ws) (hn : (ws'.map (·.1)).Nodup) (k : G d x ws' cells slots pc lv st) : G d x ws cells slots pc lv st := by
  obtain ⟨p, l, e, R, s, m, args, below, meth, c, A, nL, Q⟩ := x
  intro H locs ls hP hD hS hl
  refine k H locs ls (fun i q hq => ?_) ⟨fun i j p q hi hj hpq => ?_, fun i q hq => ?_⟩ hS hl
  · obtain ⟨k, hk⟩ := List.getElem?_of_mem (hm q (List.mem_of_getElem? hq))
    exact hP k q hk
  · have h1 : (ws'.map (·.1))[i]? = some p.1 := by rw [List.getElem?_map, hi]; rfl
    have h2 : (ws'.map (·.1))[j]? = some q.1 := by rw [List.getElem?_map, hj]; rfl
    rw [hpq] at h1
    obtain ⟨l1, e1⟩ := List.getElem?_eq_some_iff.mp h1
    obtain ⟨l2, e2⟩ := List.getElem?_eq_some_iff.mp h2
    have hpw := List.pairwise_iff_getElem.mp hn
    rcases Nat.lt_trichotomy i j with h | h | h
    · exact absurd (e1.trans e2.symm) (hpw i j l1 l2 h)
    · exact h
    · exact absurd (e2.trans e1.symm) (hpw j i l2 l1 h)
  · obtain ⟨k, hk⟩ := List.getElem?_of_mem (hm q (List.mem_of_getElem? hq))
    exact hD.2 k q hk
theorem g_nodup {A : Nat → Prop} {ws : va_W} (hD : va_D A ws) : (ws.map (·.1)).Nodup := by
  refine List.pairwise_iff_getElem.mpr (fun i j hi hj hij h => ?_)
  have hj' : j < ws.length := by simpa using hj
  have hi' : i < ws.length := by simpa using hi
  rw [List.getElem_map, List.getElem_map] at h
  have := hD.1 i j ws[i] ws[j] (List.getElem?_eq_getElem hi') (List.getElem?_eq_getElem hj') h
  omega
theorem g_perm {ws' : va_W} (hp : ws.Perm ws') (k : G d x ws' cells slots pc lv st) : G d x ws cells slots pc lv st := by
  have k0 := k
  obtain ⟨p, l, e, R, s, m, args, below, meth, c, A, nL, Q⟩ := x
  intro H locs ls hP hD hS hl
  exact g_sub (x := (p, l, e, R, s, m, args, below, meth, c, A, nL, Q)) (fun q hq => hp.symm.subset hq) ((hp.map (·.1)).nodup_iff.mp (g_nodup hD)) k0 H locs ls hP hD hS hl
/-- an array's row may be said by any other that is the same within its length -/
theorem g_cell {a n' : Nat} {cA : ClassId} {f f' : Nat → Int32} (q0 : Nat) (he : ws[q0]? = some (a, .inl (cA, n', .inl f))) (hf : ∀ j, j < n' → f j = f' j) (k : G d x (ws.set q0 (a, .inl (cA, n', .inl f'))) cells slots pc lv st) : G d x ws cells slots pc lv st := by
  obtain ⟨p, l, e, R, s, m, args, below, meth, c, A, nL, Q⟩ := x
  intro H locs ls hP hD hS hl
  refine k H locs ls (hP.set hD he ?_ (fun _ _ => rfl)) (hD.set he) hS hl
  show H[a]? = some (vp_cell cA (n', .inl f'))
  rw [show vp_cell cA (n', .inl f') = vp_cell cA (n', .inl f) from ?_]
  · exact hP q0 _ he
  · rw [vp_cell_i, vp_cell_i]
    exact arrV_congr (fun j hj => by rw [hf j hj])
theorem g_cellq {a n' : Nat} {cA : ClassId} {f f' : Nat → Option Nat} (q0 : Nat) (he : ws[q0]? = some (a, .inl (cA, n', .inr (.inr (.inr (.inr f)))))) (hf : ∀ j, j < n' → f j = f' j) (k : G d x (ws.set q0 (a, .inl (cA, n', .inr (.inr (.inr (.inr f')))))) cells slots pc lv st) : G d x ws cells slots pc lv st := by
  obtain ⟨p, l, e, R, s, m, args, below, meth, c, A, nL, Q⟩ := x
  intro H locs ls hP hD hS hl
  refine k H locs ls (hP.set hD he ?_ (fun _ _ => rfl)) (hD.set he) hS hl
  show H[a]? = some (vp_cell cA (n', .inr (.inr (.inr (.inr f')))))
  rw [show vp_cell cA (n', .inr (.inr (.inr (.inr f')))) = vp_cell cA (n', .inr (.inr (.inr (.inr f)))) from ?_]
  · exact hP q0 _ he
  · rw [vp_cell_q, vp_cell_q]
    exact arrV_congr (fun j hj => by rw [hf j hj])
theorem g_iconst (E : gE d x own cc n rm) {k : Int} (v : Int32) (hdg : decode cc pc = .ok (.iconst k, 1)) (hv : Int32.ofInt k = v) (kk : G d x ws cells slots (pc + 1) lv (.int v :: st)) : G d x ws cells slots pc lv (st) := by
  obtain ⟨p, l, e, R, s, m, args, below, meth, c, A, nL, Q⟩ := x
  obtain ⟨hx, hb, hml, hnL, hown, hts, hK, hZ, hA, hR, hlk⟩ := E
  intro H locs ls hP hD hS hl
  exact lv_iconst hx hb hdg hv (kk H locs ls hP hD hS hl)
theorem g_bipush (E : gE d x own cc n rm) {k : Int} (v : Int32) (hdg : decode cc pc = .ok (.bipush k, 2)) (hv : (Int8.ofInt k).toInt32 = v) (kk : G d x ws cells slots (pc + 2) lv (.int v :: st)) : G d x ws cells slots pc lv (st) := by
  obtain ⟨p, l, e, R, s, m, args, below, meth, c, A, nL, Q⟩ := x
  obtain ⟨hx, hb, hml, hnL, hown, hts, hK, hZ, hA, hR, hlk⟩ := E
  intro H locs ls hP hD hS hl
  exact lv_bipush hx hb hdg hv (kk H locs ls hP hD hS hl)
theorem g_sipush (E : gE d x own cc n rm) {k : Int} (v : Int32) (hdg : decode cc pc = .ok (.sipush k, 3)) (hv : (Int16.ofInt k).toInt32 = v) (kk : G d x ws cells slots (pc + 3) lv (.int v :: st)) : G d x ws cells slots pc lv (st) := by
  obtain ⟨p, l, e, R, s, m, args, below, meth, c, A, nL, Q⟩ := x
  obtain ⟨hx, hb, hml, hnL, hown, hts, hK, hZ, hA, hR, hlk⟩ := E
  intro H locs ls hP hD hS hl
  exact lv_sipush hx hb hdg hv (kk H locs ls hP hD hS hl)
theorem g_lconst (E : gE d x own cc n rm) {k : Fin 2} (v : Int64) (hdg : decode cc pc = .ok (.lconst k, 1)) (hv : Int64.ofNat (k : Nat) = v) (kk : G d x ws cells slots (pc + 1) lv (.long v :: st)) : G d x ws cells slots pc lv (st) := by
  obtain ⟨p, l, e, R, s, m, args, below, meth, c, A, nL, Q⟩ := x
  obtain ⟨hx, hb, hml, hnL, hown, hts, hK, hZ, hA, hR, hlk⟩ := E
  intro H locs ls hP hD hS hl
  exact lv_lconst hx hb hdg hv (kk H locs ls hP hD hS hl)
theorem g_ldc2 (E : gE d x own cc n rm) {index : Nat} {v : Int64} (hc : Cond.constantLong own index v ∈ wsL_law) (hdg : decode cc pc = .ok (.ldc2_w index, 3)) (kk : G d x ws cells slots (pc + 3) lv (.long v :: st)) : G d x ws cells slots pc lv (st) := by
  obtain ⟨p, l, e, R, s, m, args, below, meth, c, A, nL, Q⟩ := x
  obtain ⟨hx, hb, hml, hnL, hown, hts, hK, hZ, hA, hR, hlk⟩ := E
  intro H locs ls hP hD hS hl
  exact lv_ldc2 hx hb hown (hts _ hc) hdg (kk H locs ls hP hD hS hl)
theorem g_iload_n (E : gE d x own cc n rm) {k : Fin 4} {i : Nat} {v : Int32} (j : Nat) (hdg : decode cc pc = .ok (.iload_n k, 1)) (hi : (k : Nat) = i) (hj : lv[j]? = some (i, .int v)) (kk : G d x ws cells slots (pc + 1) lv (.int v :: st)) : G d x ws cells slots pc lv (st) := by
  obtain ⟨p, l, e, R, s, m, args, below, meth, c, A, nL, Q⟩ := x
  obtain ⟨hx, hb, hml, hnL, hown, hts, hK, hZ, hA, hR, hlk⟩ := E
  intro H locs ls hP hD hS hl
  exact lv_iload_n hx hb hdg hi (lv_at hl j hj) (kk H locs ls hP hD hS hl)
theorem g_iload (E : gE d x own cc n rm) {i : Nat} {v : Int32} (j : Nat) (hdg : decode cc pc = .ok (.iload i, 2)) (hj : lv[j]? = some (i, .int v)) (kk : G d x ws cells slots (pc + 2) lv (.int v :: st)) : G d x ws cells slots pc lv (st) := by
  obtain ⟨p, l, e, R, s, m, args, below, meth, c, A, nL, Q⟩ := x
  obtain ⟨hx, hb, hml, hnL, hown, hts, hK, hZ, hA, hR, hlk⟩ := E
  intro H locs ls hP hD hS hl
  exact lv_iload hx hb hdg (lv_at hl j hj) (kk H locs ls hP hD hS hl)
theorem g_lload_n (E : gE d x own cc n rm) {k : Fin 4} {i : Nat} {v : Int64} (j : Nat) (hdg : decode cc pc = .ok (.lload_n k, 1)) (hi : (k : Nat) = i) (hj : lv[j]? = some (i, .long v)) (kk : G d x ws cells slots (pc + 1) lv (.long v :: st)) : G d x ws cells slots pc lv (st) := by
  obtain ⟨p, l, e, R, s, m, args, below, meth, c, A, nL, Q⟩ := x
  obtain ⟨hx, hb, hml, hnL, hown, hts, hK, hZ, hA, hR, hlk⟩ := E
  intro H locs ls hP hD hS hl
  exact lv_lload_n hx hb hdg hi (lv_at hl j hj) (kk H locs ls hP hD hS hl)
theorem g_lload (E : gE d x own cc n rm) {i : Nat} {v : Int64} (j : Nat) (hdg : decode cc pc = .ok (.lload i, 2)) (hj : lv[j]? = some (i, .long v)) (kk : G d x ws cells slots (pc + 2) lv (.long v :: st)) : G d x ws cells slots pc lv (st) := by
  obtain ⟨p, l, e, R, s, m, args, below, meth, c, A, nL, Q⟩ := x
  obtain ⟨hx, hb, hml, hnL, hown, hts, hK, hZ, hA, hR, hlk⟩ := E
  intro H locs ls hP hD hS hl
  exact lv_lload hx hb hdg (lv_at hl j hj) (kk H locs ls hP hD hS hl)
theorem g_aload_n (E : gE d x own cc n rm) {k : Fin 4} {i : Nat} {v : Nat} (j : Nat) (hdg : decode cc pc = .ok (.aload_n k, 1)) (hi : (k : Nat) = i) (hj : lv[j]? = some (i, .ref v)) (kk : G d x ws cells slots (pc + 1) lv (.ref v :: st)) : G d x ws cells slots pc lv (st) := by
  obtain ⟨p, l, e, R, s, m, args, below, meth, c, A, nL, Q⟩ := x
  obtain ⟨hx, hb, hml, hnL, hown, hts, hK, hZ, hA, hR, hlk⟩ := E
  intro H locs ls hP hD hS hl
  exact lv_aload_n hx hb hdg hi (lv_at hl j hj) (kk H locs ls hP hD hS hl)
theorem g_aload (E : gE d x own cc n rm) {i : Nat} {v : Nat} (j : Nat) (hdg : decode cc pc = .ok (.aload i, 2)) (hj : lv[j]? = some (i, .ref v)) (kk : G d x ws cells slots (pc + 2) lv (.ref v :: st)) : G d x ws cells slots pc lv (st) := by
  obtain ⟨p, l, e, R, s, m, args, below, meth, c, A, nL, Q⟩ := x
  obtain ⟨hx, hb, hml, hnL, hown, hts, hK, hZ, hA, hR, hlk⟩ := E
  intro H locs ls hP hD hS hl
  exact lv_aload hx hb hdg (lv_at hl j hj) (kk H locs ls hP hD hS hl)
theorem g_istore_n (E : gE d x own cc n rm) {k : Fin 4} {i : Nat} {v : Int32} {lv' : List (Nat × Value)} (hdg : decode cc pc = .ok (.istore_n k, 1)) (hi : (k : Nat) = i) (hn : i < n) (hf : (i, Value.int v) :: lv.filter (fun q => !(q.1 == i) && !(q.1 + 1 == i && q.2.category == 2)) = lv') (kk : G d x ws cells slots (pc + 1) lv' (st)) : G d x ws cells slots pc lv (.int v :: st) := by
  obtain ⟨p, l, e, R, s, m, args, below, meth, c, A, nL, Q⟩ := x
  obtain ⟨hx, hb, hml, hnL, hown, hts, hK, hZ, hA, hR, hlk⟩ := E
  intro H locs ls hP hD hS hl
  exact lv_istore_n hx hb hdg hi hl (by rw [hnL]; exact hn) hf (fun ls hl => (kk H locs ls hP hD hS hl))
theorem g_istore (E : gE d x own cc n rm) {i : Nat} {v : Int32} {lv' : List (Nat × Value)} (hdg : decode cc pc = .ok (.istore i, 2)) (hn : i < n) (hf : (i, Value.int v) :: lv.filter (fun q => !(q.1 == i) && !(q.1 + 1 == i && q.2.category == 2)) = lv') (kk : G d x ws cells slots (pc + 2) lv' (st)) : G d x ws cells slots pc lv (.int v :: st) := by
  obtain ⟨p, l, e, R, s, m, args, below, meth, c, A, nL, Q⟩ := x
  obtain ⟨hx, hb, hml, hnL, hown, hts, hK, hZ, hA, hR, hlk⟩ := E
  intro H locs ls hP hD hS hl
  exact lv_istore hx hb hdg hl (by rw [hnL]; exact hn) hf (fun ls hl => (kk H locs ls hP hD hS hl))
theorem g_lstore_n (E : gE d x own cc n rm) {k : Fin 4} {i : Nat} {v : Int64} {lv' : List (Nat × Value)} (hdg : decode cc pc = .ok (.lstore_n k, 1)) (hi : (k : Nat) = i) (hn : i + 1 < n) (hf : (i, Value.long v) :: lv.filter (fun q => !(q.1 == i) && (!(q.1 == i + 1) && !(q.1 + 1 == i && q.2.category == 2))) = lv') (kk : G d x ws cells slots (pc + 1) lv' (st)) : G d x ws cells slots pc lv (.long v :: st) := by
  obtain ⟨p, l, e, R, s, m, args, below, meth, c, A, nL, Q⟩ := x
  obtain ⟨hx, hb, hml, hnL, hown, hts, hK, hZ, hA, hR, hlk⟩ := E
  intro H locs ls hP hD hS hl
  exact lv_lstore_n hx hb hdg hi hl (by rw [hnL]; exact hn) hf (fun ls hl => (kk H locs ls hP hD hS hl))
theorem g_lstore (E : gE d x own cc n rm) {i : Nat} {v : Int64} {lv' : List (Nat × Value)} (hdg : decode cc pc = .ok (.lstore i, 2)) (hn : i + 1 < n) (hf : (i, Value.long v) :: lv.filter (fun q => !(q.1 == i) && (!(q.1 == i + 1) && !(q.1 + 1 == i && q.2.category == 2))) = lv') (kk : G d x ws cells slots (pc + 2) lv' (st)) : G d x ws cells slots pc lv (.long v :: st) := by
  obtain ⟨p, l, e, R, s, m, args, below, meth, c, A, nL, Q⟩ := x
  obtain ⟨hx, hb, hml, hnL, hown, hts, hK, hZ, hA, hR, hlk⟩ := E
  intro H locs ls hP hD hS hl
  exact lv_lstore hx hb hdg hl (by rw [hnL]; exact hn) hf (fun ls hl => (kk H locs ls hP hD hS hl))
theorem g_astore_n (E : gE d x own cc n rm) {k : Fin 4} {i : Nat} {v : Nat} {lv' : List (Nat × Value)} (hdg : decode cc pc = .ok (.astore_n k, 1)) (hi : (k : Nat) = i) (hn : i < n) (hf : (i, Value.ref v) :: lv.filter (fun q => !(q.1 == i) && !(q.1 + 1 == i && q.2.category == 2)) = lv') (kk : G d x ws cells slots (pc + 1) lv' (st)) : G d x ws cells slots pc lv (.ref v :: st) := by
  obtain ⟨p, l, e, R, s, m, args, below, meth, c, A, nL, Q⟩ := x
  obtain ⟨hx, hb, hml, hnL, hown, hts, hK, hZ, hA, hR, hlk⟩ := E
  intro H locs ls hP hD hS hl
  exact lv_astore_n hx hb hdg hi hl (by rw [hnL]; exact hn) hf (fun ls hl => (kk H locs ls hP hD hS hl))
theorem g_astore (E : gE d x own cc n rm) {i : Nat} {v : Nat} {lv' : List (Nat × Value)} (hdg : decode cc pc = .ok (.astore i, 2)) (hn : i < n) (hf : (i, Value.ref v) :: lv.filter (fun q => !(q.1 == i) && !(q.1 + 1 == i && q.2.category == 2)) = lv') (kk : G d x ws cells slots (pc + 2) lv' (st)) : G d x ws cells slots pc lv (.ref v :: st) := by
  obtain ⟨p, l, e, R, s, m, args, below, meth, c, A, nL, Q⟩ := x
  obtain ⟨hx, hb, hml, hnL, hown, hts, hK, hZ, hA, hR, hlk⟩ := E
  intro H locs ls hP hD hS hl
  exact lv_astore hx hb hdg hl (by rw [hnL]; exact hn) hf (fun ls hl => (kk H locs ls hP hD hS hl))
theorem g_iinc (E : gE d x own cc n rm) {i j : Nat} {k : Int} {a v : Int32} {lv' : List (Nat × Value)} (hdg : decode cc pc = .ok (.iinc i k, 3)) (hj : lv[j]? = some (i, .int a)) (hv : a + Int32.ofInt k = v) (hn : i < n) (hf : (i, Value.int v) :: lv.filter (fun q => !(q.1 == i) && !(q.1 + 1 == i && q.2.category == 2)) = lv') (kk : G d x ws cells slots (pc + 3) lv' (st)) : G d x ws cells slots pc lv (st) := by
  obtain ⟨p, l, e, R, s, m, args, below, meth, c, A, nL, Q⟩ := x
  obtain ⟨hx, hb, hml, hnL, hown, hts, hK, hZ, hA, hR, hlk⟩ := E
  intro H locs ls hP hD hS hl
  exact lv_iinc hx hb hdg hl hj hv (by rw [hnL]; exact hn) hf (fun ls hl => (kk H locs ls hP hD hS hl))
theorem g_iadd (E : gE d x own cc n rm) {a b : Int32} (hdg : decode cc pc = .ok (.iadd, 1))  (kk : G d x ws cells slots (pc + 1) lv (.int (a + b) :: st)) : G d x ws cells slots pc lv (.int b :: .int a :: st) := by
  obtain ⟨p, l, e, R, s, m, args, below, meth, c, A, nL, Q⟩ := x
  obtain ⟨hx, hb, hml, hnL, hown, hts, hK, hZ, hA, hR, hlk⟩ := E
  intro H locs ls hP hD hS hl
  exact lv_iadd hx hb hdg (kk H locs ls hP hD hS hl)
theorem g_isub (E : gE d x own cc n rm) {a b : Int32} (hdg : decode cc pc = .ok (.isub, 1))  (kk : G d x ws cells slots (pc + 1) lv (.int (a - b) :: st)) : G d x ws cells slots pc lv (.int b :: .int a :: st) := by
  obtain ⟨p, l, e, R, s, m, args, below, meth, c, A, nL, Q⟩ := x
  obtain ⟨hx, hb, hml, hnL, hown, hts, hK, hZ, hA, hR, hlk⟩ := E
  intro H locs ls hP hD hS hl
  exact lv_isub hx hb hdg (kk H locs ls hP hD hS hl)
theorem g_imul (E : gE d x own cc n rm) {a b : Int32} (hdg : decode cc pc = .ok (.imul, 1))  (kk : G d x ws cells slots (pc + 1) lv (.int (a * b) :: st)) : G d x ws cells slots pc lv (.int b :: .int a :: st) := by
  obtain ⟨p, l, e, R, s, m, args, below, meth, c, A, nL, Q⟩ := x
  obtain ⟨hx, hb, hml, hnL, hown, hts, hK, hZ, hA, hR, hlk⟩ := E
  intro H locs ls hP hD hS hl
  exact lv_imul hx hb hdg (kk H locs ls hP hD hS hl)
theorem g_idiv (E : gE d x own cc n rm) {a b : Int32} (hdg : decode cc pc = .ok (.idiv, 1)) (hne : ¬ b = 0) (kk : G d x ws cells slots (pc + 1) lv (.int (a / b) :: st)) : G d x ws cells slots pc lv (.int b :: .int a :: st) := by
  obtain ⟨p, l, e, R, s, m, args, below, meth, c, A, nL, Q⟩ := x
  obtain ⟨hx, hb, hml, hnL, hown, hts, hK, hZ, hA, hR, hlk⟩ := E
  intro H locs ls hP hD hS hl
  exact lv_idiv hx hb hdg hne (kk H locs ls hP hD hS hl)
theorem g_irem (E : gE d x own cc n rm) {a b : Int32} (hdg : decode cc pc = .ok (.irem, 1)) (hne : ¬ b = 0) (kk : G d x ws cells slots (pc + 1) lv (.int (a - a / b * b) :: st)) : G d x ws cells slots pc lv (.int b :: .int a :: st) := by
  obtain ⟨p, l, e, R, s, m, args, below, meth, c, A, nL, Q⟩ := x
  obtain ⟨hx, hb, hml, hnL, hown, hts, hK, hZ, hA, hR, hlk⟩ := E
  intro H locs ls hP hD hS hl
  exact lv_irem hx hb hdg hne (kk H locs ls hP hD hS hl)
theorem g_iand (E : gE d x own cc n rm) {a b : Int32} (hdg : decode cc pc = .ok (.iand, 1))  (kk : G d x ws cells slots (pc + 1) lv (.int (a &&& b) :: st)) : G d x ws cells slots pc lv (.int b :: .int a :: st) := by
  obtain ⟨p, l, e, R, s, m, args, below, meth, c, A, nL, Q⟩ := x
  obtain ⟨hx, hb, hml, hnL, hown, hts, hK, hZ, hA, hR, hlk⟩ := E
  intro H locs ls hP hD hS hl
  exact lv_iand hx hb hdg (kk H locs ls hP hD hS hl)
theorem g_ior (E : gE d x own cc n rm) {a b : Int32} (hdg : decode cc pc = .ok (.ior, 1))  (kk : G d x ws cells slots (pc + 1) lv (.int (a ||| b) :: st)) : G d x ws cells slots pc lv (.int b :: .int a :: st) := by
  obtain ⟨p, l, e, R, s, m, args, below, meth, c, A, nL, Q⟩ := x
  obtain ⟨hx, hb, hml, hnL, hown, hts, hK, hZ, hA, hR, hlk⟩ := E
  intro H locs ls hP hD hS hl
  exact lv_ior hx hb hdg (kk H locs ls hP hD hS hl)
theorem g_ixor (E : gE d x own cc n rm) {a b : Int32} (hdg : decode cc pc = .ok (.ixor, 1))  (kk : G d x ws cells slots (pc + 1) lv (.int (a ^^^ b) :: st)) : G d x ws cells slots pc lv (.int b :: .int a :: st) := by
  obtain ⟨p, l, e, R, s, m, args, below, meth, c, A, nL, Q⟩ := x
  obtain ⟨hx, hb, hml, hnL, hown, hts, hK, hZ, hA, hR, hlk⟩ := E
  intro H locs ls hP hD hS hl
  exact lv_ixor hx hb hdg (kk H locs ls hP hD hS hl)
theorem g_ishl (E : gE d x own cc n rm) {a b : Int32} (hdg : decode cc pc = .ok (.ishl, 1))  (kk : G d x ws cells slots (pc + 1) lv (.int (a <<< (b &&& 31)) :: st)) : G d x ws cells slots pc lv (.int b :: .int a :: st) := by
  obtain ⟨p, l, e, R, s, m, args, below, meth, c, A, nL, Q⟩ := x
  obtain ⟨hx, hb, hml, hnL, hown, hts, hK, hZ, hA, hR, hlk⟩ := E
  intro H locs ls hP hD hS hl
  exact lv_ishl hx hb hdg (kk H locs ls hP hD hS hl)
theorem g_ishr (E : gE d x own cc n rm) {a b : Int32} (hdg : decode cc pc = .ok (.ishr, 1))  (kk : G d x ws cells slots (pc + 1) lv (.int (a >>> (b &&& 31)) :: st)) : G d x ws cells slots pc lv (.int b :: .int a :: st) := by
  obtain ⟨p, l, e, R, s, m, args, below, meth, c, A, nL, Q⟩ := x
  obtain ⟨hx, hb, hml, hnL, hown, hts, hK, hZ, hA, hR, hlk⟩ := E
  intro H locs ls hP hD hS hl
  exact lv_ishr hx hb hdg (kk H locs ls hP hD hS hl)
theorem g_ineg (E : gE d x own cc n rm) {a : Int32} (hdg : decode cc pc = .ok (.ineg, 1)) (kk : G d x ws cells slots (pc + 1) lv (.int (-a) :: st)) : G d x ws cells slots pc lv (.int a :: st) := by
  obtain ⟨p, l, e, R, s, m, args, below, meth, c, A, nL, Q⟩ := x
  obtain ⟨hx, hb, hml, hnL, hown, hts, hK, hZ, hA, hR, hlk⟩ := E
  intro H locs ls hP hD hS hl
  exact lv_ineg hx hb hdg (kk H locs ls hP hD hS hl)
theorem g_i2l (E : gE d x own cc n rm) {a : Int32} (hdg : decode cc pc = .ok (.i2l, 1)) (kk : G d x ws cells slots (pc + 1) lv (.long a.toInt64 :: st)) : G d x ws cells slots pc lv (.int a :: st) := by
  obtain ⟨p, l, e, R, s, m, args, below, meth, c, A, nL, Q⟩ := x
  obtain ⟨hx, hb, hml, hnL, hown, hts, hK, hZ, hA, hR, hlk⟩ := E
  intro H locs ls hP hD hS hl
  exact lv_i2l hx hb hdg rfl (kk H locs ls hP hD hS hl)
theorem g_l2i (E : gE d x own cc n rm) {a : Int64} (hdg : decode cc pc = .ok (.l2i, 1)) (kk : G d x ws cells slots (pc + 1) lv (.int a.toInt32 :: st)) : G d x ws cells slots pc lv (.long a :: st) := by
  obtain ⟨p, l, e, R, s, m, args, below, meth, c, A, nL, Q⟩ := x
  obtain ⟨hx, hb, hml, hnL, hown, hts, hK, hZ, hA, hR, hlk⟩ := E
  intro H locs ls hP hD hS hl
  exact lv_l2i hx hb hdg rfl (kk H locs ls hP hD hS hl)
theorem g_i2c (E : gE d x own cc n rm) {a : Int32} (hdg : decode cc pc = .ok (.i2c, 1)) (kk : G d x ws cells slots (pc + 1) lv (.int (a.toUInt32 % 65536).toInt32 :: st)) : G d x ws cells slots pc lv (.int a :: st) := by
  obtain ⟨p, l, e, R, s, m, args, below, meth, c, A, nL, Q⟩ := x
  obtain ⟨hx, hb, hml, hnL, hown, hts, hK, hZ, hA, hR, hlk⟩ := E
  intro H locs ls hP hD hS hl
  exact lv_i2c hx hb hdg rfl (kk H locs ls hP hD hS hl)
theorem g_land (E : gE d x own cc n rm) {a b : Int64} (hdg : decode cc pc = .ok (.land, 1)) (kk : G d x ws cells slots (pc + 1) lv (.long (a &&& b) :: st)) : G d x ws cells slots pc lv (.long b :: .long a :: st) := by
  obtain ⟨p, l, e, R, s, m, args, below, meth, c, A, nL, Q⟩ := x
  obtain ⟨hx, hb, hml, hnL, hown, hts, hK, hZ, hA, hR, hlk⟩ := E
  intro H locs ls hP hD hS hl
  exact lv_land hx hb hdg (kk H locs ls hP hD hS hl)
theorem g_lor (E : gE d x own cc n rm) {a b : Int64} (hdg : decode cc pc = .ok (.lor, 1)) (kk : G d x ws cells slots (pc + 1) lv (.long (a ||| b) :: st)) : G d x ws cells slots pc lv (.long b :: .long a :: st) := by
  obtain ⟨p, l, e, R, s, m, args, below, meth, c, A, nL, Q⟩ := x
  obtain ⟨hx, hb, hml, hnL, hown, hts, hK, hZ, hA, hR, hlk⟩ := E
  intro H locs ls hP hD hS hl
  exact lv_lor hx hb hdg (kk H locs ls hP hD hS hl)
theorem g_lushr (E : gE d x own cc n rm) {a : Int64} {b : Int32} (hdg : decode cc pc = .ok (.lushr, 1)) (kk : G d x ws cells slots (pc + 1) lv (.long ((a.toUInt64 >>> (b.toInt64.toUInt64 &&& Int64.toUInt64 63)).toInt64) :: st)) : G d x ws cells slots pc lv (.int b :: .long a :: st) := by
  obtain ⟨p, l, e, R, s, m, args, below, meth, c, A, nL, Q⟩ := x
  obtain ⟨hx, hb, hml, hnL, hown, hts, hK, hZ, hA, hR, hlk⟩ := E
  intro H locs ls hP hD hS hl
  exact lv_lushr hx hb hdg rfl (kk H locs ls hP hD hS hl)
theorem g_lshl (E : gE d x own cc n rm) {a : Int64} {b : Int32} (hdg : decode cc pc = .ok (.lshl, 1)) (kk : G d x ws cells slots (pc + 1) lv (.long (a <<< (b.toInt64 &&& 63)) :: st)) : G d x ws cells slots pc lv (.int b :: .long a :: st) := by
  obtain ⟨p, l, e, R, s, m, args, below, meth, c, A, nL, Q⟩ := x
  obtain ⟨hx, hb, hml, hnL, hown, hts, hK, hZ, hA, hR, hlk⟩ := E
  intro H locs ls hP hD hS hl
  exact lv_lshl hx hb hdg rfl (kk H locs ls hP hD hS hl)
theorem g_lshr (E : gE d x own cc n rm) {a : Int64} {b : Int32} (hdg : decode cc pc = .ok (.lshr, 1)) (kk : G d x ws cells slots (pc + 1) lv (.long (a >>> (b.toInt64 &&& 63)) :: st)) : G d x ws cells slots pc lv (.int b :: .long a :: st) := by
  obtain ⟨p, l, e, R, s, m, args, below, meth, c, A, nL, Q⟩ := x
  obtain ⟨hx, hb, hml, hnL, hown, hts, hK, hZ, hA, hR, hlk⟩ := E
  intro H locs ls hP hD hS hl
  exact lv_lshr hx hb hdg rfl (kk H locs ls hP hD hS hl)
theorem g_lcmp (E : gE d x own cc n rm) {a b : Int64} (hdg : decode cc pc = .ok (.lcmp, 1)) (kk : G d x ws cells slots (pc + 1) lv (.int (lg_cmp a b) :: st)) : G d x ws cells slots pc lv (.long b :: .long a :: st) := by
  obtain ⟨p, l, e, R, s, m, args, below, meth, c, A, nL, Q⟩ := x
  obtain ⟨hx, hb, hml, hnL, hown, hts, hK, hZ, hA, hR, hlk⟩ := E
  intro H locs ls hP hD hS hl
  exact W.lcmp hx hb hdg (kk H locs ls hP hD hS hl)
theorem g_dup (E : gE d x own cc n rm) {v : Value} (hdg : decode cc pc = .ok (.dup, 1)) (hc : v.category = 1) (kk : G d x ws cells slots (pc + 1) lv (v :: v :: st)) : G d x ws cells slots pc lv (v :: st) := by
  obtain ⟨p, l, e, R, s, m, args, below, meth, c, A, nL, Q⟩ := x
  obtain ⟨hx, hb, hml, hnL, hown, hts, hK, hZ, hA, hR, hlk⟩ := E
  intro H locs ls hP hD hS hl
  exact lv_dup hx hb hdg hc (kk H locs ls hP hD hS hl)
theorem g_dup2 (E : gE d x own cc n rm) {v w : Value} (hdg : decode cc pc = .ok (.dup2, 1)) (hc : v.category = 1) (hc2 : w.category = 1) (kk : G d x ws cells slots (pc + 1) lv (v :: w :: v :: w :: st)) : G d x ws cells slots pc lv (v :: w :: st) := by
  obtain ⟨p, l, e, R, s, m, args, below, meth, c, A, nL, Q⟩ := x
  obtain ⟨hx, hb, hml, hnL, hown, hts, hK, hZ, hA, hR, hlk⟩ := E
  intro H locs ls hP hD hS hl
  exact lv_dup2_11 hx hb hdg hc hc2 (kk H locs ls hP hD hS hl)
theorem g_pop (E : gE d x own cc n rm) {v : Value} (hdg : decode cc pc = .ok (.pop, 1)) (hc : v.category = 1) (kk : G d x ws cells slots (pc + 1) lv (st)) : G d x ws cells slots pc lv (v :: st) := by
  obtain ⟨p, l, e, R, s, m, args, below, meth, c, A, nL, Q⟩ := x
  obtain ⟨hx, hb, hml, hnL, hown, hts, hK, hZ, hA, hR, hlk⟩ := E
  intro H locs ls hP hD hS hl
  exact lv_pop hx hb hdg hc (kk H locs ls hP hD hS hl)
theorem g_ifeq (E : gE d x own cc n rm) {a : Int32} {off : Int} (tgt : Nat) (hdg : decode cc pc = .ok (.ifCond .eq off, 3)) (ht : (pc : Int) + off = (tgt : Int)) (kt : a = 0 → G d x ws cells slots tgt lv (st)) (kf : ¬ a = 0 → G d x ws cells slots (pc + 3) lv (st)) : G d x ws cells slots pc lv (.int a :: st) := by
  obtain ⟨p, l, e, R, s, m, args, below, meth, c, A, nL, Q⟩ := x
  obtain ⟨hx, hb, hml, hnL, hown, hts, hK, hZ, hA, hR, hlk⟩ := E
  intro H locs ls hP hD hS hl
  exact lv_if_eq hx hb hdg ht (fun q => kt (q) H locs ls hP hD hS hl) (fun q => kf (q) H locs ls hP hD hS hl)
theorem g_ifne (E : gE d x own cc n rm) {a : Int32} {off : Int} (tgt : Nat) (hdg : decode cc pc = .ok (.ifCond .ne off, 3)) (ht : (pc : Int) + off = (tgt : Int)) (kt : ¬ a = 0 → G d x ws cells slots tgt lv (st)) (kf : a = 0 → G d x ws cells slots (pc + 3) lv (st)) : G d x ws cells slots pc lv (.int a :: st) := by
  obtain ⟨p, l, e, R, s, m, args, below, meth, c, A, nL, Q⟩ := x
  obtain ⟨hx, hb, hml, hnL, hown, hts, hK, hZ, hA, hR, hlk⟩ := E
  intro H locs ls hP hD hS hl
  exact lv_if_ne hx hb hdg ht (fun q => kt (q) H locs ls hP hD hS hl) (fun q => kf (q) H locs ls hP hD hS hl)
theorem g_iflt (E : gE d x own cc n rm) {a : Int32} {off : Int} (tgt : Nat) (hdg : decode cc pc = .ok (.ifCond .lt off, 3)) (ht : (pc : Int) + off = (tgt : Int)) (kt : a < 0 → G d x ws cells slots tgt lv (st)) (kf : ¬ a < 0 → G d x ws cells slots (pc + 3) lv (st)) : G d x ws cells slots pc lv (.int a :: st) := by
  obtain ⟨p, l, e, R, s, m, args, below, meth, c, A, nL, Q⟩ := x
  obtain ⟨hx, hb, hml, hnL, hown, hts, hK, hZ, hA, hR, hlk⟩ := E
  intro H locs ls hP hD hS hl
  exact lv_if_lt hx hb hdg ht (fun q => kt (q) H locs ls hP hD hS hl) (fun q => kf (q) H locs ls hP hD hS hl)
theorem g_ifge (E : gE d x own cc n rm) {a : Int32} {off : Int} (tgt : Nat) (hdg : decode cc pc = .ok (.ifCond .ge off, 3)) (ht : (pc : Int) + off = (tgt : Int)) (kt : ¬ a < 0 → G d x ws cells slots tgt lv (st)) (kf : a < 0 → G d x ws cells slots (pc + 3) lv (st)) : G d x ws cells slots pc lv (.int a :: st) := by
  obtain ⟨p, l, e, R, s, m, args, below, meth, c, A, nL, Q⟩ := x
  obtain ⟨hx, hb, hml, hnL, hown, hts, hK, hZ, hA, hR, hlk⟩ := E
  intro H locs ls hP hD hS hl
  exact lv_if_ge hx hb hdg ht (fun q => kt (Int32.not_lt.mpr q) H locs ls hP hD hS hl) (fun q => kf (Int32.not_le.mp q) H locs ls hP hD hS hl)
theorem g_ifgt (E : gE d x own cc n rm) {a : Int32} {off : Int} (tgt : Nat) (hdg : decode cc pc = .ok (.ifCond .gt off, 3)) (ht : (pc : Int) + off = (tgt : Int)) (kt : 0 < a → G d x ws cells slots tgt lv (st)) (kf : ¬ 0 < a → G d x ws cells slots (pc + 3) lv (st)) : G d x ws cells slots pc lv (.int a :: st) := by
  obtain ⟨p, l, e, R, s, m, args, below, meth, c, A, nL, Q⟩ := x
  obtain ⟨hx, hb, hml, hnL, hown, hts, hK, hZ, hA, hR, hlk⟩ := E
  intro H locs ls hP hD hS hl
  exact lv_if_gt hx hb hdg ht (fun q => kt (q) H locs ls hP hD hS hl) (fun q => kf (q) H locs ls hP hD hS hl)
theorem g_ifle (E : gE d x own cc n rm) {a : Int32} {off : Int} (tgt : Nat) (hdg : decode cc pc = .ok (.ifCond .le off, 3)) (ht : (pc : Int) + off = (tgt : Int)) (kt : ¬ 0 < a → G d x ws cells slots tgt lv (st)) (kf : 0 < a → G d x ws cells slots (pc + 3) lv (st)) : G d x ws cells slots pc lv (.int a :: st) := by
  obtain ⟨p, l, e, R, s, m, args, below, meth, c, A, nL, Q⟩ := x
  obtain ⟨hx, hb, hml, hnL, hown, hts, hK, hZ, hA, hR, hlk⟩ := E
  intro H locs ls hP hD hS hl
  exact lv_if_le hx hb hdg ht (fun q => kt (Int32.not_lt.mpr q) H locs ls hP hD hS hl) (fun q => kf (Int32.not_le.mp q) H locs ls hP hD hS hl)
theorem g_icmpeq (E : gE d x own cc n rm) {a b : Int32} {off : Int} (tgt : Nat) (hdg : decode cc pc = .ok (.if_icmp .eq off, 3)) (ht : (pc : Int) + off = (tgt : Int)) (kt : a = b → G d x ws cells slots tgt lv (st)) (kf : ¬ a = b → G d x ws cells slots (pc + 3) lv (st)) : G d x ws cells slots pc lv (.int b :: .int a :: st) := by
  obtain ⟨p, l, e, R, s, m, args, below, meth, c, A, nL, Q⟩ := x
  obtain ⟨hx, hb, hml, hnL, hown, hts, hK, hZ, hA, hR, hlk⟩ := E
  intro H locs ls hP hD hS hl
  exact lv_icmp_eq hx hb hdg ht (fun q => kt (q) H locs ls hP hD hS hl) (fun q => kf (q) H locs ls hP hD hS hl)
theorem g_icmpne (E : gE d x own cc n rm) {a b : Int32} {off : Int} (tgt : Nat) (hdg : decode cc pc = .ok (.if_icmp .ne off, 3)) (ht : (pc : Int) + off = (tgt : Int)) (kt : ¬ a = b → G d x ws cells slots tgt lv (st)) (kf : a = b → G d x ws cells slots (pc + 3) lv (st)) : G d x ws cells slots pc lv (.int b :: .int a :: st) := by
  obtain ⟨p, l, e, R, s, m, args, below, meth, c, A, nL, Q⟩ := x
  obtain ⟨hx, hb, hml, hnL, hown, hts, hK, hZ, hA, hR, hlk⟩ := E
  intro H locs ls hP hD hS hl
  exact lv_icmp_ne hx hb hdg ht (fun q => kt (q) H locs ls hP hD hS hl) (fun q => kf (q) H locs ls hP hD hS hl)
theorem g_icmplt (E : gE d x own cc n rm) {a b : Int32} {off : Int} (tgt : Nat) (hdg : decode cc pc = .ok (.if_icmp .lt off, 3)) (ht : (pc : Int) + off = (tgt : Int)) (kt : a < b → G d x ws cells slots tgt lv (st)) (kf : ¬ a < b → G d x ws cells slots (pc + 3) lv (st)) : G d x ws cells slots pc lv (.int b :: .int a :: st) := by
  obtain ⟨p, l, e, R, s, m, args, below, meth, c, A, nL, Q⟩ := x
  obtain ⟨hx, hb, hml, hnL, hown, hts, hK, hZ, hA, hR, hlk⟩ := E
  intro H locs ls hP hD hS hl
  exact lv_icmp_lt hx hb hdg ht (fun q => kt (q) H locs ls hP hD hS hl) (fun q => kf (q) H locs ls hP hD hS hl)
theorem g_icmpge (E : gE d x own cc n rm) {a b : Int32} {off : Int} (tgt : Nat) (hdg : decode cc pc = .ok (.if_icmp .ge off, 3)) (ht : (pc : Int) + off = (tgt : Int)) (kt : ¬ a < b → G d x ws cells slots tgt lv (st)) (kf : a < b → G d x ws cells slots (pc + 3) lv (st)) : G d x ws cells slots pc lv (.int b :: .int a :: st) := by
  obtain ⟨p, l, e, R, s, m, args, below, meth, c, A, nL, Q⟩ := x
  obtain ⟨hx, hb, hml, hnL, hown, hts, hK, hZ, hA, hR, hlk⟩ := E
  intro H locs ls hP hD hS hl
  exact lv_icmp_ge hx hb hdg ht (fun q => kt (Int32.not_lt.mpr q) H locs ls hP hD hS hl) (fun q => kf (Int32.not_le.mp q) H locs ls hP hD hS hl)
theorem g_icmpgt (E : gE d x own cc n rm) {a b : Int32} {off : Int} (tgt : Nat) (hdg : decode cc pc = .ok (.if_icmp .gt off, 3)) (ht : (pc : Int) + off = (tgt : Int)) (kt : b < a → G d x ws cells slots tgt lv (st)) (kf : ¬ b < a → G d x ws cells slots (pc + 3) lv (st)) : G d x ws cells slots pc lv (.int b :: .int a :: st) := by
  obtain ⟨p, l, e, R, s, m, args, below, meth, c, A, nL, Q⟩ := x
  obtain ⟨hx, hb, hml, hnL, hown, hts, hK, hZ, hA, hR, hlk⟩ := E
  intro H locs ls hP hD hS hl
  exact lv_icmp_gt hx hb hdg ht (fun q => kt (q) H locs ls hP hD hS hl) (fun q => kf (q) H locs ls hP hD hS hl)
theorem g_icmple (E : gE d x own cc n rm) {a b : Int32} {off : Int} (tgt : Nat) (hdg : decode cc pc = .ok (.if_icmp .le off, 3)) (ht : (pc : Int) + off = (tgt : Int)) (kt : ¬ b < a → G d x ws cells slots tgt lv (st)) (kf : b < a → G d x ws cells slots (pc + 3) lv (st)) : G d x ws cells slots pc lv (.int b :: .int a :: st) := by
  obtain ⟨p, l, e, R, s, m, args, below, meth, c, A, nL, Q⟩ := x
  obtain ⟨hx, hb, hml, hnL, hown, hts, hK, hZ, hA, hR, hlk⟩ := E
  intro H locs ls hP hD hS hl
  exact lv_icmp_le hx hb hdg ht (fun q => kt (Int32.not_lt.mpr q) H locs ls hP hD hS hl) (fun q => kf (Int32.not_le.mp q) H locs ls hP hD hS hl)
theorem g_goto (E : gE d x own cc n rm) {off : Int} (tgt : Nat) (hdg : decode cc pc = .ok (.goto off, 3)) (ht : (pc : Int) + off = (tgt : Int)) (kk : G d x ws cells slots tgt lv (st)) : G d x ws cells slots pc lv (st) := by
  obtain ⟨p, l, e, R, s, m, args, below, meth, c, A, nL, Q⟩ := x
  obtain ⟨hx, hb, hml, hnL, hown, hts, hK, hZ, hA, hR, hlk⟩ := E
  intro H locs ls hP hD hS hl
  exact lv_goto hx hb hdg ht (kk H locs ls hP hD hS hl)
theorem g_ifnonnull (E : gE d x own cc n rm) {a : Nat} {off : Int} (tgt : Nat) (hdg : decode cc pc = .ok (.ifnonnull off, 3)) (ht : (pc : Int) + off = (tgt : Int)) (kk : G d x ws cells slots tgt lv (st)) : G d x ws cells slots pc lv (.ref a :: st) := by
  obtain ⟨p, l, e, R, s, m, args, below, meth, c, A, nL, Q⟩ := x
  obtain ⟨hx, hb, hml, hnL, hown, hts, hK, hZ, hA, hR, hlk⟩ := E
  intro H locs ls hP hD hS hl
  exact lv_ifnonnull hx hb hdg ht (kk H locs ls hP hD hS hl)
theorem g_ifnonnullN (E : gE d x own cc n rm) {off : Int} (hdg : decode cc pc = .ok (.ifnonnull off, 3)) (kk : G d x ws cells slots (pc + 3) lv (st)) : G d x ws cells slots pc lv (.null :: st) := by
  obtain ⟨p, l, e, R, s, m, args, below, meth, c, A, nL, Q⟩ := x
  obtain ⟨hx, hb, hml, hnL, hown, hts, hK, hZ, hA, hR, hlk⟩ := E
  intro H locs ls hP hD hS hl
  exact lv_ifnonnullN hx hb hdg (kk H locs ls hP hD hS hl)
theorem g_aload_nN (E : gE d x own cc n rm) {k : Fin 4} {i : Nat} (j : Nat) (hdg : decode cc pc = .ok (.aload_n k, 1)) (hi : (k : Nat) = i) (hj : lv[j]? = some (i, .null)) (kk : G d x ws cells slots (pc + 1) lv (.null :: st)) : G d x ws cells slots pc lv (st) := by
  obtain ⟨p, l, e, R, s, m, args, below, meth, c, A, nL, Q⟩ := x
  obtain ⟨hx, hb, hml, hnL, hown, hts, hK, hZ, hA, hR, hlk⟩ := E
  intro H locs ls hP hD hS hl
  exact lv_aload_nN hx hb hdg hi (lv_at hl j hj) (kk H locs ls hP hD hS hl)
theorem g_astore_nN (E : gE d x own cc n rm) {k : Fin 4} {i : Nat} {lv' : List (Nat × Value)} (hdg : decode cc pc = .ok (.astore_n k, 1)) (hi : (k : Nat) = i) (hn : i < n) (hf : (i, Value.null) :: lv.filter (fun q => !(q.1 == i) && !(q.1 + 1 == i && q.2.category == 2)) = lv') (kk : G d x ws cells slots (pc + 1) lv' (st)) : G d x ws cells slots pc lv (.null :: st) := by
  obtain ⟨p, l, e, R, s, m, args, below, meth, c, A, nL, Q⟩ := x
  obtain ⟨hx, hb, hml, hnL, hown, hts, hK, hZ, hA, hR, hlk⟩ := E
  intro H locs ls hP hD hS hl
  exact lv_astore_nN hx hb hdg hi hl (by rw [hnL]; exact hn) hf (fun ls hl => (kk H locs ls hP hD hS hl))
theorem g_lookup (E : gE d x own cc n rm) {dflt : Int} {ps : Array (Int × Int)} {len : Nat} {a : Int32} {off : Int} (tgt : Nat) (hdg : decode cc pc = .ok (.lookupswitch dflt ps, len)) (hp : (ps.toList.zip (ps.toList.drop 1)).all (fun (a, next) => a.1 < next.1) = true) (ho : Op.lookupswitch.offset ps.toList dflt a.toInt = off) (ht : (pc : Int) + off = (tgt : Int)) (kk : G d x ws cells slots tgt lv (st)) : G d x ws cells slots pc lv (.int a :: st) := by
  obtain ⟨p, l, e, R, s, m, args, below, meth, c, A, nL, Q⟩ := x
  obtain ⟨hx, hb, hml, hnL, hown, hts, hK, hZ, hA, hR, hlk⟩ := E
  intro H locs ls hP hD hS hl
  exact lv_lookup hx hb hdg hp ho ht (kk H locs ls hP hD hS hl)
theorem g_tableOut (E : gE d x own cc n rm) {dflt lo hi : Int} {offs : Array Int} {len : Nat} {a : Int32} (tgt : Nat) (hdg : decode cc pc = .ok (.tableswitch dflt lo hi offs, len)) (h : a.toInt < lo ∨ hi < a.toInt) (ht : (pc : Int) + dflt = (tgt : Int)) (kk : G d x ws cells slots tgt lv (st)) : G d x ws cells slots pc lv (.int a :: st) := by
  obtain ⟨p, l, e, R, s, m, args, below, meth, c, A, nL, Q⟩ := x
  obtain ⟨hx, hb, hml, hnL, hown, hts, hK, hZ, hA, hR, hlk⟩ := E
  intro H locs ls hP hD hS hl
  exact lv_tableOut hx hb hdg h ht (kk H locs ls hP hD hS hl)
theorem g_tableIn (E : gE d x own cc n rm) {dflt lo hi : Int} {offs : Array Int} {len : Nat} {a : Int32} {off : Int} (tgt : Nat) (hdg : decode cc pc = .ok (.tableswitch dflt lo hi offs, len)) (h1 : ¬ a.toInt < lo) (h2 : ¬ hi < a.toInt) (ho : offs[(a.toInt - lo).toNat]? = some off) (ht : (pc : Int) + off = (tgt : Int)) (kk : G d x ws cells slots tgt lv (st)) : G d x ws cells slots pc lv (.int a :: st) := by
  obtain ⟨p, l, e, R, s, m, args, below, meth, c, A, nL, Q⟩ := x
  obtain ⟨hx, hb, hml, hnL, hown, hts, hK, hZ, hA, hR, hlk⟩ := E
  intro H locs ls hP hD hS hl
  exact lv_tableIn hx hb hdg h1 h2 ho ht (kk H locs ls hP hD hS hl)
theorem g_get (E : gE d x own cc n rm) {ref C : String} {T : u_T} {N ci index a : Nat} {fs : List Value} (hin : ∀ w ∈ u_ws C T N, w ∈ wsL_law) (q0 : Nat) (he : ws[q0]? = some (a, .inr (ci, fs))) (hc : vwCl[ci]? = some (C, T, N)) (k : Nat) (hk : k < N) (hlink : Cond.fieldLink own index ref (T k).2.1 (T k).2.2.1 ∈ wsL_law) (href : (T k).1 = ref) (v : Value) (hv : fs[k]? = some v) (hdg : decode cc pc = .ok (.getfield index, 3)) (kk : G d x ws cells slots (pc + 3) lv (v :: st)) : G d x ws cells slots pc lv (.ref a :: st) := by
  obtain ⟨p, l, e, R, s, m, args, below, meth, c, A, nL, Q⟩ := x
  obtain ⟨hx, hb, hml, hnL, hown, hts, hK, hZ, hA, hR, hlk⟩ := E
  intro H locs ls hP hD hS hl
  exact va_get hx hb hts hin hown hK.1 hP q0 he hc k hk (hts _ hlink) (fun _ h9 => by rw [← href]; exact h9) hv hdg (kk H locs ls hP hD hS hl)
theorem g_getN (E : gE d x own cc n rm) {ref C : String} {T : u_T} {N ci index a : Nat} {fs : List Value} (hin : ∀ w ∈ u_ws C T N, w ∈ wsL_law) (q0 : Nat) (he : ws[q0]? = some (a, .inr (ci, fs))) (hc : vwCl[ci]? = some (C, T, N)) (k : Nat) (hk : k < N) {host : String} (hlink : Cond.fieldLinkNest own index ref (T k).2.1 (T k).2.2.1 host ∈ gNest) (href : (T k).1 = ref) (v : Value) (hv : fs[k]? = some v) (hdg : decode cc pc = .ok (.getfield index, 3)) (kk : G d x ws cells slots (pc + 3) lv (v :: st)) : G d x ws cells slots pc lv (.ref a :: st) := by
  obtain ⟨p, l, e, R, s, m, args, below, meth, c, A, nL, Q⟩ := x
  obtain ⟨hx, hb, hml, hnL, hown, hts, hK, hZ, hA, hR, hlk⟩ := E
  intro H locs ls hP hD hS hl
  exact va_getN hx hb hts hin hown hK.1 hP q0 he hc k hk (va_Nw.use rfl (hK.2.2.2 _ hlink)) (fun _ h9 => by rw [← href]; exact h9) hv hdg (kk H locs ls hP hD hS hl)
theorem g_put (E : gE d x own cc n rm) {ref C : String} {T : u_T} {N ci index a : Nat} {fs : List Value} (hin : ∀ w ∈ u_ws C T N, w ∈ wsL_law) (q0 : Nat) (he : ws[q0]? = some (a, .inr (ci, fs))) (hc : vwCl[ci]? = some (C, T, N)) (k : Nat) (hk : k < N) (ty0 : Nat → FieldType) (hty : ∀ k, k < N → parseFieldDescriptor (T k).2.2.1 = some (ty0 k)) (hnm : ∀ a, a < N → ∀ b, b < N → a ≠ b → (T a).2.1 ≠ (T b).2.1) (hlink : Cond.fieldLink own index ref (T k).2.1 (T k).2.2.1 ∈ wsL_law) (href : (T k).1 = ref) (hfin : (T k).2.2.2 = false) {v : Value} (hn : narrow (ty0 k) v = v) (hfit : fits (ty0 k) v = true) (hl0 : k < fs.length) {ws' : va_W} (hws : ws.set q0 (a, .inr (ci, fs.set k v)) = ws') (hdg : decode cc pc = .ok (.putfield index, 3)) (kk : G d x ws' cells slots (pc + 3) lv (st)) : G d x ws cells slots pc lv (v :: .ref a :: st) := by
  obtain ⟨p, l, e, R, s, m, args, below, meth, c, A, nL, Q⟩ := x
  obtain ⟨hx, hb, hml, hnL, hown, hts, hK, hZ, hA, hR, hlk⟩ := E
  intro H locs ls hP hD hS hl
  exact va_put hx hb hts hin ty0 hty hnm hown hK.1 hP hD hS q0 he hc k hk (hts _ hlink) (fun _ h9 => by rw [← href]; exact h9) hfin (hty k hk) hn hfit hl0 hdg (fun H locs hP hD hS => by rw [hws] at hP hD; exact kk H locs ls hP hD hS hl)
theorem g_putF (E : gE d x own cc n rm) {ref C : String} {T : u_T} {N ci index a : Nat} {fs : List Value} (hin : ∀ w ∈ u_ws C T N, w ∈ wsL_law) (q0 : Nat) (he : ws[q0]? = some (a, .inr (ci, fs))) (hc : vwCl[ci]? = some (C, T, N)) (k : Nat) (hk : k < N) (ty0 : Nat → FieldType) (hty : ∀ k, k < N → parseFieldDescriptor (T k).2.2.1 = some (ty0 k)) (hnm : ∀ a, a < N → ∀ b, b < N → a ≠ b → (T a).2.1 ≠ (T b).2.1) (hi : gInit x) (hlink : Cond.fieldLink own index ref (T k).2.1 (T k).2.2.1 ∈ wsL_law) (href : (T k).1 = ref) (hfin : (T k).2.2.2 = true) (hown2 : (T k).1 = own) {v : Value} (hn : narrow (ty0 k) v = v) (hfit : fits (ty0 k) v = true) (hl0 : k < fs.length) {ws' : va_W} (hws : ws.set q0 (a, .inr (ci, fs.set k v)) = ws') (hdg : decode cc pc = .ok (.putfield index, 3)) (kk : G d x ws' cells slots (pc + 3) lv (st)) : G d x ws cells slots pc lv (v :: .ref a :: st) := by
  obtain ⟨p, l, e, R, s, m, args, below, meth, c, A, nL, Q⟩ := x
  obtain ⟨hx, hb, hml, hnL, hown, hts, hK, hZ, hA, hR, hlk⟩ := E
  intro H locs ls hP hD hS hl
  exact va_putF hx hb hts hin ty0 hty hnm hown hK.1 hP hD hS q0 he hc k hk (hts _ hlink) (fun _ h9 => by rw [← href]; exact h9) hfin hi hown2 (hty k hk) hn hfit hl0 hdg (fun H locs hP hD hS => by rw [hws] at hP hD; exact kk H locs ls hP hD hS hl)
theorem g_iald (E : gE d x own cc n rm) {a N : Nat} {cA : ClassId} {f : Nat → Int32} (q0 : Nat) (ha : ws[q0]? = some (a, .inl (cA, N, .inl f))) (ht : (gTys d)[0]? = some (cA, .int)) {i : Int32} (j : Nat) (hi : i = nI j) (hj : j < N) (hN : N < 2 ^ 31) (hdg : decode cc pc = .ok (.iaload, 1)) (kk : G d x ws cells slots (pc + 1) lv (.int (f j) :: st)) : G d x ws cells slots pc lv (.int i :: .ref a :: st) := by
  obtain ⟨p, l, e, R, s, m, args, below, meth, c, A, nL, Q⟩ := x
  obtain ⟨hx, hb, hml, hnL, hown, hts, hK, hZ, hA, hR, hlk⟩ := E
  intro H locs ls hP hD hS hl
  subst hi
  refine va_iald hx hb hK.1 hP q0 0 ha ht (vp_in_nI hj hN) hdg ?_
  rw [nI_clamp (by omega)]
  exact kk H locs ls hP hD hS hl
theorem g_cald (E : gE d x own cc n rm) {a N : Nat} {cA : ClassId} {f : Nat → Int32} (q0 : Nat) (ha : ws[q0]? = some (a, .inl (cA, N, .inl f))) (ht : (gTys d)[1]? = some (cA, .char)) {i : Int32} (j : Nat) (hi : i = nI j) (hj : j < N) (hN : N < 2 ^ 31) (hdg : decode cc pc = .ok (.caload, 1)) (kk : G d x ws cells slots (pc + 1) lv (.int (f j) :: st)) : G d x ws cells slots pc lv (.int i :: .ref a :: st) := by
  obtain ⟨p, l, e, R, s, m, args, below, meth, c, A, nL, Q⟩ := x
  obtain ⟨hx, hb, hml, hnL, hown, hts, hK, hZ, hA, hR, hlk⟩ := E
  intro H locs ls hP hD hS hl
  subst hi
  refine va_cald hx hb hK.1 hP q0 1 ha ht (vp_in_nI hj hN) hdg ?_
  rw [nI_clamp (by omega)]
  exact kk H locs ls hP hD hS hl
theorem g_zald (E : gE d x own cc n rm) {a N : Nat} {cA : ClassId} {f : Nat → Int32} (q0 : Nat) (ha : ws[q0]? = some (a, .inl (cA, N, .inl f))) (ht : (gTys d)[2]? = some (cA, .boolean)) {i : Int32} (j : Nat) (hi : i = nI j) (hj : j < N) (hN : N < 2 ^ 31) (hdg : decode cc pc = .ok (.baload, 1)) (kk : G d x ws cells slots (pc + 1) lv (.int (f j) :: st)) : G d x ws cells slots pc lv (.int i :: .ref a :: st) := by
  obtain ⟨p, l, e, R, s, m, args, below, meth, c, A, nL, Q⟩ := x
  obtain ⟨hx, hb, hml, hnL, hown, hts, hK, hZ, hA, hR, hlk⟩ := E
  intro H locs ls hP hD hS hl
  subst hi
  refine va_zald hx hb hK.1 hP q0 2 ha ht (vp_in_nI hj hN) hdg ?_
  rw [nI_clamp (by omega)]
  exact kk H locs ls hP hD hS hl
theorem g_iast (E : gE d x own cc n rm) {a N : Nat} {cA : ClassId} {f : Nat → Int32} (q0 : Nat) (ha : ws[q0]? = some (a, .inl (cA, N, .inl f))) (ht : (gTys d)[0]? = some (cA, .int)) {i v : Int32} (j : Nat) (hi : i = nI j) (hj : j < N) (hN : N < 2 ^ 31) {ws' : va_W} (hws : ws.set q0 (a, .inl (cA, N, .inl (upd f j v))) = ws') (hdg : decode cc pc = .ok (.iastore, 1)) (kk : G d x ws' cells slots (pc + 1) lv (st)) : G d x ws cells slots pc lv (.int v :: .int i :: .ref a :: st) := by
  obtain ⟨p, l, e, R, s, m, args, below, meth, c, A, nL, Q⟩ := x
  obtain ⟨hx, hb, hml, hnL, hown, hts, hK, hZ, hA, hR, hlk⟩ := E
  intro H locs ls hP hD hS hl
  subst hi
  refine va_iast hx hb hK.1 hP hD hS q0 0 ha ht (vp_in_nI hj hN) hdg (fun H locs hP hD hS => ?_)
  rw [nI_clamp (by omega), hws] at hP hD
  exact kk H locs ls hP hD hS hl
theorem g_cast (E : gE d x own cc n rm) {a N : Nat} {cA : ClassId} {f : Nat → Int32} (q0 : Nat) (ha : ws[q0]? = some (a, .inl (cA, N, .inl f))) (ht : (gTys d)[1]? = some (cA, .char)) {i v : Int32} (j : Nat) (hi : i = nI j) (hj : j < N) (hN : N < 2 ^ 31) {ws' : va_W} (hws : ws.set q0 (a, .inl (cA, N, .inl (upd f j (vp_nar .char v)))) = ws') (hdg : decode cc pc = .ok (.castore, 1)) (kk : G d x ws' cells slots (pc + 1) lv (st)) : G d x ws cells slots pc lv (.int v :: .int i :: .ref a :: st) := by
  obtain ⟨p, l, e, R, s, m, args, below, meth, c, A, nL, Q⟩ := x
  obtain ⟨hx, hb, hml, hnL, hown, hts, hK, hZ, hA, hR, hlk⟩ := E
  intro H locs ls hP hD hS hl
  subst hi
  refine va_cast hx hb hK.1 hP hD hS q0 1 ha ht (vp_in_nI hj hN) hdg (fun H locs hP hD hS => ?_)
  rw [nI_clamp (by omega), hws] at hP hD
  exact kk H locs ls hP hD hS hl
theorem g_zast (E : gE d x own cc n rm) {a N : Nat} {cA : ClassId} {f : Nat → Int32} (q0 : Nat) (ha : ws[q0]? = some (a, .inl (cA, N, .inl f))) (ht : (gTys d)[2]? = some (cA, .boolean)) {i v : Int32} (j : Nat) (hi : i = nI j) (hj : j < N) (hN : N < 2 ^ 31) {ws' : va_W} (hws : ws.set q0 (a, .inl (cA, N, .inl (upd f j (vp_nar .boolean v)))) = ws') (hdg : decode cc pc = .ok (.bastore, 1)) (kk : G d x ws' cells slots (pc + 1) lv (st)) : G d x ws cells slots pc lv (.int v :: .int i :: .ref a :: st) := by
  obtain ⟨p, l, e, R, s, m, args, below, meth, c, A, nL, Q⟩ := x
  obtain ⟨hx, hb, hml, hnL, hown, hts, hK, hZ, hA, hR, hlk⟩ := E
  intro H locs ls hP hD hS hl
  subst hi
  refine va_zast hx hb hK.1 hP hD hS q0 2 ha ht (vp_in_nI hj hN) hdg (fun H locs hP hD hS => ?_)
  rw [nI_clamp (by omega), hws] at hP hD
  exact kk H locs ls hP hD hS hl
theorem g_aald (E : gE d x own cc n rm) {a N : Nat} {cA : ClassId} {f : Nat → Option Nat} (q0 : Nat) (ha : ws[q0]? = some (a, .inl (cA, N, .inr (.inr (.inr (.inr f)))))) (ht : (gTys d)[3]? = some (cA, .object RX3)) {i : Int32} (j : Nat) (hi : i = nI j) (hj : j < N) (hN : N < 2 ^ 31) (hdg : decode cc pc = .ok (.aaload, 1)) (kk : G d x ws cells slots (pc + 1) lv (va_rf (f j) :: st)) : G d x ws cells slots pc lv (.int i :: .ref a :: st) := by
  obtain ⟨p, l, e, R, s, m, args, below, meth, c, A, nL, Q⟩ := x
  obtain ⟨hx, hb, hml, hnL, hown, hts, hK, hZ, hA, hR, hlk⟩ := E
  intro H locs ls hP hD hS hl
  subst hi
  refine va_aldq hx hb hK.1 hP q0 3 ha ht (vp_in_nI hj hN) hdg ?_
  rw [nI_clamp (by omega)]
  exact kk H locs ls hP hD hS hl
theorem g_aast (E : gE d x own cc n rm) {a N b : Nat} {cA : ClassId} {f : Nat → Option Nat} {vs : List Value} (q0 qk : Nat) (ha : ws[q0]? = some (a, .inl (cA, N, .inr (.inr (.inr (.inr f)))))) (ht : (gTys d)[3]? = some (cA, .object RX3)) (hv : ws[qk]? = some (b, .inr (3, vs))) {i : Int32} (j : Nat) (hi : i = nI j) (hj : j < N) (hN : N < 2 ^ 31) {ws' : va_W} (hws : ws.set q0 (a, .inl (cA, N, .inr (.inr (.inr (.inr (va_up f j (some b))))))) = ws') (hdg : decode cc pc = .ok (.aastore, 1)) (kk : G d x ws' cells slots (pc + 1) lv (st)) : G d x ws cells slots pc lv (.ref b :: .int i :: .ref a :: st) := by
  obtain ⟨p, l, e, R, s, m, args, below, meth, c, A, nL, Q⟩ := x
  obtain ⟨hx, hb, hml, hnL, hown, hts, hK, hZ, hA, hR, hlk⟩ := E
  intro H locs ls hP hD hS hl
  subst hi
  refine va_astq hx hb hK.1 hP hD hS q0 3 qk 3 (r := (RX3, TX3, 17)) ha ht hv rfl (vp_in_nI hj hN) hdg (fun H locs hP hD hS => ?_)
  rw [nI_clamp (by omega), hws] at hP hD
  exact kk H locs ls hP hD hS hl
theorem g_alen (E : gE d x own cc n rm) {a : Nat} {cA : ClassId} {y : vp_A} (q0 t0 : Nat) (ha : ws[q0]? = some (a, .inl (cA, y))) {ty : FieldType} (ht : (gTys d)[t0]? = some (cA, ty)) (v : Int32) (hv : Int32.ofNat y.1 = v) (hdg : decode cc pc = .ok (.arraylength, 1)) (kk : G d x ws cells slots (pc + 1) lv (.int v :: st)) : G d x ws cells slots pc lv (.ref a :: st) := by
  obtain ⟨p, l, e, R, s, m, args, below, meth, c, A, nL, Q⟩ := x
  obtain ⟨hx, hb, hml, hnL, hown, hts, hK, hZ, hA, hR, hlk⟩ := E
  intro H locs ls hP hD hS hl
  exact va_alen hx hb hK.1 hP q0 t0 ha ht hv hdg (kk H locs ls hP hD hS hl)
theorem g_clsuniq {U : State} {d : gD} {t0 : Nat} {cA : ClassId} {ty : FieldType} (hK : va_K d.1 vwCl (gTys d) U) (ht : (gTys d)[t0]? = some (cA, ty)) {tys : List (ClassId × FieldType)} {cB : ClassId} (h : va_K d.1 vwCl (tys ++ [(cB, ty)]) U) : cB = cA := by
  have h1 := (hK.2 t0 _ ht).2
  have h2 := (h.2 tys.length (cB, ty) (by simp)).2
  cases ty with
  | object C =>
    obtain ⟨_, _, -, -, -, e1⟩ := h1
    obtain ⟨_, _, -, -, -, e2⟩ := h2
    exact Option.some.inj (e2.symm.trans e1)
  | _ => exact Option.some.inj ((show U.vm.findClass _ = some cB from h2).symm.trans (show U.vm.findClass _ = some cA from h1))
theorem g_new (E : gE d x own cc n rm) {C : String} {T : u_T} {N ci index : Nat} (hin : ∀ w ∈ u_ws C T N, w ∈ wsL_law) (ty : Nat → FieldType) (hty : ∀ k, k < N → parseFieldDescriptor (T k).2.2.1 = some (ty k)) (hcl : Cond.classLink own index C ∈ wsL_law) (hinst : Cond.instantiable C N ∈ wsL_law) (hini : Cond.initialized C ∈ wsL_law) (hc : vwCl[ci]? = some (C, T, N)) (fs : List Value) (hfs : ∀ j, j < N → defaultValue (ty j) = vp_V fs j) (h1 : cells + 1 ≤ rm.cells) (h2 : slots + N ≤ rm.slots) (hdg : decode cc pc = .ok (.new index, 3)) (kk : ∀ q : Nat, (∀ z ∈ ws, z.1 ≠ q) → G d x (ws ++ [(q, .inr (ci, fs))]) (cells + 1) (slots + N) (pc + 3) lv (.ref q :: st)) : G d x ws cells slots pc lv (st) := by
  obtain ⟨p, l, e, R, s, m, args, below, meth, c, A, nL, Q⟩ := x
  obtain ⟨hx, hb, hml, hnL, hown, hts, hK, hZ, hA, hR, hlk⟩ := E
  intro H locs ls hP hD hS hl
  subst hR
  exact va_new hx hb hts hin ty hty hown (hts _ hcl) (hts _ hinst) (hts _ hini) hK.1 hP hD hS hA hc hfs h1 h2 hdg (fun q H1 hP1 hD1 hS1 => kk q (fun z hz e => by
    obtain ⟨k, hk⟩ := List.getElem?_of_mem hz
    have hkl := (List.getElem?_eq_some_iff.mp hk).1
    have := hD1.1 k ws.length z (q, .inr (ci, fs)) (by rw [List.getElem?_append_left hkl]; exact hk) (by simp) e
    omega) H1 locs ls hP1 hD1 hS1 hl)
theorem g_newi (E : gE d x own cc n rm) {cA : ClassId} (harr : Cond.arrayClass (newarray.typeOf .int) ∈ wsL_law) (ht : (gTys d)[0]? = some (cA, .int)) {v : Int32} {N : Nat} (hv : v = nI N) (hN : N < 65536) (h1 : cells + 1 ≤ rm.cells) (h2 : slots + N ≤ rm.slots) (hdg : decode cc pc = .ok (.newarray .int, 2)) (kk : ∀ q : Nat, (∀ z ∈ ws, z.1 ≠ q) → G d x (ws ++ [(q, .inl (cA, N, .inl (fun _ => 0)))]) (cells + 1) (slots + N) (pc + 2) lv (.ref q :: st)) : G d x ws cells slots pc lv (.int v :: st) := by
  obtain ⟨p, l, e, R, s, m, args, below, meth, c, A, nL, Q⟩ := x
  obtain ⟨hx, hb, hml, hnL, hown, hts, hK, hZ, hA, hR, hlk⟩ := E
  intro H locs ls hP hD hS hl
  subst hR
  subst hv
  refine va_newa (atype := .int) (ty := .int) (N' := N) (a0 := (N, .inl (fun _ => 0))) hx hb (hts _ harr) rfl hK.1 hP hD hS hA (fun cA => by rw [vp_cell_i]; rfl) (nI_pos (by omega)) (nI_clamp (by omega)) (by simp only [componentBytes]; omega) h1 h2 hdg (fun q cB H1 hK1 hP1 hD1 hS1 => ?_)
  have e := g_clsuniq hK.1 ht hK1
  subst e
  exact kk q (fun z hz e => by
    obtain ⟨k, hk⟩ := List.getElem?_of_mem hz
    have hkl := (List.getElem?_eq_some_iff.mp hk).1
    have := hD1.1 k ws.length z (q, _) (by rw [List.getElem?_append_left hkl]; exact hk) (by simp; rfl) e
    omega) H1 locs ls hP1 hD1 hS1 hl
theorem g_newc (E : gE d x own cc n rm) {cA : ClassId} (harr : Cond.arrayClass (newarray.typeOf .char) ∈ wsL_law) (ht : (gTys d)[1]? = some (cA, .char)) {v : Int32} {N : Nat} (hv : v = nI N) (hN : N < 65536) (h1 : cells + 1 ≤ rm.cells) (h2 : slots + N ≤ rm.slots) (hdg : decode cc pc = .ok (.newarray .char, 2)) (kk : ∀ q : Nat, (∀ z ∈ ws, z.1 ≠ q) → G d x (ws ++ [(q, .inl (cA, N, .inl (fun _ => 0)))]) (cells + 1) (slots + N) (pc + 2) lv (.ref q :: st)) : G d x ws cells slots pc lv (.int v :: st) := by
  obtain ⟨p, l, e, R, s, m, args, below, meth, c, A, nL, Q⟩ := x
  obtain ⟨hx, hb, hml, hnL, hown, hts, hK, hZ, hA, hR, hlk⟩ := E
  intro H locs ls hP hD hS hl
  subst hR
  subst hv
  refine va_newa (atype := .char) (ty := .char) (N' := N) (a0 := (N, .inl (fun _ => 0))) hx hb (hts _ harr) rfl hK.1 hP hD hS hA (fun cA => by rw [vp_cell_i]; rfl) (nI_pos (by omega)) (nI_clamp (by omega)) (by simp only [componentBytes]; omega) h1 h2 hdg (fun q cB H1 hK1 hP1 hD1 hS1 => ?_)
  have e := g_clsuniq hK.1 ht hK1
  subst e
  exact kk q (fun z hz e => by
    obtain ⟨k, hk⟩ := List.getElem?_of_mem hz
    have hkl := (List.getElem?_eq_some_iff.mp hk).1
    have := hD1.1 k ws.length z (q, _) (by rw [List.getElem?_append_left hkl]; exact hk) (by simp; rfl) e
    omega) H1 locs ls hP1 hD1 hS1 hl
theorem g_newz (E : gE d x own cc n rm) {cA : ClassId} (harr : Cond.arrayClass (newarray.typeOf .boolean) ∈ wsL_law) (ht : (gTys d)[2]? = some (cA, .boolean)) {v : Int32} {N : Nat} (hv : v = nI N) (hN : N < 65536) (h1 : cells + 1 ≤ rm.cells) (h2 : slots + N ≤ rm.slots) (hdg : decode cc pc = .ok (.newarray .boolean, 2)) (kk : ∀ q : Nat, (∀ z ∈ ws, z.1 ≠ q) → G d x (ws ++ [(q, .inl (cA, N, .inl (fun _ => 0)))]) (cells + 1) (slots + N) (pc + 2) lv (.ref q :: st)) : G d x ws cells slots pc lv (.int v :: st) := by
  obtain ⟨p, l, e, R, s, m, args, below, meth, c, A, nL, Q⟩ := x
  obtain ⟨hx, hb, hml, hnL, hown, hts, hK, hZ, hA, hR, hlk⟩ := E
  intro H locs ls hP hD hS hl
  subst hR
  subst hv
  refine va_newa (atype := .boolean) (ty := .boolean) (N' := N) (a0 := (N, .inl (fun _ => 0))) hx hb (hts _ harr) rfl hK.1 hP hD hS hA (fun cA => by rw [vp_cell_i]; rfl) (nI_pos (by omega)) (nI_clamp (by omega)) (by simp only [componentBytes]; omega) h1 h2 hdg (fun q cB H1 hK1 hP1 hD1 hS1 => ?_)
  have e := g_clsuniq hK.1 ht hK1
  subst e
  exact kk q (fun z hz e => by
    obtain ⟨k, hk⟩ := List.getElem?_of_mem hz
    have hkl := (List.getElem?_eq_some_iff.mp hk).1
    have := hD1.1 k ws.length z (q, _) (by rw [List.getElem?_append_left hkl]; exact hk) (by simp; rfl) e
    omega) H1 locs ls hP1 hD1 hS1 hl
theorem g_newq (E : gE d x own cc n rm) {cA : ClassId} {index : Nat} (hcl : Cond.classLink own index RX3 ∈ wsL_law) (ht : (gTys d)[3]? = some (cA, .object RX3)) {v : Int32} {N : Nat} (hv : v = nI N) (hN : N < 65536) (h1 : cells + 1 ≤ rm.cells) (h2 : slots + N ≤ rm.slots) (hdg : decode cc pc = .ok (.anewarray index, 3)) (kk : ∀ q : Nat, (∀ z ∈ ws, z.1 ≠ q) → G d x (ws ++ [(q, .inl (cA, N, .inr (.inr (.inr (.inr (fun _ => none))))))]) (cells + 1) (slots + N) (pc + 3) lv (.ref q :: st)) : G d x ws cells slots pc lv (.int v :: st) := by
  obtain ⟨p, l, e, R, s, m, args, below, meth, c, A, nL, Q⟩ := x
  obtain ⟨hx, hb, hml, hnL, hown, hts, hK, hZ, hA, hR, hlk⟩ := E
  intro H locs ls hP hD hS hl
  subst hR
  subst hv
  refine va_newq (C := RX3) hx hb hown (hts _ hcl) hK.2.1 hK.1 hP hD hS hA (nI_pos (by omega)) (nI_clamp (by omega)) (by omega) h1 h2 hdg (fun q cB H1 hK1 hP1 hD1 hS1 => ?_)
  have e := g_clsuniq hK.1 ht hK1
  subst e
  exact kk q (fun z hz e => by
    obtain ⟨k, hk⟩ := List.getElem?_of_mem hz
    have hkl := (List.getElem?_eq_some_iff.mp hk).1
    have := hD1.1 k ws.length z (q, _) (by rw [List.getElem?_append_left hkl]; exact hk) (by simp; rfl) e
    omega) H1 locs ls hP1 hD1 hS1 hl
theorem g_max (E : gE d x own cc n rm) {a b : Int32} {index : Nat} (hlink : Cond.methodLink own index Lib.Math.max.name ∈ wsL_law) (h1 : 1 ≤ rm.frames) (h2 : (st.map fun v => v.category).sum + 13 ≤ rm.locals) (h3 : cells ≤ rm.cells) (h4 : slots ≤ rm.slots) (hdg : decode cc pc = .ok (.invokestatic index, 3)) (kk : G d x ws cells slots (pc + 3) lv (.int (if a < b then b else a) :: st)) : G d x ws cells slots pc lv (.int b :: .int a :: st) := by
  obtain ⟨p, l, e, R, s, m, args, below, meth, c, A, nL, Q⟩ := x
  obtain ⟨hx, hb, hml, hnL, hown, hts, hK, hZ, hA, hR, hlk⟩ := E
  intro H locs ls hP hD hS hl
  subst hR
  exact va_mmax hx hb (by rw [hml, hl.1, hnL]) hown (hts _ hlink) (hts _ um_max_st) (hts _ um_math) (hts _ um_max_code) h1 h2 h3 h4 hdg (kk H locs ls hP hD hS hl)
theorem g_min (E : gE d x own cc n rm) {a b : Int32} {index : Nat} (hlink : Cond.methodLink own index Lib.Math.min.name ∈ wsL_law) (h1 : 1 ≤ rm.frames) (h2 : (st.map fun v => v.category).sum + 13 ≤ rm.locals) (h3 : cells ≤ rm.cells) (h4 : slots ≤ rm.slots) (hdg : decode cc pc = .ok (.invokestatic index, 3)) (kk : G d x ws cells slots (pc + 3) lv (.int (if b < a then b else a) :: st)) : G d x ws cells slots pc lv (.int b :: .int a :: st) := by
  obtain ⟨p, l, e, R, s, m, args, below, meth, c, A, nL, Q⟩ := x
  obtain ⟨hx, hb, hml, hnL, hown, hts, hK, hZ, hA, hR, hlk⟩ := E
  intro H locs ls hP hD hS hl
  subst hR
  exact va_mmin hx hb (by rw [hml, hl.1, hnL]) hown (hts _ hlink) (hts _ um_min_st) (hts _ um_math) (hts _ um_min_code) h1 h2 h3 h4 hdg (kk H locs ls hP hD hS hl)
theorem g_abs (E : gE d x own cc n rm) {a : Int32} {index : Nat} (hlink : Cond.methodLink own index Lib.Math.abs.name ∈ wsL_law) (h1 : 1 ≤ rm.frames) (h2 : (st.map fun v => v.category).sum + 13 ≤ rm.locals) (h3 : cells ≤ rm.cells) (h4 : slots ≤ rm.slots) (hdg : decode cc pc = .ok (.invokestatic index, 3)) (kk : G d x ws cells slots (pc + 3) lv (.int (if 0 ≤ a then a else 0 - a) :: st)) : G d x ws cells slots pc lv (.int a :: st) := by
  obtain ⟨p, l, e, R, s, m, args, below, meth, c, A, nL, Q⟩ := x
  obtain ⟨hx, hb, hml, hnL, hown, hts, hK, hZ, hA, hR, hlk⟩ := E
  intro H locs ls hP hD hS hl
  subst hR
  exact va_mabs hx hb (by rw [hml, hl.1, hnL]) hown (hts _ hlink) (hts _ um_abs_st) (hts _ um_math) (hts _ um_abs_code) h1 h2 h3 h4 hdg (kk H locs ls hP hD hS hl)
theorem g_objInit (E : gE d x own cc n rm) {a index : Nat} (hlink : Cond.methodLink own index objectInit ∈ wsL_law) (h1 : 1 ≤ rm.frames) (h2 : (st.map fun v => v.category).sum + 12 ≤ rm.locals) (hdg : decode cc pc = .ok (.invokespecial index, 3)) (kk : G d x ws cells slots (pc + 3) lv (st)) : G d x ws cells slots pc lv (.ref a :: st) := by
  obtain ⟨p, l, e, R, s, m, args, below, meth, c, A, nL, Q⟩ := x
  obtain ⟨hx, hb, hml, hnL, hown, hts, hK, hZ, hA, hR, hlk⟩ := E
  intro H locs ls hP hD hS hl
  subst hR
  exact W.objInit hx hb hown (hts _ hlink) (hts _ um_obj_in) (hts _ um_obj_code) (g := F0 m pc ls (.ref a :: st)) rfl (by rw [hml, hl.1, hnL]) rfl hdg h1 (by show 2 * 0 + _ + 12 ≤ _; omega) (kk H locs ls hP hD hS hl)
end GL
end
section
/-! calls and methods over the judgement G -/
def gPre (d : gD) (W : va_W) (sz : Nat) (U : State) : Prop := U.heap.size = sz ∧ va_P d.1 vwCl W U.heap ∧ gK d U ∧ va_D (fun _ => True) W ∧ gS d.2.1 (va_A W sz) U U.heap
theorem gPre_blind {d : gD} {av : List Value} {W : va_W} {sz : Nat} : FrameBlind (va_Pc av (gPre d W sz)) := fun a U g mk q => by
  obtain ⟨h0, h1, h2, h3, h4, h5⟩ := q
  exact ⟨h0, h1, h2, h3.calling, h4, h5.go (U := U.calling g mk a) (Vm.Alike.refl U.vm) (fun _ h => h) (fun _ _ _ => rfl)⟩
def gQi (d : gD) (W : va_W) (post : Int32 → va_W → Prop) (sz : Nat) : Array Value → State → Outcome → State → Prop := va_Qi (S := va_W) post (fun u t => va_P d.1 vwCl u t.heap ∧ va_D (va_A W sz) u) (va_A W sz)
def gQv (d : gD) (W : va_W) (post : va_W → Prop) (sz : Nat) : Array Value → State → Outcome → State → Prop := va_Qv (S := va_W) post (fun u t => va_P d.1 vwCl u t.heap ∧ va_D (va_A W sz) u) (va_A W sz)
/-- a method's contract: in the world W, with the arguments av, it answers r in the world u, and 'post r u' -/
def gMi (d : gD) (y : MethodName) (cb : ByteArray) (maxL : Nat) (ret : Option FieldType) (rm : Room) (av : List Value) (W : va_W) (post : Int32 → va_W → Prop) : Prop := ∀ (l : Launch) (sz : Nat), Met l y (uw y cb maxL ret) rm (va_Pc av (gPre d W sz)) (gQi d W post sz) rm.cells rm.slots (va_A W sz)
def gMv (d : gD) (y : MethodName) (cb : ByteArray) (maxL : Nat) (rm : Room) (av : List Value) (W : va_W) (post : va_W → Prop) : Prop := ∀ (l : Launch) (sz : Nat), Met l y (uw y cb maxL none) rm (va_Pc av (gPre d W sz)) (gQv d W post sz) rm.cells rm.slots (va_A W sz)
theorem gMi.mono {d : gD} {y : MethodName} {cb : ByteArray} {maxL : Nat} {ret : Option FieldType} {rm : Room} {av : List Value} {W : va_W} {post post' : Int32 → va_W → Prop} (h : gMi d y cb maxL ret rm av W post) (e : post = post') : gMi d y cb maxL ret rm av W post' := e ▸ h
theorem g_app {W wr : va_W} {k : Nat} {q : Nat × va_E} (hk : W[k]? = some q) : (W ++ wr)[k]? = some q := by
  rw [List.getElem?_append_left (List.getElem?_eq_some_iff.mp hk).1]
  exact hk
theorem g_app2 {W wr : va_W} {k : Nat} {q : Nat × va_E} (hk : wr[k]? = some q) : (W ++ wr)[W.length + k]? = some q := by
  rw [List.getElem?_append_right (by omega), Nat.add_sub_cancel_left]
  exact hk
theorem g_free {d : gD} {A : Nat → Prop} {W wr : va_W} {H0 H : Heap} {locs : List Loc} (hD : va_D A (W ++ wr)) (hS : va_S A H0 H locs) (hA : ∀ q, H0.size ≤ q → A q) : ∀ q, va_A W H.size q → A q := by
  intro q h
  rcases h with ⟨k, e, h⟩ | h
  · exact hD.2 k (q, e) (g_app h)
  · exact hA q (Nat.le_trans hS.1 h)
theorem g_pre {d : gD} {A : Nat → Prop} {W wr : va_W} {s : State} {H : Heap} {locs : List Loc} (hK : gK d s) (hZ : gS d.2.1 A s s.heap) (hP : va_P d.1 vwCl (W ++ wr) H) (hD : va_D A (W ++ wr)) (hS : va_S A s.heap H locs) (hA : ∀ q, s.heap.size ≤ q → A q) (U : State) (hU : U.heap = H) (hW : s.WarmedH U.vm) : gPre d W H.size U := by
  have hPc : va_P d.1 vwCl W H := fun k q hk => hP k q (g_app hk)
  have hDc : va_D A W := ⟨fun i j p q hi hj hpq => hD.1 i j p q (g_app hi) (g_app hj) hpq, fun k q hk => hD.2 k q (g_app hk)⟩
  have hFc := g_free (d := d) hD hS hA
  refine ⟨by rw [hU], by rw [hU]; exact hPc, hK.warm hW, hDc.weaken (fun _ _ _ _ => trivial), ?_⟩
  rw [hU]
  exact hZ.go hW.alike hFc (fun a h1 h2 => hS.2.1 a h1 h2)
theorem g_back {d : gD} {A : Nat → Prop} {W wr u : va_W} {H H1 : Heap} (hP : va_P d.1 vwCl (W ++ wr) H) (hD : va_D A (W ++ wr)) (hk : ∀ q : Nat, q < H.size → ¬ va_A W H.size q → H1[q]? = H[q]?) (hF : ∀ q, va_A W H.size q → A q) (hP1 : va_P d.1 vwCl u H1) (hD1 : va_D (va_A W H.size) u) : va_P d.1 vwCl (u ++ wr) H1 ∧ va_D A (u ++ wr) := by
  have apart : ∀ (k : Nat) (q : Nat × va_E), wr[k]? = some q → q.1 < H.size ∧ ¬ va_A W H.size q.1 := by
    intro k q hq
    have hl := (hP _ q (g_app2 hq)).lt
    refine ⟨hl, fun h => ?_⟩
    rcases h with ⟨k2, e, h⟩ | h
    · have := hD.1 _ _ (q.1, e) q (g_app (wr := wr) h) (g_app2 (W := W) hq) rfl
      have := (List.getElem?_eq_some_iff.mp h).1
      omega
    · omega
  refine ⟨va_P.app hP1 (fun k q hq => ?_), va_D.app (hD1.weaken (fun k q _ h => hF q.1 h)) ⟨fun i j p q hi hj hpq => ?_, fun k q hq => hD.2 _ q (g_app2 hq)⟩ (fun i j x y hx hy hxy => ?_)⟩
  · obtain ⟨g1, g2⟩ := apart k q hq
    exact (hP _ q (g_app2 hq)).kept (hk q.1 g1 g2)
  · have := hD.1 _ _ p q (g_app2 (W := W) hi) (g_app2 (W := W) hj) hpq
    omega
  · exact (apart j y hy).2 (by rw [← hxy]; exact hD1.2 i x hx)
section GA
variable {d : gD} {p : Program} {l : Launch} {e : Env} {R : Room} {s : State} {m : MethodId} {args : Array Value} {below : List Frame} {meth : Method} {c : Code} {A : Nat → Prop} {nL : Nat} {Q : State → Prop} {H : Heap} {locs : List Loc} {cells slots mc ms pc : Nat} {ls : Array Slot} {st0 rest : List Value} {a : Array Value} {W0 wr : va_W} {lv : List (Nat × Value)}
theorem g_aft_i {post : Int32 → va_W → Prop} (hr : va_Run p l e R s m args below meth c H locs cells slots mc ms (F0 m pc ls st0) rest (gQi d W0 post H.size a) (va_A W0 H.size)) (hP : va_P d.1 vwCl (W0 ++ wr) H) (hD : va_D A (W0 ++ wr)) (hS : va_S A s.heap H locs) (hA : ∀ q, s.heap.size ≤ q → A q) (hl : lv_has ls nL lv)
    (kk : ∀ (r : Int32) (u : va_W), post r u → G d (p, l, e, R, s, m, args, below, meth, c, A, nL, Q) (u ++ wr) (cells + mc) (slots + ms) (pc + 3) lv (.int r :: rest)) : W p l e R s m args below meth c H locs cells slots Q (F0 m pc ls st0) := by
  have hFc := g_free (d := d) hD hS hA
  refine va_calli hr hS (fun q _ h => hFc q h) hFc (fun r u t H1 locs1 ht hvm hw hB hz1 hk1 hS1 => ?_)
  obtain ⟨hP1, hD1⟩ := hB
  rw [ht] at hP1
  obtain ⟨hP2, hD2⟩ := g_back hP hD hk1 hFc hP1 hD1
  exact kk r u hw H1 locs1 ls hP2 hD2 hS1 hl
theorem g_aft_v {post : va_W → Prop} (hr : va_Run p l e R s m args below meth c H locs cells slots mc ms (F0 m pc ls st0) rest (gQv d W0 post H.size a) (va_A W0 H.size)) (hP : va_P d.1 vwCl (W0 ++ wr) H) (hD : va_D A (W0 ++ wr)) (hS : va_S A s.heap H locs) (hA : ∀ q, s.heap.size ≤ q → A q) (hl : lv_has ls nL lv)
    (kk : ∀ (u : va_W), post u → G d (p, l, e, R, s, m, args, below, meth, c, A, nL, Q) (u ++ wr) (cells + mc) (slots + ms) (pc + 3) lv rest) : W p l e R s m args below meth c H locs cells slots Q (F0 m pc ls st0) := by
  have hFc := g_free (d := d) hD hS hA
  refine va_callv hr hS (fun q _ h => hFc q h) hFc (fun u t H1 locs1 ht hvm hw hB hz1 hk1 hS1 => ?_)
  obtain ⟨hP1, hD1⟩ := hB
  rw [ht] at hP1
  obtain ⟨hP2, hD2⟩ := g_back hP hD hk1 hFc hP1 hD1
  exact kk u hw H1 locs1 ls hP2 hD2 hS1 hl
end GA
/-- a call's words: of an instance method, a static one, a constructor; of a nest mate's private ones -/
def gCB (y : MethodName) (cb : ByteArray) (maxL : Nat) (ret : Option FieldType) (k : Nat) : Prop := Cond.code y cb maxL ret ∈ wsL_law ∧ Cond.initialized y.cls ∈ wsL_law ∧ (y.cls ≠ "java/lang/invoke/MethodHandle" ∧ y.cls ≠ "java/lang/invoke/VarHandle") ∧ (parseMethodDescriptor y.desc).map (fun d => d.parameters.length) = some k
def gCV (C : String) (y : MethodName) (cb : ByteArray) (maxL : Nat) (ret : Option FieldType) (k : Nat) : Prop := gCB y cb maxL ret k ∧ Cond.instanceMethod y ∈ wsL_law ∧ Cond.selects C y y ∈ wsL_law
def gCS (y : MethodName) (cb : ByteArray) (maxL : Nat) (ret : Option FieldType) (k : Nat) : Prop := gCB y cb maxL ret k ∧ Cond.static y ∈ wsL_law
def gCI (y : MethodName) (cb : ByteArray) (maxL : Nat) (k : Nat) : Prop := gCB y cb maxL none k ∧ y.name = "<init>" ∧ Cond.instanceMethod y ∈ wsL_law
abbrev gRm (rm rmc : Room) (maxL cells slots : Nat) : Prop := rmc.frames + 1 ≤ rm.frames ∧ 8 + (maxL + 11) + rmc.locals ≤ rm.locals ∧ cells + rmc.cells ≤ rm.cells ∧ slots + rmc.slots ≤ rm.slots
theorem gCB.len {y : MethodName} {cb : ByteArray} {maxL : Nat} {ret : Option FieldType} {k : Nat} (h : gCB y cb maxL ret k) : ∀ sig, parseMethodDescriptor y.desc = some sig → k = sig.parameters.length := fun sig hs => by
  have h2 := h.2.2.2
  rw [hs] at h2
  exact (Option.some.inj h2).symm
theorem gCB.b {s : State} {args : Array Value} {own : String} {index : Nat} {y : MethodName} {cb : ByteArray} {maxL : Nat} {ret : Option FieldType} {k : Nat} {rm rmc : Room} {cells slots : Nat} (hts : ∀ w ∈ wsL_law, w.before args s = true) (h : gCB y cb maxL ret k) (hl : Cond.methodLink own index y ∈ wsL_law) (hf : gRm rm rmc maxL cells slots) : CallB rm s args own index y cb maxL ret (uw y cb maxL ret) rmc rmc.cells rmc.slots k :=
  ⟨rfl, rfl, hf.1, hf.2.1, pay_in hts (uw_good h.1), List.mem_cons_self, hts _ h.1, hts _ h.2.1, h.2.2.1, h.len, hts _ hl⟩
theorem gCB.bn {s : State} {args : Array Value} {own : String} {index : Nat} {y : MethodName} {host : String} {cb : ByteArray} {maxL : Nat} {ret : Option FieldType} {k : Nat} {rm rmc : Room} {cells slots : Nat} (hts : ∀ w ∈ wsL_law, w.before args s = true) (h : gCB y cb maxL ret k) (hl : va_Nw (.methodLinkNest own index y host) s) (hf : gRm rm rmc maxL cells slots) : va_CN rm s args own index y host cb maxL ret (uw y cb maxL ret) rmc rmc.cells rmc.slots k :=
  ⟨⟨rfl, rfl, hf.1, hf.2.1, pay_in hts (uw_good h.1), List.mem_cons_self⟩, hts _ h.1, hts _ h.2.1, h.2.2.1, h.len, va_Nw.use rfl hl⟩
section GC
variable {d : gD} {x : gX} {own : String} {cc : ByteArray} {n : Nat} {rm : Room} {ws : va_W} {cells slots pc : Nat} {lv : List (Nat × Value)} {st : List Value}
variable {C : String} {y : MethodName} {cb : ByteArray} {maxL : Nat} {ret : Option FieldType} {k index : Nat} {rmc : Room} {av As rest : List Value} {W0 wr : va_W} {b : Nat}
theorem pk_cpy_in0 {f g : Nat → Int32} {N j : Nat} (h : j < N) : va_cpy f g 0 0 N j = f j := by
  simp [va_cpy, h]
theorem g_callVi (E : gE d x own cc n rm) (hc : gCV C y cb maxL ret k) (hl0 : Cond.methodLink own index y ∈ wsL_law) {post : Int32 → va_W → Prop} (hM : gMi d y cb maxL ret rmc av W0 post) (hav : av = .ref b :: As) (hws : ws = W0 ++ wr) {ci N : Nat} {T : u_T} {fs : List Value} (q0 : Nat) (he : W0[q0]? = some (b, .inr (ci, fs))) (hcl : vwCl[ci]? = some (C, T, N)) (hn : As.length = k) (hst : st = As.reverse ++ .ref b :: rest) (hcat : (rest.map fun v => v.category).sum ≤ 8) (hf : gRm rm rmc maxL cells slots) {c2 n2 : Nat} (hz : cells + rmc.cells = c2) (hz2 : slots + rmc.slots = n2) (hdg : decode cc pc = .ok (.invokevirtual index, 3)) (kk : ∀ (r : Int32) (u : va_W), post r u → G d x (u ++ wr) c2 n2 (pc + 3) lv (.int r :: rest)) : G d x ws cells slots pc lv st := by
  obtain ⟨p, l, e, R, s, m, args, below, meth, c, A, nL, Q⟩ := x
  obtain ⟨hx, hb, hml, hnL, hown, hts, hK, hZ, hA, hR, hlk⟩ := E
  intro H locs ls hP hD hS hl
  subst hws; subst hst; subst hR; subst hav; subst hz; subst hz2
  exact g_aft_i (va_runV (C := C) (As := As) (rest := rest) ⟨hx, hb, hml, hown, hts⟩ (hM l H.size) ⟨gCB.b hts hc.1 hl0 hf, hts _ hc.2.1, hts _ hc.2.2⟩ ⟨gPre_blind, va_recv hK.1 hP hcl (g_app he), fun U hU hW => ⟨rfl, g_pre hK hZ hP hD hS hA U hU hW⟩⟩ rfl hn (hl.1.trans hnL) rfl (lv_room hcat) hdg ⟨hf.2.2.1, hf.2.2.2⟩) hP hD hS hA hl kk
theorem g_callViD (E : gE d x own cc n rm) (hc : gCV C y cb maxL ret k) (hl0 : Cond.methodLink own index y ∈ wsL_law) {F : Int32} {W1 : va_W} (hM : gMi d y cb maxL ret rmc av W0 (fun r u => r = F ∧ u = W1)) (hav : av = .ref b :: As) (hws : ws = W0 ++ wr) {ci N : Nat} {T : u_T} {fs : List Value} (q0 : Nat) (he : W0[q0]? = some (b, .inr (ci, fs))) (hcl : vwCl[ci]? = some (C, T, N)) (hn : As.length = k) (hst : st = As.reverse ++ .ref b :: rest) (hcat : (rest.map fun v => v.category).sum ≤ 8) (hf : gRm rm rmc maxL cells slots) {c2 n2 : Nat} (hz : cells + rmc.cells = c2) (hz2 : slots + rmc.slots = n2) (hdg : decode cc pc = .ok (.invokevirtual index, 3)) (kk : G d x (W1 ++ wr) c2 n2 (pc + 3) lv (.int F :: rest)) : G d x ws cells slots pc lv st :=
  g_callVi E hc hl0 hM hav hws q0 he hcl hn hst hcat hf hz hz2 hdg (fun r u h => by obtain ⟨rfl, rfl⟩ := h; exact kk)
theorem g_callVi0 (E : gE d x own cc n rm) (hc : gCV C y cb maxL ret k) (hl0 : Cond.methodLink own index y ∈ wsL_law) {F : Int32} {W1 : va_W} (hM : gMi d y cb maxL ret rmc av W0 (fun r u => r = F ∧ u = W1)) (hav : av = .ref b :: As) (hws : ws = W0) {ci N : Nat} {T : u_T} {fs : List Value} (q0 : Nat) (he : W0[q0]? = some (b, .inr (ci, fs))) (hcl : vwCl[ci]? = some (C, T, N)) (hn : As.length = k) (hst : st = As.reverse ++ .ref b :: rest) (hcat : (rest.map fun v => v.category).sum ≤ 8) (hf : gRm rm rmc maxL cells slots) {c2 n2 : Nat} (hz : cells + rmc.cells = c2) (hz2 : slots + rmc.slots = n2) (hdg : decode cc pc = .ok (.invokevirtual index, 3)) (kk : G d x W1 c2 n2 (pc + 3) lv (.int F :: rest)) : G d x ws cells slots pc lv st :=
  g_callViD E hc hl0 hM hav (hws.trans (List.append_nil _).symm) q0 he hcl hn hst hcat hf hz hz2 hdg (by rw [List.append_nil]; exact kk)
theorem g_callVv (E : gE d x own cc n rm) (hc : gCV C y cb maxL none k) (hl0 : Cond.methodLink own index y ∈ wsL_law) {post : va_W → Prop} (hM : gMv d y cb maxL rmc av W0 post) (hav : av = .ref b :: As) (hws : ws = W0 ++ wr) {ci N : Nat} {T : u_T} {fs : List Value} (q0 : Nat) (he : W0[q0]? = some (b, .inr (ci, fs))) (hcl : vwCl[ci]? = some (C, T, N)) (hn : As.length = k) (hst : st = As.reverse ++ .ref b :: rest) (hcat : (rest.map fun v => v.category).sum ≤ 8) (hf : gRm rm rmc maxL cells slots) {c2 n2 : Nat} (hz : cells + rmc.cells = c2) (hz2 : slots + rmc.slots = n2) (hdg : decode cc pc = .ok (.invokevirtual index, 3)) (kk : ∀ (u : va_W), post u → G d x (u ++ wr) c2 n2 (pc + 3) lv rest) : G d x ws cells slots pc lv st := by
  obtain ⟨p, l, e, R, s, m, args, below, meth, c, A, nL, Q⟩ := x
  obtain ⟨hx, hb, hml, hnL, hown, hts, hK, hZ, hA, hR, hlk⟩ := E
  intro H locs ls hP hD hS hl
  subst hws; subst hst; subst hR; subst hav; subst hz; subst hz2
  exact g_aft_v (va_runV (C := C) (As := As) (rest := rest) ⟨hx, hb, hml, hown, hts⟩ (hM l H.size) ⟨gCB.b hts hc.1 hl0 hf, hts _ hc.2.1, hts _ hc.2.2⟩ ⟨gPre_blind, va_recv hK.1 hP hcl (g_app he), fun U hU hW => ⟨rfl, g_pre hK hZ hP hD hS hA U hU hW⟩⟩ rfl hn (hl.1.trans hnL) rfl (lv_room hcat) hdg ⟨hf.2.2.1, hf.2.2.2⟩) hP hD hS hA hl kk
theorem g_callVvD (E : gE d x own cc n rm) (hc : gCV C y cb maxL none k) (hl0 : Cond.methodLink own index y ∈ wsL_law) {W1 : va_W} (hM : gMv d y cb maxL rmc av W0 (fun u => u = W1)) (hav : av = .ref b :: As) (hws : ws = W0 ++ wr) {ci N : Nat} {T : u_T} {fs : List Value} (q0 : Nat) (he : W0[q0]? = some (b, .inr (ci, fs))) (hcl : vwCl[ci]? = some (C, T, N)) (hn : As.length = k) (hst : st = As.reverse ++ .ref b :: rest) (hcat : (rest.map fun v => v.category).sum ≤ 8) (hf : gRm rm rmc maxL cells slots) {c2 n2 : Nat} (hz : cells + rmc.cells = c2) (hz2 : slots + rmc.slots = n2) (hdg : decode cc pc = .ok (.invokevirtual index, 3)) (kk : G d x (W1 ++ wr) c2 n2 (pc + 3) lv (rest)) : G d x ws cells slots pc lv st :=
  g_callVv E hc hl0 hM hav hws q0 he hcl hn hst hcat hf hz hz2 hdg (fun u h => by subst h; exact kk)
theorem g_callVv0 (E : gE d x own cc n rm) (hc : gCV C y cb maxL none k) (hl0 : Cond.methodLink own index y ∈ wsL_law) {W1 : va_W} (hM : gMv d y cb maxL rmc av W0 (fun u => u = W1)) (hav : av = .ref b :: As) (hws : ws = W0) {ci N : Nat} {T : u_T} {fs : List Value} (q0 : Nat) (he : W0[q0]? = some (b, .inr (ci, fs))) (hcl : vwCl[ci]? = some (C, T, N)) (hn : As.length = k) (hst : st = As.reverse ++ .ref b :: rest) (hcat : (rest.map fun v => v.category).sum ≤ 8) (hf : gRm rm rmc maxL cells slots) {c2 n2 : Nat} (hz : cells + rmc.cells = c2) (hz2 : slots + rmc.slots = n2) (hdg : decode cc pc = .ok (.invokevirtual index, 3)) (kk : G d x W1 c2 n2 (pc + 3) lv (rest)) : G d x ws cells slots pc lv st :=
  g_callVvD E hc hl0 hM hav (hws.trans (List.append_nil _).symm) q0 he hcl hn hst hcat hf hz hz2 hdg (by rw [List.append_nil]; exact kk)
theorem g_callVNi (E : gE d x own cc n rm) {host : String} (hc : gCV C y cb maxL ret k) (hl0 : Cond.methodLinkNest own index y host ∈ gNest) {post : Int32 → va_W → Prop} (hM : gMi d y cb maxL ret rmc av W0 post) (hav : av = .ref b :: As) (hws : ws = W0 ++ wr) {ci N : Nat} {T : u_T} {fs : List Value} (q0 : Nat) (he : W0[q0]? = some (b, .inr (ci, fs))) (hcl : vwCl[ci]? = some (C, T, N)) (hn : As.length = k) (hst : st = As.reverse ++ .ref b :: rest) (hcat : (rest.map fun v => v.category).sum ≤ 8) (hf : gRm rm rmc maxL cells slots) {c2 n2 : Nat} (hz : cells + rmc.cells = c2) (hz2 : slots + rmc.slots = n2) (hdg : decode cc pc = .ok (.invokevirtual index, 3)) (kk : ∀ (r : Int32) (u : va_W), post r u → G d x (u ++ wr) c2 n2 (pc + 3) lv (.int r :: rest)) : G d x ws cells slots pc lv st := by
  obtain ⟨p, l, e, R, s, m, args, below, meth, c, A, nL, Q⟩ := x
  obtain ⟨hx, hb, hml, hnL, hown, hts, hK, hZ, hA, hR, hlk⟩ := E
  intro H locs ls hP hD hS hl
  subst hws; subst hst; subst hR; subst hav; subst hz; subst hz2
  exact g_aft_i (va_runVN (C := C) (As := As) (rest := rest) ⟨hx, hb, hml, hown, hts⟩ (hM l H.size) ⟨gCB.bn hts hc.1 (hK.2.2.2 _ hl0) hf, hts _ hc.2.1, hts _ hc.2.2⟩ ⟨gPre_blind, va_recv hK.1 hP hcl (g_app he), fun U hU hW => ⟨rfl, g_pre hK hZ hP hD hS hA U hU hW⟩⟩ rfl hn (hl.1.trans hnL) rfl (lv_room hcat) hdg ⟨hf.2.2.1, hf.2.2.2⟩) hP hD hS hA hl kk
theorem g_callVNiD (E : gE d x own cc n rm) {host : String} (hc : gCV C y cb maxL ret k) (hl0 : Cond.methodLinkNest own index y host ∈ gNest) {F : Int32} {W1 : va_W} (hM : gMi d y cb maxL ret rmc av W0 (fun r u => r = F ∧ u = W1)) (hav : av = .ref b :: As) (hws : ws = W0 ++ wr) {ci N : Nat} {T : u_T} {fs : List Value} (q0 : Nat) (he : W0[q0]? = some (b, .inr (ci, fs))) (hcl : vwCl[ci]? = some (C, T, N)) (hn : As.length = k) (hst : st = As.reverse ++ .ref b :: rest) (hcat : (rest.map fun v => v.category).sum ≤ 8) (hf : gRm rm rmc maxL cells slots) {c2 n2 : Nat} (hz : cells + rmc.cells = c2) (hz2 : slots + rmc.slots = n2) (hdg : decode cc pc = .ok (.invokevirtual index, 3)) (kk : G d x (W1 ++ wr) c2 n2 (pc + 3) lv (.int F :: rest)) : G d x ws cells slots pc lv st :=
  g_callVNi E hc hl0 hM hav hws q0 he hcl hn hst hcat hf hz hz2 hdg (fun r u h => by obtain ⟨rfl, rfl⟩ := h; exact kk)
theorem g_callVNi0 (E : gE d x own cc n rm) {host : String} (hc : gCV C y cb maxL ret k) (hl0 : Cond.methodLinkNest own index y host ∈ gNest) {F : Int32} {W1 : va_W} (hM : gMi d y cb maxL ret rmc av W0 (fun r u => r = F ∧ u = W1)) (hav : av = .ref b :: As) (hws : ws = W0) {ci N : Nat} {T : u_T} {fs : List Value} (q0 : Nat) (he : W0[q0]? = some (b, .inr (ci, fs))) (hcl : vwCl[ci]? = some (C, T, N)) (hn : As.length = k) (hst : st = As.reverse ++ .ref b :: rest) (hcat : (rest.map fun v => v.category).sum ≤ 8) (hf : gRm rm rmc maxL cells slots) {c2 n2 : Nat} (hz : cells + rmc.cells = c2) (hz2 : slots + rmc.slots = n2) (hdg : decode cc pc = .ok (.invokevirtual index, 3)) (kk : G d x W1 c2 n2 (pc + 3) lv (.int F :: rest)) : G d x ws cells slots pc lv st :=
  g_callVNiD E hc hl0 hM hav (hws.trans (List.append_nil _).symm) q0 he hcl hn hst hcat hf hz hz2 hdg (by rw [List.append_nil]; exact kk)
theorem g_callVNv (E : gE d x own cc n rm) {host : String} (hc : gCV C y cb maxL none k) (hl0 : Cond.methodLinkNest own index y host ∈ gNest) {post : va_W → Prop} (hM : gMv d y cb maxL rmc av W0 post) (hav : av = .ref b :: As) (hws : ws = W0 ++ wr) {ci N : Nat} {T : u_T} {fs : List Value} (q0 : Nat) (he : W0[q0]? = some (b, .inr (ci, fs))) (hcl : vwCl[ci]? = some (C, T, N)) (hn : As.length = k) (hst : st = As.reverse ++ .ref b :: rest) (hcat : (rest.map fun v => v.category).sum ≤ 8) (hf : gRm rm rmc maxL cells slots) {c2 n2 : Nat} (hz : cells + rmc.cells = c2) (hz2 : slots + rmc.slots = n2) (hdg : decode cc pc = .ok (.invokevirtual index, 3)) (kk : ∀ (u : va_W), post u → G d x (u ++ wr) c2 n2 (pc + 3) lv rest) : G d x ws cells slots pc lv st := by
  obtain ⟨p, l, e, R, s, m, args, below, meth, c, A, nL, Q⟩ := x
  obtain ⟨hx, hb, hml, hnL, hown, hts, hK, hZ, hA, hR, hlk⟩ := E
  intro H locs ls hP hD hS hl
  subst hws; subst hst; subst hR; subst hav; subst hz; subst hz2
  exact g_aft_v (va_runVN (C := C) (As := As) (rest := rest) ⟨hx, hb, hml, hown, hts⟩ (hM l H.size) ⟨gCB.bn hts hc.1 (hK.2.2.2 _ hl0) hf, hts _ hc.2.1, hts _ hc.2.2⟩ ⟨gPre_blind, va_recv hK.1 hP hcl (g_app he), fun U hU hW => ⟨rfl, g_pre hK hZ hP hD hS hA U hU hW⟩⟩ rfl hn (hl.1.trans hnL) rfl (lv_room hcat) hdg ⟨hf.2.2.1, hf.2.2.2⟩) hP hD hS hA hl kk
theorem g_callVNvD (E : gE d x own cc n rm) {host : String} (hc : gCV C y cb maxL none k) (hl0 : Cond.methodLinkNest own index y host ∈ gNest) {W1 : va_W} (hM : gMv d y cb maxL rmc av W0 (fun u => u = W1)) (hav : av = .ref b :: As) (hws : ws = W0 ++ wr) {ci N : Nat} {T : u_T} {fs : List Value} (q0 : Nat) (he : W0[q0]? = some (b, .inr (ci, fs))) (hcl : vwCl[ci]? = some (C, T, N)) (hn : As.length = k) (hst : st = As.reverse ++ .ref b :: rest) (hcat : (rest.map fun v => v.category).sum ≤ 8) (hf : gRm rm rmc maxL cells slots) {c2 n2 : Nat} (hz : cells + rmc.cells = c2) (hz2 : slots + rmc.slots = n2) (hdg : decode cc pc = .ok (.invokevirtual index, 3)) (kk : G d x (W1 ++ wr) c2 n2 (pc + 3) lv (rest)) : G d x ws cells slots pc lv st :=
  g_callVNv E hc hl0 hM hav hws q0 he hcl hn hst hcat hf hz hz2 hdg (fun u h => by subst h; exact kk)
theorem g_callVNv0 (E : gE d x own cc n rm) {host : String} (hc : gCV C y cb maxL none k) (hl0 : Cond.methodLinkNest own index y host ∈ gNest) {W1 : va_W} (hM : gMv d y cb maxL rmc av W0 (fun u => u = W1)) (hav : av = .ref b :: As) (hws : ws = W0) {ci N : Nat} {T : u_T} {fs : List Value} (q0 : Nat) (he : W0[q0]? = some (b, .inr (ci, fs))) (hcl : vwCl[ci]? = some (C, T, N)) (hn : As.length = k) (hst : st = As.reverse ++ .ref b :: rest) (hcat : (rest.map fun v => v.category).sum ≤ 8) (hf : gRm rm rmc maxL cells slots) {c2 n2 : Nat} (hz : cells + rmc.cells = c2) (hz2 : slots + rmc.slots = n2) (hdg : decode cc pc = .ok (.invokevirtual index, 3)) (kk : G d x W1 c2 n2 (pc + 3) lv (rest)) : G d x ws cells slots pc lv st :=
  g_callVNvD E hc hl0 hM hav (hws.trans (List.append_nil _).symm) q0 he hcl hn hst hcat hf hz hz2 hdg (by rw [List.append_nil]; exact kk)
theorem g_callSi (E : gE d x own cc n rm) (hc : gCS y cb maxL ret k) (hl0 : Cond.methodLink own index y ∈ wsL_law) {post : Int32 → va_W → Prop} (hM : gMi d y cb maxL ret rmc av W0 post) (hav : av = As) (hws : ws = W0 ++ wr) (hn : As.length = k) (hst : st = As.reverse ++ rest) (hcat : (rest.map fun v => v.category).sum ≤ 8) (hf : gRm rm rmc maxL cells slots) {c2 n2 : Nat} (hz : cells + rmc.cells = c2) (hz2 : slots + rmc.slots = n2) (hdg : decode cc pc = .ok (.invokestatic index, 3)) (kk : ∀ (r : Int32) (u : va_W), post r u → G d x (u ++ wr) c2 n2 (pc + 3) lv (.int r :: rest)) : G d x ws cells slots pc lv st := by
  obtain ⟨p, l, e, R, s, m, args, below, meth, c, A, nL, Q⟩ := x
  obtain ⟨hx, hb, hml, hnL, hown, hts, hK, hZ, hA, hR, hlk⟩ := E
  intro H locs ls hP hD hS hl
  subst hws; subst hst; subst hR; subst hav; subst hz; subst hz2
  exact g_aft_i (va_runS (As := av) (rest := rest) ⟨hx, hb, hml, hown, hts⟩ (hM l H.size) ⟨gCB.b hts hc.1 hl0 hf, hts _ hc.2⟩ ⟨gPre_blind, fun U hU hW => ⟨rfl, g_pre hK hZ hP hD hS hA U hU hW⟩⟩ rfl hn (hl.1.trans hnL) rfl (lv_room hcat) hdg ⟨hf.2.2.1, hf.2.2.2⟩) hP hD hS hA hl kk
theorem g_callSiD (E : gE d x own cc n rm) (hc : gCS y cb maxL ret k) (hl0 : Cond.methodLink own index y ∈ wsL_law) {F : Int32} {W1 : va_W} (hM : gMi d y cb maxL ret rmc av W0 (fun r u => r = F ∧ u = W1)) (hav : av = As) (hws : ws = W0 ++ wr) (hn : As.length = k) (hst : st = As.reverse ++ rest) (hcat : (rest.map fun v => v.category).sum ≤ 8) (hf : gRm rm rmc maxL cells slots) {c2 n2 : Nat} (hz : cells + rmc.cells = c2) (hz2 : slots + rmc.slots = n2) (hdg : decode cc pc = .ok (.invokestatic index, 3)) (kk : G d x (W1 ++ wr) c2 n2 (pc + 3) lv (.int F :: rest)) : G d x ws cells slots pc lv st :=
  g_callSi E hc hl0 hM hav hws hn hst hcat hf hz hz2 hdg (fun r u h => by obtain ⟨rfl, rfl⟩ := h; exact kk)
theorem g_callSi0 (E : gE d x own cc n rm) (hc : gCS y cb maxL ret k) (hl0 : Cond.methodLink own index y ∈ wsL_law) {F : Int32} {W1 : va_W} (hM : gMi d y cb maxL ret rmc av W0 (fun r u => r = F ∧ u = W1)) (hav : av = As) (hws : ws = W0) (hn : As.length = k) (hst : st = As.reverse ++ rest) (hcat : (rest.map fun v => v.category).sum ≤ 8) (hf : gRm rm rmc maxL cells slots) {c2 n2 : Nat} (hz : cells + rmc.cells = c2) (hz2 : slots + rmc.slots = n2) (hdg : decode cc pc = .ok (.invokestatic index, 3)) (kk : G d x W1 c2 n2 (pc + 3) lv (.int F :: rest)) : G d x ws cells slots pc lv st :=
  g_callSiD E hc hl0 hM hav (hws.trans (List.append_nil _).symm) hn hst hcat hf hz hz2 hdg (by rw [List.append_nil]; exact kk)
theorem g_callSv (E : gE d x own cc n rm) (hc : gCS y cb maxL none k) (hl0 : Cond.methodLink own index y ∈ wsL_law) {post : va_W → Prop} (hM : gMv d y cb maxL rmc av W0 post) (hav : av = As) (hws : ws = W0 ++ wr) (hn : As.length = k) (hst : st = As.reverse ++ rest) (hcat : (rest.map fun v => v.category).sum ≤ 8) (hf : gRm rm rmc maxL cells slots) {c2 n2 : Nat} (hz : cells + rmc.cells = c2) (hz2 : slots + rmc.slots = n2) (hdg : decode cc pc = .ok (.invokestatic index, 3)) (kk : ∀ (u : va_W), post u → G d x (u ++ wr) c2 n2 (pc + 3) lv rest) : G d x ws cells slots pc lv st := by
  obtain ⟨p, l, e, R, s, m, args, below, meth, c, A, nL, Q⟩ := x
  obtain ⟨hx, hb, hml, hnL, hown, hts, hK, hZ, hA, hR, hlk⟩ := E
  intro H locs ls hP hD hS hl
  subst hws; subst hst; subst hR; subst hav; subst hz; subst hz2
  exact g_aft_v (va_runS (As := av) (rest := rest) ⟨hx, hb, hml, hown, hts⟩ (hM l H.size) ⟨gCB.b hts hc.1 hl0 hf, hts _ hc.2⟩ ⟨gPre_blind, fun U hU hW => ⟨rfl, g_pre hK hZ hP hD hS hA U hU hW⟩⟩ rfl hn (hl.1.trans hnL) rfl (lv_room hcat) hdg ⟨hf.2.2.1, hf.2.2.2⟩) hP hD hS hA hl kk
theorem g_callSvD (E : gE d x own cc n rm) (hc : gCS y cb maxL none k) (hl0 : Cond.methodLink own index y ∈ wsL_law) {W1 : va_W} (hM : gMv d y cb maxL rmc av W0 (fun u => u = W1)) (hav : av = As) (hws : ws = W0 ++ wr) (hn : As.length = k) (hst : st = As.reverse ++ rest) (hcat : (rest.map fun v => v.category).sum ≤ 8) (hf : gRm rm rmc maxL cells slots) {c2 n2 : Nat} (hz : cells + rmc.cells = c2) (hz2 : slots + rmc.slots = n2) (hdg : decode cc pc = .ok (.invokestatic index, 3)) (kk : G d x (W1 ++ wr) c2 n2 (pc + 3) lv (rest)) : G d x ws cells slots pc lv st :=
  g_callSv E hc hl0 hM hav hws hn hst hcat hf hz hz2 hdg (fun u h => by subst h; exact kk)
theorem g_callSv0 (E : gE d x own cc n rm) (hc : gCS y cb maxL none k) (hl0 : Cond.methodLink own index y ∈ wsL_law) {W1 : va_W} (hM : gMv d y cb maxL rmc av W0 (fun u => u = W1)) (hav : av = As) (hws : ws = W0) (hn : As.length = k) (hst : st = As.reverse ++ rest) (hcat : (rest.map fun v => v.category).sum ≤ 8) (hf : gRm rm rmc maxL cells slots) {c2 n2 : Nat} (hz : cells + rmc.cells = c2) (hz2 : slots + rmc.slots = n2) (hdg : decode cc pc = .ok (.invokestatic index, 3)) (kk : G d x W1 c2 n2 (pc + 3) lv (rest)) : G d x ws cells slots pc lv st :=
  g_callSvD E hc hl0 hM hav (hws.trans (List.append_nil _).symm) hn hst hcat hf hz hz2 hdg (by rw [List.append_nil]; exact kk)
theorem g_callSNi (E : gE d x own cc n rm) {host : String} (hc : gCS y cb maxL ret k) (hl0 : Cond.methodLinkNest own index y host ∈ gNest) {post : Int32 → va_W → Prop} (hM : gMi d y cb maxL ret rmc av W0 post) (hav : av = As) (hws : ws = W0 ++ wr) (hn : As.length = k) (hst : st = As.reverse ++ rest) (hcat : (rest.map fun v => v.category).sum ≤ 8) (hf : gRm rm rmc maxL cells slots) {c2 n2 : Nat} (hz : cells + rmc.cells = c2) (hz2 : slots + rmc.slots = n2) (hdg : decode cc pc = .ok (.invokestatic index, 3)) (kk : ∀ (r : Int32) (u : va_W), post r u → G d x (u ++ wr) c2 n2 (pc + 3) lv (.int r :: rest)) : G d x ws cells slots pc lv st := by
  obtain ⟨p, l, e, R, s, m, args, below, meth, c, A, nL, Q⟩ := x
  obtain ⟨hx, hb, hml, hnL, hown, hts, hK, hZ, hA, hR, hlk⟩ := E
  intro H locs ls hP hD hS hl
  subst hws; subst hst; subst hR; subst hav; subst hz; subst hz2
  exact g_aft_i (va_runSN (As := av) (rest := rest) ⟨hx, hb, hml, hown, hts⟩ (hM l H.size) ⟨gCB.bn hts hc.1 (hK.2.2.2 _ hl0) hf, hts _ hc.2, trivial⟩ ⟨gPre_blind, fun U hU hW => ⟨rfl, g_pre hK hZ hP hD hS hA U hU hW⟩⟩ rfl hn (hl.1.trans hnL) rfl (lv_room hcat) hdg ⟨hf.2.2.1, hf.2.2.2⟩) hP hD hS hA hl kk
theorem g_callSNiD (E : gE d x own cc n rm) {host : String} (hc : gCS y cb maxL ret k) (hl0 : Cond.methodLinkNest own index y host ∈ gNest) {F : Int32} {W1 : va_W} (hM : gMi d y cb maxL ret rmc av W0 (fun r u => r = F ∧ u = W1)) (hav : av = As) (hws : ws = W0 ++ wr) (hn : As.length = k) (hst : st = As.reverse ++ rest) (hcat : (rest.map fun v => v.category).sum ≤ 8) (hf : gRm rm rmc maxL cells slots) {c2 n2 : Nat} (hz : cells + rmc.cells = c2) (hz2 : slots + rmc.slots = n2) (hdg : decode cc pc = .ok (.invokestatic index, 3)) (kk : G d x (W1 ++ wr) c2 n2 (pc + 3) lv (.int F :: rest)) : G d x ws cells slots pc lv st :=
  g_callSNi E hc hl0 hM hav hws hn hst hcat hf hz hz2 hdg (fun r u h => by obtain ⟨rfl, rfl⟩ := h; exact kk)
theorem g_callSNi0 (E : gE d x own cc n rm) {host : String} (hc : gCS y cb maxL ret k) (hl0 : Cond.methodLinkNest own index y host ∈ gNest) {F : Int32} {W1 : va_W} (hM : gMi d y cb maxL ret rmc av W0 (fun r u => r = F ∧ u = W1)) (hav : av = As) (hws : ws = W0) (hn : As.length = k) (hst : st = As.reverse ++ rest) (hcat : (rest.map fun v => v.category).sum ≤ 8) (hf : gRm rm rmc maxL cells slots) {c2 n2 : Nat} (hz : cells + rmc.cells = c2) (hz2 : slots + rmc.slots = n2) (hdg : decode cc pc = .ok (.invokestatic index, 3)) (kk : G d x W1 c2 n2 (pc + 3) lv (.int F :: rest)) : G d x ws cells slots pc lv st :=
  g_callSNiD E hc hl0 hM hav (hws.trans (List.append_nil _).symm) hn hst hcat hf hz hz2 hdg (by rw [List.append_nil]; exact kk)
theorem g_callSNv (E : gE d x own cc n rm) {host : String} (hc : gCS y cb maxL none k) (hl0 : Cond.methodLinkNest own index y host ∈ gNest) {post : va_W → Prop} (hM : gMv d y cb maxL rmc av W0 post) (hav : av = As) (hws : ws = W0 ++ wr) (hn : As.length = k) (hst : st = As.reverse ++ rest) (hcat : (rest.map fun v => v.category).sum ≤ 8) (hf : gRm rm rmc maxL cells slots) {c2 n2 : Nat} (hz : cells + rmc.cells = c2) (hz2 : slots + rmc.slots = n2) (hdg : decode cc pc = .ok (.invokestatic index, 3)) (kk : ∀ (u : va_W), post u → G d x (u ++ wr) c2 n2 (pc + 3) lv rest) : G d x ws cells slots pc lv st := by
  obtain ⟨p, l, e, R, s, m, args, below, meth, c, A, nL, Q⟩ := x
  obtain ⟨hx, hb, hml, hnL, hown, hts, hK, hZ, hA, hR, hlk⟩ := E
  intro H locs ls hP hD hS hl
  subst hws; subst hst; subst hR; subst hav; subst hz; subst hz2
  exact g_aft_v (va_runSN (As := av) (rest := rest) ⟨hx, hb, hml, hown, hts⟩ (hM l H.size) ⟨gCB.bn hts hc.1 (hK.2.2.2 _ hl0) hf, hts _ hc.2, trivial⟩ ⟨gPre_blind, fun U hU hW => ⟨rfl, g_pre hK hZ hP hD hS hA U hU hW⟩⟩ rfl hn (hl.1.trans hnL) rfl (lv_room hcat) hdg ⟨hf.2.2.1, hf.2.2.2⟩) hP hD hS hA hl kk
theorem g_callSNvD (E : gE d x own cc n rm) {host : String} (hc : gCS y cb maxL none k) (hl0 : Cond.methodLinkNest own index y host ∈ gNest) {W1 : va_W} (hM : gMv d y cb maxL rmc av W0 (fun u => u = W1)) (hav : av = As) (hws : ws = W0 ++ wr) (hn : As.length = k) (hst : st = As.reverse ++ rest) (hcat : (rest.map fun v => v.category).sum ≤ 8) (hf : gRm rm rmc maxL cells slots) {c2 n2 : Nat} (hz : cells + rmc.cells = c2) (hz2 : slots + rmc.slots = n2) (hdg : decode cc pc = .ok (.invokestatic index, 3)) (kk : G d x (W1 ++ wr) c2 n2 (pc + 3) lv (rest)) : G d x ws cells slots pc lv st :=
  g_callSNv E hc hl0 hM hav hws hn hst hcat hf hz hz2 hdg (fun u h => by subst h; exact kk)
theorem g_callSNv0 (E : gE d x own cc n rm) {host : String} (hc : gCS y cb maxL none k) (hl0 : Cond.methodLinkNest own index y host ∈ gNest) {W1 : va_W} (hM : gMv d y cb maxL rmc av W0 (fun u => u = W1)) (hav : av = As) (hws : ws = W0) (hn : As.length = k) (hst : st = As.reverse ++ rest) (hcat : (rest.map fun v => v.category).sum ≤ 8) (hf : gRm rm rmc maxL cells slots) {c2 n2 : Nat} (hz : cells + rmc.cells = c2) (hz2 : slots + rmc.slots = n2) (hdg : decode cc pc = .ok (.invokestatic index, 3)) (kk : G d x W1 c2 n2 (pc + 3) lv (rest)) : G d x ws cells slots pc lv st :=
  g_callSNvD E hc hl0 hM hav (hws.trans (List.append_nil _).symm) hn hst hcat hf hz hz2 hdg (by rw [List.append_nil]; exact kk)
theorem g_callIv (E : gE d x own cc n rm) (hc : gCI y cb maxL k) (hl0 : Cond.methodLink own index y ∈ wsL_law) {post : va_W → Prop} (hM : gMv d y cb maxL rmc av W0 post) (hav : av = .ref b :: As) (hws : ws = W0 ++ wr) (hn : As.length = k) (hst : st = As.reverse ++ .ref b :: rest) (hcat : (rest.map fun v => v.category).sum ≤ 8) (hf : gRm rm rmc maxL cells slots) {c2 n2 : Nat} (hz : cells + rmc.cells = c2) (hz2 : slots + rmc.slots = n2) (hdg : decode cc pc = .ok (.invokespecial index, 3)) (kk : ∀ (u : va_W), post u → G d x (u ++ wr) c2 n2 (pc + 3) lv rest) : G d x ws cells slots pc lv st := by
  obtain ⟨p, l, e, R, s, m, args, below, meth, c, A, nL, Q⟩ := x
  obtain ⟨hx, hb, hml, hnL, hown, hts, hK, hZ, hA, hR, hlk⟩ := E
  intro H locs ls hP hD hS hl
  subst hws; subst hst; subst hR; subst hav; subst hz; subst hz2
  exact g_aft_v (va_runI (As := As) (rest := rest) ⟨hx, hb, hml, hown, hts⟩ (hM l H.size) ⟨gCB.b hts hc.1 hl0 hf, hc.2.1, hts _ hc.2.2⟩ ⟨gPre_blind, fun U hU hW => ⟨rfl, g_pre hK hZ hP hD hS hA U hU hW⟩⟩ rfl hn (hl.1.trans hnL) rfl (lv_room hcat) hdg ⟨hf.2.2.1, hf.2.2.2⟩) hP hD hS hA hl kk
theorem g_callIvD (E : gE d x own cc n rm) (hc : gCI y cb maxL k) (hl0 : Cond.methodLink own index y ∈ wsL_law) {W1 : va_W} (hM : gMv d y cb maxL rmc av W0 (fun u => u = W1)) (hav : av = .ref b :: As) (hws : ws = W0 ++ wr) (hn : As.length = k) (hst : st = As.reverse ++ .ref b :: rest) (hcat : (rest.map fun v => v.category).sum ≤ 8) (hf : gRm rm rmc maxL cells slots) {c2 n2 : Nat} (hz : cells + rmc.cells = c2) (hz2 : slots + rmc.slots = n2) (hdg : decode cc pc = .ok (.invokespecial index, 3)) (kk : G d x (W1 ++ wr) c2 n2 (pc + 3) lv (rest)) : G d x ws cells slots pc lv st :=
  g_callIv E hc hl0 hM hav hws hn hst hcat hf hz hz2 hdg (fun u h => by subst h; exact kk)
theorem g_callIv0 (E : gE d x own cc n rm) (hc : gCI y cb maxL k) (hl0 : Cond.methodLink own index y ∈ wsL_law) {W1 : va_W} (hM : gMv d y cb maxL rmc av W0 (fun u => u = W1)) (hav : av = .ref b :: As) (hws : ws = W0) (hn : As.length = k) (hst : st = As.reverse ++ .ref b :: rest) (hcat : (rest.map fun v => v.category).sum ≤ 8) (hf : gRm rm rmc maxL cells slots) {c2 n2 : Nat} (hz : cells + rmc.cells = c2) (hz2 : slots + rmc.slots = n2) (hdg : decode cc pc = .ok (.invokespecial index, 3)) (kk : G d x W1 c2 n2 (pc + 3) lv (rest)) : G d x ws cells slots pc lv st :=
  g_callIvD E hc hl0 hM hav (hws.trans (List.append_nil _).symm) hn hst hcat hf hz hz2 hdg (by rw [List.append_nil]; exact kk)
theorem g_callSp (E : gE d x own cc n rm) (hc : gCS y cb maxL ret k) (hl0 : Cond.methodLink own index y ∈ wsL_law) {F : Int32} (hM : gMi d y cb maxL ret rmc av [] (fun r u => r = F ∧ u = [])) (hav : av = As) (hn : As.length = k) (hst : st = As.reverse ++ rest) (hcat : (rest.map fun v => v.category).sum ≤ 8) (hf : gRm rm rmc maxL cells slots) {c2 n2 : Nat} (hz : cells + rmc.cells = c2) (hz2 : slots + rmc.slots = n2) (hdg : decode cc pc = .ok (.invokestatic index, 3)) (kk : G d x ws c2 n2 (pc + 3) lv (.int F :: rest)) : G d x ws cells slots pc lv st :=
  g_callSiD E hc hl0 hM hav (wr := ws) rfl hn hst hcat hf hz hz2 hdg kk
theorem g_callSNp (E : gE d x own cc n rm) {host : String} (hc : gCS y cb maxL ret k) (hl0 : Cond.methodLinkNest own index y host ∈ gNest) {F : Int32} (hM : gMi d y cb maxL ret rmc av [] (fun r u => r = F ∧ u = [])) (hav : av = As) (hn : As.length = k) (hst : st = As.reverse ++ rest) (hcat : (rest.map fun v => v.category).sum ≤ 8) (hf : gRm rm rmc maxL cells slots) {c2 n2 : Nat} (hz : cells + rmc.cells = c2) (hz2 : slots + rmc.slots = n2) (hdg : decode cc pc = .ok (.invokestatic index, 3)) (kk : G d x ws c2 n2 (pc + 3) lv (.int F :: rest)) : G d x ws cells slots pc lv st :=
  g_callSNiD E hc hl0 hM hav (wr := ws) rfl hn hst hcat hf hz hz2 hdg kk
def gT : gX → Nat → (Nat → Int32) → Prop := fun (_, _, _, _, s, _, _, _, _, _, A, _, _) t f => va_T .int t 7 (fun j => .int (f j)) A s s.heap
def gTF (d : gD) : gX → Nat → Prop := fun (_, _, _, _, s, _, _, _, _, _, A, _, _) t => ∃ cell : Cell, s.heap[t]? = some cell ∧ cell.vm ≠ .unknown ∧ (∀ k, cell.vm ≠ .statics k) ∧ cell.cls = d.2.1 ∧ cell.slots = (vp_cell d.2.1 (7, .inl tabF)).slots ∧ s.vm.findClass "[I" = some d.2.1 ∧ ¬ A t
theorem g_getsL (E : gE d x own cc n rm) (hlink : Cond.fieldLink own index RX4 "LEAST" "[I" ∈ wsL_law) (hdg : decode cc pc = .ok (.getstatic index, 3)) (kk : ∀ t : Nat, gT x t tabL → G d x ws cells slots (pc + 3) lv (.ref t :: st)) : G d x ws cells slots pc lv st := by
  obtain ⟨p, l, e, R, s, m, args, below, meth, c, A, nL, Q⟩ := x
  obtain ⟨hx, hb, hml, hnL, hown, hts, hK, hZ, hA, hR, hlk⟩ := E
  intro H locs ls hP hD hS hl
  obtain ⟨t, h1, h2⟩ := hZ.2.1
  exact va_gets hx hb h1 hS hown (hts _ hlink) (fun _ h9 => h9) hdg (kk t h2 H locs ls hP hD hS hl)
theorem g_getsM (E : gE d x own cc n rm) (hlink : Cond.fieldLink own index RX4 "MOST" "[I" ∈ wsL_law) (hdg : decode cc pc = .ok (.getstatic index, 3)) (kk : ∀ t : Nat, gT x t tabM → G d x ws cells slots (pc + 3) lv (.ref t :: st)) : G d x ws cells slots pc lv st := by
  obtain ⟨p, l, e, R, s, m, args, below, meth, c, A, nL, Q⟩ := x
  obtain ⟨hx, hb, hml, hnL, hown, hts, hK, hZ, hA, hR, hlk⟩ := E
  intro H locs ls hP hD hS hl
  obtain ⟨t, h1, h2⟩ := hZ.2.2
  exact va_gets hx hb h1 hS hown (hts _ hlink) (fun _ h9 => h9) hdg (kk t h2 H locs ls hP hD hS hl)
theorem g_getsF (E : gE d x own cc n rm) (hlink : Cond.fieldLinkNest own index RX4 "FIRST" "[I" RX4 ∈ gNest) (hdg : decode cc pc = .ok (.getstatic index, 3)) (kk : ∀ t : Nat, gTF d x t → G d x ws cells slots (pc + 3) lv (.ref t :: st)) : G d x ws cells slots pc lv st := by
  obtain ⟨p, l, e, R, s, m, args, below, meth, c, A, nL, Q⟩ := x
  obtain ⟨hx, hb, hml, hnL, hown, hts, hK, hZ, hA, hR, hlk⟩ := E
  intro H locs ls hP hD hS hl
  obtain ⟨t, h1, h2⟩ := hZ.1
  exact va_getsN hx hb h1 hS hown (va_Nw.use rfl (hK.2.2.2 _ hlink)) (fun _ h9 => h9) hdg (kk t h2 H locs ls hP hD hS hl)
theorem g_tald (E : gE d x own cc n rm) {t : Nat} {f : Nat → Int32} (ht : gT x t f) {i : Int32} (j : Nat) (hi : i = nI j) (hj : j < 7) (hdg : decode cc pc = .ok (.iaload, 1)) (kk : G d x ws cells slots (pc + 1) lv (.int (f j) :: st)) : G d x ws cells slots pc lv (.int i :: .ref t :: st) := by
  obtain ⟨p, l, e, R, s, m, args, below, meth, c, A, nL, Q⟩ := x
  obtain ⟨hx, hb, hml, hnL, hown, hts, hK, hZ, hA, hR, hlk⟩ := E
  intro H locs ls hP hD hS hl
  subst hi
  refine va_ti hx hb ht hS (vp_in_nI hj (by omega)) rfl hdg ?_
  rw [nI_clamp (by omega)]
  exact kk H locs ls hP hD hS hl
theorem g_cloneF (E : gE d x own cc n rm) {t : Nat} (ht : gTF d x t) (hlink : Cond.methodLink own index ⟨"[I", "clone", "()Ljava/lang/Object;"⟩ ∈ wsL_law) (h1 : 1 ≤ rm.frames) (h2 : (st.map fun v => v.category).sum + 14 ≤ rm.locals) (h3 : cells + 1 ≤ rm.cells) (h4 : slots + 7 ≤ rm.slots) (hdg : decode cc pc = .ok (.invokevirtual index, 3)) (kk : ∀ q : Nat, (∀ z ∈ ws, z.1 ≠ q) → G d x (ws ++ [(q, .inl (d.2.1, 7, .inl tabF))]) (cells + 1) (slots + 7) (pc + 3) lv (.ref q :: st)) : G d x ws cells slots pc lv (.ref t :: st) := by
  obtain ⟨p, l, e, R, s, m, args, below, meth, c, A, nL, Q⟩ := x
  obtain ⟨hx, hb, hml, hnL, hown, hts, hK, hZ, hA, hR, hlk⟩ := E
  intro H locs ls hP hD hS hl
  subst hR
  obtain ⟨cell, q1, q2, q3, q4, q5, q6, q7⟩ := ht
  have hsz : cell.slots.size = 7 := by rw [q5]; exact arrV_size _ _ _
  obtain ⟨c0, t0', f1, f2, f3⟩ := Cond.castable_spec (va_Nw.use (A := args) rfl hK.2.2.1)
  cases q6.symm.trans f1
  have hcellE : ({ cls := cell.cls, slots := cell.slots } : Cell) = vp_cell d.2.1 (7, .inl tabF) := by rw [q4, q5]; rfl
  intro T hT X
  have hcellT : T.heap[t]? = some cell := by rw [hT, hS.2.1 t (Array.getElem?_eq_some_iff.mp q1).1 q7]; exact q1
  obtain ⟨-, kA, hkA, comp, hkind⟩ := State.isArrayOf_alike X.warmed.alike ((hK.1.2 0 (d.2.1, .int) rfl).1 0 (fun _ => .null))
  obtain ⟨-, kS, hkS, compS, hkindS⟩ := (hK.1.2 0 (d.2.1, .int) rfl).1 0 (fun _ => .null)
  obtain ⟨vm', X', st'⟩ := X.cloneArray hx hown (hts _ hlink) (hts _ ux_same) (hts _ ux_nat) (hts _ ux_inst) (hts _ ux_sel) (a := t) (cell := cell) hcellT q3 q2 (by rw [q4]; exact q6) f2 (by rw [q4]; exact f3)
    (fun i v hv => by
      rw [q4]
      have hk' : T.vm.classes[d.2.1]? = some kA := hkA
      have hfv : fits .int v = true := by
        rw [q5] at hv
        have hi : i < 7 := by
          have := (Array.getElem?_eq_some_iff.mp hv).1
          rw [show (vp_cell d.2.1 (7, .inl tabF)).slots.size = 7 from arrV_size _ _ _] at this
          exact this
        have h8 : (vp_cell d.2.1 (7, .inl tabF)).slots[i]? = some (.int (tabF i)) := arrV_read _ _ hi
        rw [h8] at hv
        cases hv
        rfl
      simpa [State.fitsSlot, State.slotType?, hk', hkind] using hfv)
    (g := F0 m pc ls (.ref t :: st)) rfl (by rw [hml]; exact hl.1.trans hnL) rfl (by rw [hb]; exact hdg) h1 (by show 2 * 0 + _ + 14 ≤ _; omega) h3 (by rw [hsz]; exact h4) (hloader := by rw [q4]; exact Vm.clonesLoader_of_array hkS hkindS)
  rw [hcellE, hsz] at X'
  generalize hH1 : H.push (vp_cell d.2.1 (7, .inl tabF)) = H1
  have e1 : H1[H.size]? = some (vp_cell d.2.1 (7, .inl tabF)) := by rw [← hH1, Array.getElem?_push_size]
  have z1 : H1.size = H.size + 1 := by rw [← hH1, Array.size_push]
  have o1 : ∀ q : Nat, q < H.size → H1[q]? = H[q]? := fun q hq => by rw [← hH1, Array.getElem?_push, if_neg (Nat.ne_of_lt hq)]
  have hk : ∀ (k : Nat) (y : Nat × va_E), ws[k]? = some y → H1[y.1]? = H[y.1]? := fun k y hy => o1 y.1 ((hP k y hy).lt)
  have hD1 : va_D A (ws ++ [(H.size, .inl (d.2.1, 7, .inl tabF))]) := hD.push hP rfl (hA _ hS.1)
  obtain ⟨t1, b1, b2⟩ := kk H.size (fun z hz e => by
    obtain ⟨k, hk⟩ := List.getElem?_of_mem hz
    have := (hP k z hk).lt
    omega) H1 locs ls ((hP.kept hk).app (fun k y hy => by
      have hz : k < 1 := (List.getElem?_eq_some_iff.mp hy).1
      rw [show k = 0 by omega] at hy
      cases hy
      exact e1)) hD1 ⟨Nat.le_trans hS.1 (by omega), fun y h1 h2 => (o1 y (Nat.lt_of_lt_of_le h1 hS.1)).trans (hS.2.1 y h1 h2), hS.2.2⟩ hl
    ((T.setVm vm').pushCell (vp_cell d.2.1 (7, .inl tabF))) (by rw [← hH1, ← hT]; rfl) X'
  refine ⟨t1, st' t1 ?_, b2⟩
  rw [hcellE, hT]
  exact b1
theorem g_castI (E : gE d x own cc n rm) {a : Nat} {z : vp_A} (q0 : Nat) (ha : ws[q0]? = some (a, .inl (d.2.1, z))) {t : Nat} (ht : gTF d x t) (hlink : Cond.classLink own index "[I" ∈ wsL_law) (hdg : decode cc pc = .ok (.checkcast index, 3)) (kk : G d x ws cells slots (pc + 3) lv (.ref a :: st)) : G d x ws cells slots pc lv (.ref a :: st) := by
  obtain ⟨p, l, e, R, s, m, args, below, meth, c, A, nL, Q⟩ := x
  obtain ⟨hx, hb, hml, hnL, hown, hts, hK, hZ, hA, hR, hlk⟩ := E
  intro H locs ls hP hD hS hl
  obtain ⟨cell, q1, q2, q3, q4, q5, q6, q7⟩ := ht
  exact va_castA hx hb hown (hts _ hlink) hP q0 ha q6 hdg (kk H locs ls hP hD hS hl)
theorem g_copyAll (E : gE d x own cc n rm) (q0 q1 : Nat) {a0 a N : Nat} {f g : Nat → Int32} (ha0 : ws[q0]? = some (a0, .inl (d.2.1, N, .inl f))) (ha1 : ws[q1]? = some (a, .inl (d.2.1, N, .inl g))) {i0 i1 i2 : Int32} (h0 : i0 = nI 0) (h1 : i1 = nI 0) (h2 : i2 = nI N) (hN : N < 65536) (hlink : Cond.methodLink own index arraycopyName ∈ wsL_law) (hf1 : 1 ≤ rm.frames) (hf2 : (st.map fun v => v.category).sum + (nativeFrameWords "java/lang/System" "arraycopy" 5 + 11) ≤ rm.locals) {ws' : va_W} (hws : ws.set q1 (a, .inl (d.2.1, N, .inl f)) = ws') (hdg : decode cc pc = .ok (.invokestatic index, 3)) (kk : G d x ws' cells slots (pc + 3) lv st) : G d x ws cells slots pc lv (.int i2 :: .int i1 :: .ref a :: .int i0 :: .ref a0 :: st) := by
  have key : G d x (ws.set q1 (a, .inl (d.2.1, N, .inl (va_cpy f g 0 0 N)))) cells slots (pc + 3) lv st := by
    refine g_cell q1 (f := va_cpy f g 0 0 N) (f' := f) (a := a) (n' := N) (cA := d.2.1) ?_ (fun j hj => pk_cpy_in0 hj) ?_
    · rw [List.getElem?_set_self (List.getElem?_eq_some_iff.mp ha1).1]
    · rw [List.set_set, hws]
      exact kk
  obtain ⟨p, l, e, R, s, m, args, below, meth, c, A, nL, Q⟩ := x
  obtain ⟨hx, hb, hml, hnL, hown, hts, hK, hZ, hA, hR, hlk⟩ := E
  intro H locs ls hP hD hS hl
  subst h0; subst h1; subst h2; subst hR
  have c0 : (nI 0).toNatClampNeg = 0 := nI_clamp (by omega)
  have cN : (nI N).toNatClampNeg = N := nI_clamp (by omega)
  refine va_copyi hx hb (by rw [hml, hl.1, hnL]) hown (hts _ hlink) (hts _ ux_cnat) (hts _ sm_arraycopyName) (hts _ it_java_lang_System) hK.1 hP hD hS q0 q1 0 0 ha0 ha1 rfl rfl rfl (nI_pos (by omega)) (nI_pos (by omega)) (nI_pos (by omega)) (by rw [c0, cN]; omega) (by rw [c0, cN]; omega) (fun i _ => rfl) hf1 hf2 hdg (fun H1 locs1 hP1 hD1 hS1 => ?_)
  rw [c0, cN] at hP1 hD1
  exact key H1 locs1 ls hP1 hD1 hS1 hl
end GC
theorem met_ofWF {l : Launch} {y : MethodName} {ws ws' : List Cond} {rm : Room} {Pc : Array Value → State → Prop} {Qc : Array Value → State → Outcome → State → Prop} {mc ms : Nat} {free : Addr → Prop} {cc : ByteArray} {maxL : Nat} {ret : Option FieldType}
    (hy : plainFor y = true) (hw : ws = Cond.code y cc maxL ret :: ws')
    (body : ∀ p e s m args below meth c s₁, BodyLoose p l y (headSpec ws rm) cc maxL ret e s m args below meth c s₁ → c.maxLocals = maxL → Pc args s →
      W p l e (headSpec ws rm).room s m args below meth c s.heap [] 0 0 (MQ below Qc args s mc ms free) (entryFrame m args maxL)) : Met l y ws rm Pc Qc mc ms free := by
  refine MetFree.of_bodyRF (code := cc) (maxLocals := maxL) (ret := ret) hy ?_ ?_
  · intro args s m h hn
    obtain ⟨meth, c, h1, h2, h3, h4, h5, h6, -, -⟩ := Cond.code_spec hn (atoms_spec (ws := ws) h _ (by rw [hw]; exact List.mem_cons_self))
    exact ⟨meth, c, h1, h2, h3, h4, h5, h6⟩
  · intro p e s m args below meth c s₁ B hml hP _ hst
    have hh0 : s₁.heap = s.heap := by rw [B.state]; rfl
    obtain ⟨t, a1, o, b1, b2, b3⟩ := body p e s m args below meth c s₁ B hml hP s₁ hh0 (Stand.of_body B)
    exact ⟨t, o, hst.trans a1, b1, b2, ⟨b3.1, b3.2⟩⟩
/-- a method is proved by a walk of its body from the entry; RET: what its end wants -/
theorem g_met_i {d : gD} {y : MethodName} {cb : ByteArray} {maxL : Nat} {rt : FieldType} {rm : Room} {av : List Value} {W0 : va_W} {post : Int32 → va_W → Prop} (own : String) (hown : y.cls = own) (hy : plainFor y = true) (hlen : (lg_sl av).length ≤ maxL) (lv0 : List (Nat × Value)) (hlv : lv_args 0 av = lv0)
    (body : ∀ x : gX, gE d x own cb maxL rm → (∀ (pc : Nat) (lv : List (Nat × Value)) (v : Int32) (u : va_W), decode cb pc = .ok (.ireturn, 1) → narrow rt (.int v) = .int v → post v u → G d x u rm.cells rm.slots pc lv [.int v]) → G d x W0 0 0 0 lv0 []) : gMi d y cb maxL (some rt) rm av W0 post := by
  intro l sz
  refine met_ofWF (cc := cb) (maxL := maxL) (ret := some rt) hy rfl ?_
  intro p e s m args below meth c s₁ B hml hv
  obtain ⟨rfl, hsz, hP, hK, hD0, hZ⟩ := hv
  have hx := B.exec
  have hb := B.bytes
  have hr := B.returns
  have hts := atoms_spec (ws := uw y cb maxL (some rt)) B.pre
  have hfc := findClass_of_methodNamed B.named
  rw [hown] at hfc
  have hlocks := B.notSynchronized
  subst hsz
  have hD := hD0.self (sz := s.heap.size)
  have hl := lv_entry av hlen
  rw [hlv] at hl
  rw [lg_entry_eq]
  refine body (p, l, e, rm, s, m, av.toArray, below, meth, c, va_A W0 s.heap.size, maxL, MQ below (gQi d W0 post s.heap.size) av.toArray s rm.cells rm.slots (va_A W0 s.heap.size)) ⟨hx, hb, hml, rfl, hfc, fun w hw => hts w (List.mem_cons_of_mem _ hw), hK, hZ, fun q h => Or.inr h, rfl, hlocks⟩ ?_ s.heap [] _ hP hD va_S.rf hl
  intro pc lv v u hdg hn hp H locs ls hP hD hS hl
  exact W.zret hx hb hr hn (fun t ht hW => ⟨⟨v, u, rfl, hp, by rw [ht]; exact hP, hD⟩, hS.F ht⟩) hS.2.2 hdg
theorem g_met_v {d : gD} {y : MethodName} {cb : ByteArray} {maxL : Nat} {rm : Room} {av : List Value} {W0 : va_W} {post : va_W → Prop} (own : String) (hown : y.cls = own) (hy : plainFor y = true) (hlen : (lg_sl av).length ≤ maxL) (lv0 : List (Nat × Value)) (hlv : lv_args 0 av = lv0)
    (body : ∀ x : gX, gE d x own cb maxL rm → (y.name = "<init>" → gInit x) → (∀ (pc : Nat) (lv : List (Nat × Value)) (u : va_W), decode cb pc = .ok (.return_, 1) → post u → G d x u rm.cells rm.slots pc lv []) → G d x W0 0 0 0 lv0 []) : gMv d y cb maxL rm av W0 post := by
  intro l sz
  refine met_ofWF (cc := cb) (maxL := maxL) (ret := none) hy rfl ?_
  intro p e s m args below meth c s₁ B hml hv
  obtain ⟨rfl, hsz, hP, hK, hD0, hZ⟩ := hv
  have hx := B.exec
  have hb := B.bytes
  have hr := B.returns
  have hts := atoms_spec (ws := uw y cb maxL none) B.pre
  have hfc := findClass_of_methodNamed B.named
  rw [hown] at hfc
  have hlocks := B.notSynchronized
  have hin := (name_of_methodNamed B.named B.method).1
  subst hsz
  have hD := hD0.self (sz := s.heap.size)
  have hl := lv_entry av hlen
  rw [hlv] at hl
  rw [lg_entry_eq]
  refine body (p, l, e, rm, s, m, av.toArray, below, meth, c, va_A W0 s.heap.size, maxL, MQ below (gQv d W0 post s.heap.size) av.toArray s rm.cells rm.slots (va_A W0 s.heap.size)) ⟨hx, hb, hml, rfl, hfc, fun w hw => hts w (List.mem_cons_of_mem _ hw), hK, hZ, fun q h => Or.inr h, rfl, hlocks⟩ (fun h => hin.trans h) ?_ s.heap [] _ hP hD va_S.rf hl
  intro pc lv u hdg hp H locs ls hP hD hS hl
  exact W.vret hx hb hr (fun t ht hW => ⟨⟨u, rfl, hp, by rw [ht]; exact hP, hD⟩, hS.F ht⟩) hS.2.2 hdg
end
section
/-! the states of the class's parts and of the reference, and their cells -/
theorem ok_le {a b : Nat} (h : Nat.ble a b = true) : a ≤ b := Nat.le_of_ble_eq_true h
theorem ok_lt {a b : Nat} (h : Nat.ble (a + 1) b = true) : a < b := Nat.le_of_ble_eq_true h
def iabs (a : Int32) : Int32 := if 0 ≤ a then a else 0 - a
def imax (a b : Int32) : Int32 := if a < b then b else a
def imin (a b : Int32) : Int32 := if b < a then b else a
/-- Directions: the scalars (unlike, latest, run), byRank, samplesIn, longest -/
abbrev DD : Type := (Nat → Int32) × (Nat → Int32) × (Nat → Int32) × (Nat → Int32)
/-- Stick: the scalars, the settings, the directions -/
abbrev SS : Type := (Nat → Int32) × (Nat → Int32) × DD
/-- Pad: the scalars (length, place, kind, first, second, times), the text -/
abbrev PP : Type := (Nat → Int32) × (Nat → Int32)
/-- the reference beside its row s: past, known, slots, isSaved, pad, length -/
abbrev MR : Type := (Nat → Int32) × Int32 × (Nat → Int32) × (Nat → Int32) × (Nat → Int32) × Int32
def DK (d : gD) (a : Nat → Nat) (D : DD) : va_W := [(a 2, .inr (0, [.ref (a 3), .ref (a 4), .ref (a 5), .int (D.1 0), .int (D.1 1), .int (D.1 2)])), (a 3, .inl (d.2.1, 9, .inl D.2.1)), (a 4, .inl (d.2.1, 9, .inl D.2.2.1)), (a 5, .inl (d.2.1, 9, .inl D.2.2.2))]
def SO (d : gD) (a : Nat → Nat) (g st : Nat → Int32) : va_W := [(a 0, .inr (3, [.ref (a 1), .ref (a 2), .int (g 7), .int (g 8), .int (g 9), .int (g 14), .int (g 15), .int (g 10), .int (g 11), .int (g 12), .int (g 13), .int (g 21), .int (g 16), .int (g 17), .int (g 18), .int (g 19), .int (g 20)])), (a 1, .inl (d.2.1, 7, .inl st))]
def SK (d : gD) (a : Nat → Nat) (S : SS) : va_W := DK d a S.2.2 ++ SO d a S.1 S.2.1
theorem SK_mk (d : gD) (a : Nat → Nat) (g st : Nat → Int32) (D : DD) : DK d a D ++ SO d a g st = SK d a (g, st, D) := rfl
theorem SK_mk2 (d : gD) (a : Nat → Nat) (g st : Nat → Int32) (D : DD) (b : Nat → Nat) (g2 st2 : Nat → Int32) (D2 : DD) : (DK d a D ++ SO d a g st) ++ (DK d b D2 ++ SO d b g2 st2) = SK d a (g, st, D) ++ SK d b (g2, st2, D2) := rfl
def PK (d : gD) (a : Nat → Nat) (h t : Nat → Int32) : va_W := [(a 0, .inr (2, [.ref (a 1), .int (h 0), .int (h 1), .int (h 2), .int (h 3), .int (h 4), .int (h 5)])), (a 1, .inl (d.2.2.1, 80, .inl t))]
/-- a row of characters -/
def chT (t : Nat → Int32) : Prop := ∀ j, narrow .char (.int (t j)) = .int (t j) ∧ fits .char (.int (t j)) = true
def MW (d : gD) (a : Nat → Nat) (s : Nat → Int32) (Z : MR) : va_W := [(a 0, .inr (5, [.ref (a 1), .ref (a 2), .int Z.2.1, .ref (a 3), .ref (a 4), .ref (a 5), .int Z.2.2.2.2.2])), (a 1, .inl (d.2.1, 122, .inl s)), (a 2, .inl (d.2.1, 366, .inl Z.1)), (a 3, .inl (d.2.1, 122, .inl Z.2.2.1)), (a 4, .inl (d.2.2.2.1, 2, .inl Z.2.2.2.1)), (a 5, .inl (d.2.1, 80, .inl Z.2.2.2.2.1))]
/-- a row of 61 ints at the place p of a longer one -/
def pr (p : Nat) (r f : Nat → Int32) : Nat → Int32 := fun j => if p ≤ j ∧ j < p + 61 then r (j - p) else f j
theorem pr_get {p k : Nat} {r f : Nat → Int32} (hk : k < 61) : pr p r f (p + k) = r k := by
  unfold pr
  rw [if_pos (by omega), Nat.add_sub_cancel_left]
theorem pr_put {p k : Nat} {r f : Nat → Int32} {v : Int32} (hk : k < 61) : upd (pr p r f) (p + k) v = pr p (upd r k v) f := by
  funext j
  unfold upd pr
  by_cases h : j = p + k
  · subst h
    rw [if_pos rfl, if_pos (by omega), Nat.add_sub_cancel_left]
    exact (if_pos rfl).symm
  · rw [if_neg h]
    by_cases h2 : p ≤ j ∧ j < p + 61
    · rw [if_pos h2, if_pos h2]
      exact (if_neg (by omega)).symm
    · rw [if_neg h2, if_neg h2]
theorem pr_self (p : Nat) (f : Nat → Int32) : pr p (fun k => f (p + k)) f = f := by
  funext j
  unfold pr
  by_cases h : p ≤ j ∧ j < p + 61
  · rw [if_pos h]
    show f (p + (j - p)) = f j
    rw [Nat.add_sub_cancel' h.1]
  · rw [if_neg h]
theorem ix_eq {e : Int32} (h : ¬ e < 0) : e = nI e.toNatClampNeg := by
  obtain ⟨j, hj, rfl⟩ := nI_of h
  rw [nI_clamp hj]
theorem ix_lt {e : Int32} {N : Nat} (h0 : ¬ e < 0) (h : e < nI N) (hN : N < 2 ^ 31 := by decide) : e.toNatClampNeg < N := by
  obtain ⟨j, hj, rfl⟩ := nI_of h0
  rw [nI_clamp hj]
  exact (nI_ltI hj hN).mp h
theorem perm4 {α : Type} (a b c e : List α) : List.Perm ((a ++ b) ++ (c ++ e)) ((a ++ c) ++ (b ++ e)) := by
  rw [List.append_assoc, List.append_assoc]
  exact List.Perm.append_left a (List.perm_append_comm_assoc b c e)
theorem nar_b {r : Int32} (h : r = 0 ∨ r = 1) : narrow .boolean (.int r) = .int r := by
  rcases h with rfl | rfl <;> rfl
theorem ti_bmod {n : Int} (h1 : -2147483648 ≤ n) (h2 : n < 2147483648) : n.bmod (2 ^ 32) = n := Int.bmod_eq_of_le (by omega) (by omega)
theorem ti_add {a b : Int32} (h1 : -2147483648 ≤ a.toInt + b.toInt) (h2 : a.toInt + b.toInt < 2147483648) : (a + b).toInt = a.toInt + b.toInt := by
  rw [Int32.toInt_add, ti_bmod h1 h2]
theorem ti_sub {a b : Int32} (h1 : -2147483648 ≤ a.toInt - b.toInt) (h2 : a.toInt - b.toInt < 2147483648) : (a - b).toInt = a.toInt - b.toInt := by
  rw [Int32.toInt_sub, ti_bmod h1 h2]
theorem ti_mul {a b : Int32} (h1 : -2147483648 ≤ a.toInt * b.toInt) (h2 : a.toInt * b.toInt < 2147483648) : (a * b).toInt = a.toInt * b.toInt := by
  rw [Int32.toInt_mul, ti_bmod h1 h2]
theorem ti_rng (a : Int32) : -2147483648 ≤ a.toInt ∧ a.toInt < 2147483648 := ⟨Int32.le_toInt a, Int32.toInt_lt a⟩
theorem ti_lt {a b : Int32} : a < b ↔ a.toInt < b.toInt := Int32.lt_iff_toInt_lt
theorem ti_le {a b : Int32} : a ≤ b ↔ a.toInt ≤ b.toInt := Int32.le_iff_toInt_le
theorem ti_eq {a b : Int32} : a = b ↔ a.toInt = b.toInt := Int32.toInt_inj.symm
section GM
variable {d : gD} {x : gX} {own : String} {cc : ByteArray} {n : Nat} {rm : Room} {ws : va_W} {cells slots pc : Nat} {lv : List (Nat × Value)} {st : List Value}
theorem g_mget (E : gE d x own cc n rm) {p : Nat} {r f : Nat → Int32} {a N : Nat} {cA : ClassId} (q0 : Nat) (ha : ws[q0]? = some (a, .inl (cA, N, .inl (pr p r f)))) (ht : (gTys d)[0]? = some (cA, .int)) {i : Int32} (k : Nat) (hi : i = nI (p + k)) (hk : k < 61) (hp : p + k < N ∧ N < 2 ^ 31) (hdg : decode cc pc = .ok (.iaload, 1)) (kk : G d x ws cells slots (pc + 1) lv (.int (r k) :: st)) : G d x ws cells slots pc lv (.int i :: .ref a :: st) := by
  refine g_iald E q0 ha ht (p + k) hi hp.1 hp.2 hdg ?_
  rw [pr_get hk]
  exact kk
theorem g_mput (E : gE d x own cc n rm) {p : Nat} {r f : Nat → Int32} {a N : Nat} {cA : ClassId} (q0 : Nat) (ha : ws[q0]? = some (a, .inl (cA, N, .inl (pr p r f)))) (ht : (gTys d)[0]? = some (cA, .int)) {i v : Int32} (k : Nat) (hi : i = nI (p + k)) (hk : k < 61) (hp : p + k < N ∧ N < 2 ^ 31) {ws' : va_W} (hws : ws.set q0 (a, .inl (cA, N, .inl (pr p (upd r k v) f))) = ws') (hdg : decode cc pc = .ok (.iastore, 1)) (kk : G d x ws' cells slots (pc + 1) lv st) : G d x ws cells slots pc lv (.int v :: .int i :: .ref a :: st) := by
  refine g_iast E q0 ha ht (p + k) hi hp.1 hp.2 (by rw [pr_put hk]; exact hws) hdg kk
end GM
theorem gc_X4_init : gCI yX4_init cX4_init 1 0 := ⟨⟨co_X4_init, it_RX4, by decide +kernel, by decide +kernel⟩, by decide +kernel, im_X4_init⟩
theorem gc_X3_init : gCI yX3_init cX3_init 1 0 := ⟨⟨co_X3_init, it_RX3, by decide +kernel, by decide +kernel⟩, by decide +kernel, im_X3_init⟩
theorem gc_X0_init : gCI yX0_init cX0_init 1 0 := ⟨⟨co_X0_init, it_RX0, by decide +kernel, by decide +kernel⟩, by decide +kernel, im_X0_init⟩
theorem gc_X2_init : gCI yX2_init cX2_init 1 0 := ⟨⟨co_X2_init, it_RX2, by decide +kernel, by decide +kernel⟩, by decide +kernel, im_X2_init⟩
theorem gc_X1_init : gCI yX1_init cX1_init 1 0 := ⟨⟨co_X1_init, it_RX1, by decide +kernel, by decide +kernel⟩, by decide +kernel, im_X1_init⟩
theorem gc_X5_init : gCI yX5_init cX5_init 1 0 := ⟨⟨co_X5_init, it_RX5, by decide +kernel, by decide +kernel⟩, by decide +kernel, im_X5_init⟩
theorem gc_X4_set : gCV RX4 yX4_set cX4_set 3 (some .int) 2 := ⟨⟨co_X4_set, it_RX4, by decide +kernel, by decide +kernel⟩, im_X4_set, se_X4_set⟩
theorem gc_X1_keep : gCV RX1 yX1_keep cX1_keep 4 none 1 := ⟨⟨co_X1_keep, it_RX1, by decide +kernel, by decide +kernel⟩, im_X1_keep, se_X1_keep⟩
theorem gc_X1_placeOf : gCV RX1 yX1_placeOf cX1_placeOf 2 (some .int) 1 := ⟨⟨co_X1_placeOf, it_RX1, by decide +kernel, by decide +kernel⟩, im_X1_placeOf, se_X1_placeOf⟩
theorem gc_J9_floorMod_7cf53 : gCS yJ9_floorMod_7cf53 cJ9_floorMod_7cf53 3 (some .int) 2 := ⟨⟨co_J9_floorMod_7cf53, it_RJ9, by decide +kernel, by decide +kernel⟩, sm_J9_floorMod_7cf53⟩
theorem gc_X3_becomeLike : gCV RX3 yX3_becomeLike cX3_becomeLike 2 none 1 := ⟨⟨co_X3_becomeLike, it_RX3, by decide +kernel, by decide +kernel⟩, im_X3_becomeLike, se_X3_becomeLike⟩
theorem gc_X0_becomeLike : gCV RX0 yX0_becomeLike cX0_becomeLike 2 none 1 := ⟨⟨co_X0_becomeLike, it_RX0, by decide +kernel, by decide +kernel⟩, im_X0_becomeLike, se_X0_becomeLike⟩
theorem gc_X3_changeSetting : gCV RX3 yX3_changeSetting cX3_changeSetting 4 (some .int) 2 := ⟨⟨co_X3_changeSetting, it_RX3, by decide +kernel, by decide +kernel⟩, im_X3_changeSetting, se_X3_changeSetting⟩
theorem gc_X5_set : gCV RX5 yX5_set cX5_set 4 (some .int) 2 := ⟨⟨co_X5_set, it_RX5, by decide +kernel, by decide +kernel⟩, im_X5_set, se_X5_set⟩
theorem gc_X5_in : gCS yX5_in cX5_in 3 (some .boolean) 3 := ⟨⟨co_X5_in, it_RX5, by decide +kernel, by decide +kernel⟩, sm_X5_in⟩
theorem gc_X5_lowOf : gCS yX5_lowOf cX5_lowOf 1 (some .int) 1 := ⟨⟨co_X5_lowOf, it_RX5, by decide +kernel, by decide +kernel⟩, sm_X5_lowOf⟩
theorem gc_X5_highOf : gCS yX5_highOf cX5_highOf 1 (some .int) 1 := ⟨⟨co_X5_highOf, it_RX5, by decide +kernel, by decide +kernel⟩, sm_X5_highOf⟩
theorem gc_X5_remembers : gCV RX5 yX5_remembers cX5_remembers 2 none 0 := ⟨⟨co_X5_remembers, it_RX5, by decide +kernel, by decide +kernel⟩, im_X5_remembers, se_X5_remembers⟩
theorem gc_X4_sample : gCV RX4 yX4_sample cX4_sample 3 (some .int) 2 := ⟨⟨co_X4_sample, it_RX4, by decide +kernel, by decide +kernel⟩, im_X4_sample, se_X4_sample⟩
theorem gc_X4_takeAlike : gCV RX4 yX4_takeAlike cX4_takeAlike 6 (some .int) 3 := ⟨⟨co_X4_takeAlike, it_RX4, by decide +kernel, by decide +kernel⟩, im_X4_takeAlike, se_X4_takeAlike⟩
theorem gc_X3_refusalOfSamples : gCV RX3 yX3_refusalOfSamples cX3_refusalOfSamples 4 (some .int) 3 := ⟨⟨co_X3_refusalOfSamples, it_RX3, by decide +kernel, by decide +kernel⟩, im_X3_refusalOfSamples, se_X3_refusalOfSamples⟩
theorem gc_X4_isSample : gCS yX4_isSample cX4_isSample 2 (some .boolean) 2 := ⟨⟨co_X4_isSample, it_RX4, by decide +kernel, by decide +kernel⟩, sm_X4_isSample⟩
theorem gc_X3_take : gCV RX3 yX3_take cX3_take 6 none 2 := ⟨⟨co_X3_take, it_RX3, by decide +kernel, by decide +kernel⟩, im_X3_take, se_X3_take⟩
theorem gc_X3_tellingAt : gCV RX3 yX3_tellingAt cX3_tellingAt 7 (some .int) 2 := ⟨⟨co_X3_tellingAt, it_RX3, by decide +kernel, by decide +kernel⟩, im_X3_tellingAt, se_X3_tellingAt⟩
theorem gc_X3_farthestOff : gCV RX3 yX3_farthestOff cX3_farthestOff 3 (some .int) 2 := ⟨⟨co_X3_farthestOff, it_RX3, by decide +kernel, by decide +kernel⟩, im_X3_farthestOff, se_X3_farthestOff⟩
theorem gc_X3_wouldDrift : gCV RX3 yX3_wouldDrift cX3_wouldDrift 4 (some .boolean) 2 := ⟨⟨co_X3_wouldDrift, it_RX3, by decide +kernel, by decide +kernel⟩, im_X3_wouldDrift, se_X3_wouldDrift⟩
theorem gc_X3_stillWith : gCV RX3 yX3_stillWith cX3_stillWith 4 (some .int) 2 := ⟨⟨co_X3_stillWith, it_RX3, by decide +kernel, by decide +kernel⟩, im_X3_stillWith, se_X3_stillWith⟩
theorem gc_X4_packed : gCS yX4_packed cX4_packed 2 (some .int) 2 := ⟨⟨co_X4_packed, it_RX4, by decide +kernel, by decide +kernel⟩, sm_X4_packed⟩
theorem gc_X3_restPlaceX : gCV RX3 yX3_restPlaceX cX3_restPlaceX 1 (some .int) 0 := ⟨⟨co_X3_restPlaceX, it_RX3, by decide +kernel, by decide +kernel⟩, im_X3_restPlaceX, se_X3_restPlaceX⟩
theorem gc_X3_leanOf : gCV RX3 yX3_leanOf cX3_leanOf 4 (some .int) 1 := ⟨⟨co_X3_leanOf, it_RX3, by decide +kernel, by decide +kernel⟩, im_X3_leanOf, se_X3_leanOf⟩
theorem gc_X4_quotient : gCS yX4_quotient cX4_quotient 2 (some .int) 2 := ⟨⟨co_X4_quotient, it_RX4, by decide +kernel, by decide +kernel⟩, sm_X4_quotient⟩
theorem gc_X3_restPlaceY : gCV RX3 yX3_restPlaceY cX3_restPlaceY 1 (some .int) 0 := ⟨⟨co_X3_restPlaceY, it_RX3, by decide +kernel, by decide +kernel⟩, im_X3_restPlaceY, se_X3_restPlaceY⟩
theorem gc_X3_comeToRest : gCV RX3 yX3_comeToRest cX3_comeToRest 3 none 2 := ⟨⟨co_X3_comeToRest, it_RX3, by decide +kernel, by decide +kernel⟩, im_X3_comeToRest, se_X3_comeToRest⟩
theorem gc_X3_tellsSomething : gCV RX3 yX3_tellsSomething cX3_tellsSomething 1 (some .boolean) 0 := ⟨⟨co_X3_tellsSomething, it_RX3, by decide +kernel, by decide +kernel⟩, im_X3_tellsSomething, se_X3_tellsSomething⟩
theorem gc_X3_fitZone : gCV RX3 yX3_fitZone cX3_fitZone 2 none 1 := ⟨⟨co_X3_fitZone, it_RX3, by decide +kernel, by decide +kernel⟩, im_X3_fitZone, se_X3_fitZone⟩
theorem gc_X3_driftTo : gCV RX3 yX3_driftTo cX3_driftTo 3 none 2 := ⟨⟨co_X3_driftTo, it_RX3, by decide +kernel, by decide +kernel⟩, im_X3_driftTo, se_X3_driftTo⟩
theorem gc_X3_tell : gCV RX3 yX3_tell cX3_tell 2 none 1 := ⟨⟨co_X3_tell, it_RX3, by decide +kernel, by decide +kernel⟩, im_X3_tell, se_X3_tell⟩
theorem gc_J6_compare_7cf53 : gCS yJ6_compare_7cf53 cJ6_compare_7cf53 2 (some .int) 2 := ⟨⟨co_J6_compare_7cf53, it_RJ6, by decide +kernel, by decide +kernel⟩, sm_J6_compare_7cf53⟩
theorem gc_X0_note : gCV RX0 yX0_note cX0_note 4 none 2 := ⟨⟨co_X0_note, it_RX0, by decide +kernel, by decide +kernel⟩, im_X0_note, se_X0_note⟩
theorem gc_X3_telling : gCV RX3 yX3_telling cX3_telling 1 (some .int) 0 := ⟨⟨co_X3_telling, it_RX3, by decide +kernel, by decide +kernel⟩, im_X3_telling, se_X3_telling⟩
theorem gc_X5_sample : gCV RX5 yX5_sample cX5_sample 4 (some .int) 2 := ⟨⟨co_X5_sample, it_RX5, by decide +kernel, by decide +kernel⟩, im_X5_sample, se_X5_sample⟩
theorem gc_X5_whyNot : gCV RX5 yX5_whyNot cX5_whyNot 4 (some .int) 3 := ⟨⟨co_X5_whyNot, it_RX5, by decide +kernel, by decide +kernel⟩, im_X5_whyNot, se_X5_whyNot⟩
theorem gc_X5_areRight : gCS yX5_areRight cX5_areRight 2 (some .boolean) 2 := ⟨⟨co_X5_areRight, it_RX5, by decide +kernel, by decide +kernel⟩, sm_X5_areRight⟩
theorem gc_X5_samples : gCV RX5 yX5_samples cX5_samples 5 none 3 := ⟨⟨co_X5_samples, it_RX5, by decide +kernel, by decide +kernel⟩, im_X5_samples, se_X5_samples⟩
theorem gc_X5_size : gCS yX5_size cX5_size 1 (some .int) 1 := ⟨⟨co_X5_size, it_RX5, by decide +kernel, by decide +kernel⟩, sm_X5_size⟩
theorem gc_X5_far : gCV RX5 yX5_far cX5_far 4 (some .int) 3 := ⟨⟨co_X5_far, it_RX5, by decide +kernel, by decide +kernel⟩, im_X5_far, se_X5_far⟩
theorem gc_X5_off : gCV RX5 yX5_off cX5_off 4 (some .int) 3 := ⟨⟨co_X5_off, it_RX5, by decide +kernel, by decide +kernel⟩, im_X5_off, se_X5_off⟩
theorem gc_X5_greater : gCS yX5_greater cX5_greater 2 (some .int) 2 := ⟨⟨co_X5_greater, it_RX5, by decide +kernel, by decide +kernel⟩, sm_X5_greater⟩
theorem gc_X5_rests : gCV RX5 yX5_rests cX5_rests 6 none 3 := ⟨⟨co_X5_rests, it_RX5, by decide +kernel, by decide +kernel⟩, im_X5_rests, se_X5_rests⟩
theorem gc_X5_isTelling : gCV RX5 yX5_isTelling cX5_isTelling 2 (some .boolean) 1 := ⟨⟨co_X5_isTelling, it_RX5, by decide +kernel, by decide +kernel⟩, im_X5_isTelling, se_X5_isTelling⟩
theorem gc_X5_learns : gCV RX5 yX5_learns cX5_learns 4 none 3 := ⟨⟨co_X5_learns, it_RX5, by decide +kernel, by decide +kernel⟩, im_X5_learns, se_X5_learns⟩
theorem gc_X5_tells : gCV RX5 yX5_tells cX5_tells 9 none 3 := ⟨⟨co_X5_tells, it_RX5, by decide +kernel, by decide +kernel⟩, im_X5_tells, se_X5_tells⟩
theorem gc_X5_axis : gCV RX5 yX5_axis cX5_axis 5 (some .int) 2 := ⟨⟨co_X5_axis, it_RX5, by decide +kernel, by decide +kernel⟩, im_X5_axis, se_X5_axis⟩
theorem gc_X5_counts : gCV RX5 yX5_counts cX5_counts 6 none 1 := ⟨⟨co_X5_counts, it_RX5, by decide +kernel, by decide +kernel⟩, im_X5_counts, se_X5_counts⟩
theorem gc_X5_sign : gCS yX5_sign cX5_sign 1 (some .int) 1 := ⟨⟨co_X5_sign, it_RX5, by decide +kernel, by decide +kernel⟩, sm_X5_sign⟩
theorem gc_X5_told : gCV RX5 yX5_told cX5_told 2 (some .int) 1 := ⟨⟨co_X5_told, it_RX5, by decide +kernel, by decide +kernel⟩, im_X5_told, se_X5_told⟩
theorem gc_X4_hold : gCV RX4 yX4_hold cX4_hold 4 (some .int) 3 := ⟨⟨co_X4_hold, it_RX4, by decide +kernel, by decide +kernel⟩, im_X4_hold, se_X4_hold⟩
theorem gc_X5_hold : gCV RX5 yX5_hold cX5_hold 6 (some .int) 3 := ⟨⟨co_X5_hold, it_RX5, by decide +kernel, by decide +kernel⟩, im_X5_hold, se_X5_hold⟩
theorem gc_X4_press : gCV RX4 yX4_press cX4_press 3 (some .int) 1 := ⟨⟨co_X4_press, it_RX4, by decide +kernel, by decide +kernel⟩, im_X4_press, se_X4_press⟩
theorem gc_X3_refusalOfPress : gCV RX3 yX3_refusalOfPress cX3_refusalOfPress 2 (some .int) 1 := ⟨⟨co_X3_refusalOfPress, it_RX3, by decide +kernel, by decide +kernel⟩, im_X3_refusalOfPress, se_X3_refusalOfPress⟩
theorem gc_X3_isButton : gCS yX3_isButton cX3_isButton 1 (some .boolean) 1 := ⟨⟨co_X3_isButton, it_RX3, by decide +kernel, by decide +kernel⟩, sm_X3_isButton⟩
theorem gc_X3_isDown : gCV RX3 yX3_isDown cX3_isDown 2 (some .boolean) 1 := ⟨⟨co_X3_isDown, it_RX3, by decide +kernel, by decide +kernel⟩, im_X3_isDown, se_X3_isDown⟩
theorem gc_X3_pushDown : gCV RX3 yX3_pushDown cX3_pushDown 2 (some .int) 1 := ⟨⟨co_X3_pushDown, it_RX3, by decide +kernel, by decide +kernel⟩, im_X3_pushDown, se_X3_pushDown⟩
theorem gc_X5_press : gCV RX5 yX5_press cX5_press 3 (some .int) 1 := ⟨⟨co_X5_press, it_RX5, by decide +kernel, by decide +kernel⟩, im_X5_press, se_X5_press⟩
theorem gc_X5_whyNotPress : gCV RX5 yX5_whyNotPress cX5_whyNotPress 3 (some .int) 2 := ⟨⟨co_X5_whyNotPress, it_RX5, by decide +kernel, by decide +kernel⟩, im_X5_whyNotPress, se_X5_whyNotPress⟩
theorem gc_X5_isDown : gCV RX5 yX5_isDown cX5_isDown 2 (some .boolean) 1 := ⟨⟨co_X5_isDown, it_RX5, by decide +kernel, by decide +kernel⟩, im_X5_isDown, se_X5_isDown⟩
theorem gc_X5_presses : gCV RX5 yX5_presses cX5_presses 2 (some .int) 1 := ⟨⟨co_X5_presses, it_RX5, by decide +kernel, by decide +kernel⟩, im_X5_presses, se_X5_presses⟩
theorem gc_X4_letUp : gCV RX4 yX4_letUp cX4_letUp 3 (some .int) 1 := ⟨⟨co_X4_letUp, it_RX4, by decide +kernel, by decide +kernel⟩, im_X4_letUp, se_X4_letUp⟩
theorem gc_X3_refusalOfLetUp : gCV RX3 yX3_refusalOfLetUp cX3_refusalOfLetUp 2 (some .int) 1 := ⟨⟨co_X3_refusalOfLetUp, it_RX3, by decide +kernel, by decide +kernel⟩, im_X3_refusalOfLetUp, se_X3_refusalOfLetUp⟩
theorem gc_X3_release : gCV RX3 yX3_release cX3_release 2 (some .int) 1 := ⟨⟨co_X3_release, it_RX3, by decide +kernel, by decide +kernel⟩, im_X3_release, se_X3_release⟩
theorem gc_X5_letUp : gCV RX5 yX5_letUp cX5_letUp 3 (some .int) 1 := ⟨⟨co_X5_letUp, it_RX5, by decide +kernel, by decide +kernel⟩, im_X5_letUp, se_X5_letUp⟩
theorem gc_X5_letsUp : gCV RX5 yX5_letsUp cX5_letsUp 2 (some .int) 1 := ⟨⟨co_X5_letsUp, it_RX5, by decide +kernel, by decide +kernel⟩, im_X5_letsUp, se_X5_letsUp⟩
theorem gc_X4_reset : gCV RX4 yX4_reset cX4_reset 1 (some .int) 0 := ⟨⟨co_X4_reset, it_RX4, by decide +kernel, by decide +kernel⟩, im_X4_reset, se_X4_reset⟩
theorem gc_X3_toMiddle : gCV RX3 yX3_toMiddle cX3_toMiddle 2 (some .int) 0 := ⟨⟨co_X3_toMiddle, it_RX3, by decide +kernel, by decide +kernel⟩, im_X3_toMiddle, se_X3_toMiddle⟩
theorem gc_X5_reset : gCV RX5 yX5_reset cX5_reset 2 (some .int) 0 := ⟨⟨co_X5_reset, it_RX5, by decide +kernel, by decide +kernel⟩, im_X5_reset, se_X5_reset⟩
theorem gc_X4_of : gCV RX4 yX4_of cX4_of 3 (some .int) 2 := ⟨⟨co_X4_of, it_RX4, by decide +kernel, by decide +kernel⟩, im_X4_of, se_X4_of⟩
theorem gc_X3_aboutX : gCV RX3 yX3_aboutX cX3_aboutX 2 (some .int) 1 := ⟨⟨co_X3_aboutX, it_RX3, by decide +kernel, by decide +kernel⟩, im_X3_aboutX, se_X3_aboutX⟩
theorem gc_X3_about : gCV RX3 yX3_about cX3_about 5 (some .int) 4 := ⟨⟨co_X3_about, it_RX3, by decide +kernel, by decide +kernel⟩, im_X3_about, se_X3_about⟩
theorem gc_X3_aboutY : gCV RX3 yX3_aboutY cX3_aboutY 2 (some .int) 1 := ⟨⟨co_X3_aboutY, it_RX3, by decide +kernel, by decide +kernel⟩, im_X3_aboutY, se_X3_aboutY⟩
theorem gc_X5_of : gCV RX5 yX5_of cX5_of 4 (some .int) 2 := ⟨⟨co_X5_of, it_RX5, by decide +kernel, by decide +kernel⟩, im_X5_of, se_X5_of⟩
theorem gc_X4_direction : gCV RX4 yX4_direction cX4_direction 3 (some .int) 2 := ⟨⟨co_X4_direction, it_RX4, by decide +kernel, by decide +kernel⟩, im_X4_direction, se_X4_direction⟩
theorem gc_X0_about : gCV RX0 yX0_about cX0_about 4 (some .int) 2 := ⟨⟨co_X0_about, it_RX0, by decide +kernel, by decide +kernel⟩, im_X0_about, se_X0_about⟩
theorem gc_X5_direction : gCV RX5 yX5_direction cX5_direction 3 (some .int) 2 := ⟨⟨co_X5_direction, it_RX5, by decide +kernel, by decide +kernel⟩, im_X5_direction, se_X5_direction⟩
theorem gc_X4_count : gCV RX4 yX4_count cX4_count 2 (some .int) 1 := ⟨⟨co_X4_count, it_RX4, by decide +kernel, by decide +kernel⟩, im_X4_count, se_X4_count⟩
theorem gc_X3_number : gCV RX3 yX3_number cX3_number 2 (some .int) 1 := ⟨⟨co_X3_number, it_RX3, by decide +kernel, by decide +kernel⟩, im_X3_number, se_X3_number⟩
theorem gc_X5_count : gCV RX5 yX5_count cX5_count 2 (some .int) 1 := ⟨⟨co_X5_count, it_RX5, by decide +kernel, by decide +kernel⟩, im_X5_count, se_X5_count⟩
theorem gc_X4_wouldTell : gCV RX4 yX4_wouldTell cX4_wouldTell 3 (some .int) 2 := ⟨⟨co_X4_wouldTell, it_RX4, by decide +kernel, by decide +kernel⟩, im_X4_wouldTell, se_X4_wouldTell⟩
theorem gc_X5_wouldTell : gCV RX5 yX5_wouldTell cX5_wouldTell 3 (some .int) 2 := ⟨⟨co_X5_wouldTell, it_RX5, by decide +kernel, by decide +kernel⟩, im_X5_wouldTell, se_X5_wouldTell⟩
theorem gc_X5_copies : gCV RX5 yX5_copies cX5_copies 2 none 0 := ⟨⟨co_X5_copies, it_RX5, by decide +kernel, by decide +kernel⟩, im_X5_copies, se_X5_copies⟩
theorem gc_X4_learnedIn : gCV RX4 yX4_learnedIn cX4_learnedIn 4 (some .int) 2 := ⟨⟨co_X4_learnedIn, it_RX4, by decide +kernel, by decide +kernel⟩, im_X4_learnedIn, se_X4_learnedIn⟩
theorem gc_X3_isOffByNothing : gCV RX3 yX3_isOffByNothing cX3_isOffByNothing 3 (some .boolean) 2 := ⟨⟨co_X3_isOffByNothing, it_RX3, by decide +kernel, by decide +kernel⟩, im_X3_isOffByNothing, se_X3_isOffByNothing⟩
theorem gc_X5_learnedIn : gCV RX5 yX5_learnedIn cX5_learnedIn 4 (some .int) 2 := ⟨⟨co_X5_learnedIn, it_RX5, by decide +kernel, by decide +kernel⟩, im_X5_learnedIn, se_X5_learnedIn⟩
theorem gc_X4_edge : gCV RX4 yX4_edge cX4_edge 7 (some .int) 2 := ⟨⟨co_X4_edge, it_RX4, by decide +kernel, by decide +kernel⟩, im_X4_edge, se_X4_edge⟩
theorem gc_X5_edge : gCV RX5 yX5_edge cX5_edge 9 (some .int) 2 := ⟨⟨co_X5_edge, it_RX5, by decide +kernel, by decide +kernel⟩, im_X5_edge, se_X5_edge⟩
theorem gc_X4_driftsIn : gCV RX4 yX4_driftsIn cX4_driftsIn 4 (some .int) 2 := ⟨⟨co_X4_driftsIn, it_RX4, by decide +kernel, by decide +kernel⟩, im_X4_driftsIn, se_X4_driftsIn⟩
theorem gc_X5_driftsIn : gCV RX5 yX5_driftsIn cX5_driftsIn 4 (some .int) 2 := ⟨⟨co_X5_driftsIn, it_RX5, by decide +kernel, by decide +kernel⟩, im_X5_driftsIn, se_X5_driftsIn⟩
theorem gc_X4_put : gCV RX4 yX4_put cX4_put 3 (some .int) 1 := ⟨⟨co_X4_put, it_RX4, by decide +kernel, by decide +kernel⟩, im_X4_put, se_X4_put⟩
theorem gc_X2_append : gCV RX2 yX2_append cX2_append 5 (some .int) 1 := ⟨⟨co_X2_append, it_RX2, by decide +kernel, by decide +kernel⟩, im_X2_append, se_X2_append⟩
theorem gc_X2_charactersIn : gCS yX2_charactersIn cX2_charactersIn 7 (some .int) 1 := ⟨⟨co_X2_charactersIn, it_RX2, by decide +kernel, by decide +kernel⟩, sm_X2_charactersIn⟩
theorem gc_X5_put : gCV RX5 yX5_put cX5_put 8 (some .int) 1 := ⟨⟨co_X5_put, it_RX5, by decide +kernel, by decide +kernel⟩, im_X5_put, se_X5_put⟩
theorem gc_X4_wipe : gCV RX4 yX4_wipe cX4_wipe 1 (some .int) 0 := ⟨⟨co_X4_wipe, it_RX4, by decide +kernel, by decide +kernel⟩, im_X4_wipe, se_X4_wipe⟩
theorem gc_X2_empty : gCV RX2 yX2_empty cX2_empty 2 (some .int) 0 := ⟨⟨co_X2_empty, it_RX2, by decide +kernel, by decide +kernel⟩, im_X2_empty, se_X2_empty⟩
theorem gc_X5_wipe : gCV RX5 yX5_wipe cX5_wipe 2 (some .int) 0 := ⟨⟨co_X5_wipe, it_RX5, by decide +kernel, by decide +kernel⟩, im_X5_wipe, se_X5_wipe⟩
theorem gc_X4_fault : gCV RX4 yX4_fault cX4_fault 1 (some .int) 0 := ⟨⟨co_X4_fault, it_RX4, by decide +kernel, by decide +kernel⟩, im_X4_fault, se_X4_fault⟩
theorem gc_X2_firstFault : gCV RX2 yX2_firstFault cX2_firstFault 2 (some .int) 0 := ⟨⟨co_X2_firstFault, it_RX2, by decide +kernel, by decide +kernel⟩, im_X2_firstFault, se_X2_firstFault⟩
theorem gc_X2_goToStart : gCV RX2 yX2_goToStart cX2_goToStart 1 none 0 := ⟨⟨co_X2_goToStart, it_RX2, by decide +kernel, by decide +kernel⟩, im_X2_goToStart, se_X2_goToStart⟩
theorem gc_X2_readOrder : gCV RX2 yX2_readOrder cX2_readOrder 1 (some .boolean) 0 := ⟨⟨co_X2_readOrder, it_RX2, by decide +kernel, by decide +kernel⟩, im_X2_readOrder, se_X2_readOrder⟩
theorem gc_X2_next : gCV RX2 yX2_next cX2_next 1 (some .char) 0 := ⟨⟨co_X2_next, it_RX2, by decide +kernel, by decide +kernel⟩, im_X2_next, se_X2_next⟩
theorem gc_X2_readSamples : gCV RX2 yX2_readSamples cX2_readSamples 1 (some .boolean) 0 := ⟨⟨co_X2_readSamples, it_RX2, by decide +kernel, by decide +kernel⟩, im_X2_readSamples, se_X2_readSamples⟩
theorem gc_X2_readNumber : gCV RX2 yX2_readNumber cX2_readNumber 4 (some .int) 0 := ⟨⟨co_X2_readNumber, it_RX2, by decide +kernel, by decide +kernel⟩, im_X2_readNumber, se_X2_readNumber⟩
theorem gc_X2_readDigit : gCV RX2 yX2_readDigit cX2_readDigit 2 (some .int) 0 := ⟨⟨co_X2_readDigit, it_RX2, by decide +kernel, by decide +kernel⟩, im_X2_readDigit, se_X2_readDigit⟩
theorem gc_X2_skip : gCV RX2 yX2_skip cX2_skip 2 (some .boolean) 1 := ⟨⟨co_X2_skip, it_RX2, by decide +kernel, by decide +kernel⟩, im_X2_skip, se_X2_skip⟩
theorem gc_X5_fault : gCV RX5 yX5_fault cX5_fault 4 (some .int) 0 := ⟨⟨co_X5_fault, it_RX5, by decide +kernel, by decide +kernel⟩, im_X5_fault, se_X5_fault⟩
theorem gc_X5_orderEnd : gCV RX5 yX5_orderEnd cX5_orderEnd 3 (some .int) 1 := ⟨⟨co_X5_orderEnd, it_RX5, by decide +kernel, by decide +kernel⟩, im_X5_orderEnd, se_X5_orderEnd⟩
theorem gc_X5_signAt : gCV RX5 yX5_signAt cX5_signAt 2 (some .int) 1 := ⟨⟨co_X5_signAt, it_RX5, by decide +kernel, by decide +kernel⟩, im_X5_signAt, se_X5_signAt⟩
theorem gc_X5_numberEnd : gCV RX5 yX5_numberEnd cX5_numberEnd 3 (some .int) 1 := ⟨⟨co_X5_numberEnd, it_RX5, by decide +kernel, by decide +kernel⟩, im_X5_numberEnd, se_X5_numberEnd⟩
theorem gc_X5_digit : gCV RX5 yX5_digit cX5_digit 2 (some .int) 1 := ⟨⟨co_X5_digit, it_RX5, by decide +kernel, by decide +kernel⟩, im_X5_digit, se_X5_digit⟩
theorem gc_X5_behind : gCV RX5 yX5_behind cX5_behind 3 (some .int) 2 := ⟨⟨co_X5_behind, it_RX5, by decide +kernel, by decide +kernel⟩, im_X5_behind, se_X5_behind⟩
theorem gc_X4_carryOut : gCV RX4 yX4_carryOut cX4_carryOut 2 (some .int) 0 := ⟨⟨co_X4_carryOut, it_RX4, by decide +kernel, by decide +kernel⟩, im_X4_carryOut, se_X4_carryOut⟩
theorem gc_X4_carryOutOrders : gCV RX4 yX4_carryOutOrders cX4_carryOutOrders 4 (some .int) 0 := ⟨⟨co_X4_carryOutOrders, it_RX4, by decide +kernel, by decide +kernel⟩, im_X4_carryOutOrders, se_X4_carryOutOrders⟩
theorem gc_X4_takeFromPad : gCV RX4 yX4_takeFromPad cX4_takeFromPad 2 (some .int) 0 := ⟨⟨co_X4_takeFromPad, it_RX4, by decide +kernel, by decide +kernel⟩, im_X4_takeFromPad, se_X4_takeFromPad⟩
theorem gc_X4_moveButtonFromPad : gCV RX4 yX4_moveButtonFromPad cX4_moveButtonFromPad 4 (some .int) 0 := ⟨⟨co_X4_moveButtonFromPad, it_RX4, by decide +kernel, by decide +kernel⟩, im_X4_moveButtonFromPad, se_X4_moveButtonFromPad⟩
theorem gc_X5_carryOut : gCV RX5 yX5_carryOut cX5_carryOut 5 (some .int) 0 := ⟨⟨co_X5_carryOut, it_RX5, by decide +kernel, by decide +kernel⟩, im_X5_carryOut, se_X5_carryOut⟩
theorem gc_X5_ordersAt : gCV RX5 yX5_ordersAt cX5_ordersAt 3 (some .int) 1 := ⟨⟨co_X5_ordersAt, it_RX5, by decide +kernel, by decide +kernel⟩, im_X5_ordersAt, se_X5_ordersAt⟩
theorem gc_X5_numberAt : gCV RX5 yX5_numberAt cX5_numberAt 4 (some .int) 1 := ⟨⟨co_X5_numberAt, it_RX5, by decide +kernel, by decide +kernel⟩, im_X5_numberAt, se_X5_numberAt⟩
theorem gc_X5_carries : gCV RX5 yX5_carries cX5_carries 7 (some .int) 1 := ⟨⟨co_X5_carries, it_RX5, by decide +kernel, by decide +kernel⟩, im_X5_carries, se_X5_carries⟩
theorem gc_X4_undo : gCV RX4 yX4_undo cX4_undo 1 (some .int) 0 := ⟨⟨co_X4_undo, it_RX4, by decide +kernel, by decide +kernel⟩, im_X4_undo, se_X4_undo⟩
theorem gc_X1_takeBack : gCV RX1 yX1_takeBack cX1_takeBack 4 (some .int) 1 := ⟨⟨co_X1_takeBack, it_RX1, by decide +kernel, by decide +kernel⟩, im_X1_takeBack, se_X1_takeBack⟩
theorem gc_X5_undo : gCV RX5 yX5_undo cX5_undo 2 (some .int) 0 := ⟨⟨co_X5_undo, it_RX5, by decide +kernel, by decide +kernel⟩, im_X5_undo, se_X5_undo⟩
theorem gc_X4_save : gCV RX4 yX4_save cX4_save 3 (some .int) 1 := ⟨⟨co_X4_save, it_RX4, by decide +kernel, by decide +kernel⟩, im_X4_save, se_X4_save⟩
theorem gc_X5_save : gCV RX5 yX5_save cX5_save 3 (some .int) 1 := ⟨⟨co_X5_save, it_RX5, by decide +kernel, by decide +kernel⟩, im_X5_save, se_X5_save⟩
theorem gc_X4_restore : gCV RX4 yX4_restore cX4_restore 3 (some .int) 1 := ⟨⟨co_X4_restore, it_RX4, by decide +kernel, by decide +kernel⟩, im_X4_restore, se_X4_restore⟩
theorem gc_X5_restore : gCV RX5 yX5_restore cX5_restore 3 (some .int) 1 := ⟨⟨co_X5_restore, it_RX5, by decide +kernel, by decide +kernel⟩, im_X5_restore, se_X5_restore⟩
end
section
abbrev R_J6_compare_7cf53 : Room := { frames := 0, cells := 0, slots := 0, locals := 0 }
def r_J6_compare_7cf53 (x : Int32) (y : Int32) : Int32 := if x < y then (-1) else (if x = y then 0 else 1)
set_option maxHeartbeats 400000 in
set_option maxRecDepth 100000 in
theorem s_J6_compare_7cf53_0 (d : gD) (x : Int32) (y : Int32)   {X : gX} (E : gE d X RJ6 cJ6_compare_7cf53 2 R_J6_compare_7cf53) (RET : ∀ (pc_ : Nat) (lv_ : List (Nat × Value)) (v_ : Int32) (u_ : va_W), decode cJ6_compare_7cf53 pc_ = .ok (.ireturn, 1) → narrow .int (.int v_) = .int v_ → v_ = r_J6_compare_7cf53 x y → u_ = [] → G d X u_ R_J6_compare_7cf53.cells R_J6_compare_7cf53.slots pc_ lv_ [.int v_]) : G d X ([]) 0 0 0 [(0, .int x), (1, .int y)] [] := by
  refine g_iload_n E 0 dJ6_compare_7cf53_0 rfl rfl ?_
  refine g_iload_n E 1 dJ6_compare_7cf53_1 rfl rfl ?_
  refine g_icmpge E 9 dJ6_compare_7cf53_2 (by decide) (fun c_2 => ?_) (fun c_2 => ?_)
  · skip
    refine g_iload_n E 0 dJ6_compare_7cf53_9 rfl rfl ?_
    refine g_iload_n E 1 dJ6_compare_7cf53_10 rfl rfl ?_
    refine g_icmpne E 18 dJ6_compare_7cf53_11 (by decide) (fun c_11 => ?_) (fun c_11 => ?_)
    · skip
      refine g_iconst E 1 dJ6_compare_7cf53_18 (by decide) ?_
      exact RET 19 _ 1 _ dJ6_compare_7cf53_19 rfl (by rw [r_J6_compare_7cf53, if_neg c_2, if_neg c_11]) rfl
    · skip
      refine g_iconst E 0 dJ6_compare_7cf53_14 (by decide) ?_
      refine g_goto E 19 dJ6_compare_7cf53_15 (by decide) ?_
      exact RET 19 _ 0 _ dJ6_compare_7cf53_19 rfl (by rw [r_J6_compare_7cf53, if_neg c_2, if_pos c_11]) rfl
  · skip
    refine g_iconst E (-1) dJ6_compare_7cf53_5 (by decide) ?_
    refine g_goto E 19 dJ6_compare_7cf53_6 (by decide) ?_
    exact RET 19 _ (-1) _ dJ6_compare_7cf53_19 rfl (by rw [r_J6_compare_7cf53, if_pos c_2]) rfl
set_option maxHeartbeats 400000 in
set_option maxRecDepth 100000 in
theorem t_J6_compare_7cf53 (d : gD) (x : Int32) (y : Int32)  : gMi d yJ6_compare_7cf53 cJ6_compare_7cf53 2 (some .int) R_J6_compare_7cf53 [.int x, .int y] ([]) (fun r_ u_ => r_ = r_J6_compare_7cf53 x y ∧ u_ = []) :=
  g_met_i RJ6 rfl (by decide +kernel) (Nat.le_of_ble_eq_true rfl) [(0, .int x), (1, .int y)] rfl (fun X E RET => s_J6_compare_7cf53_0 d x y  E (fun pc_ lv_ v_ u_ h1_ h2_ h3_ h4_ => RET pc_ lv_ v_ u_ h1_ h2_ ⟨h3_, h4_⟩))
abbrev R_J9_floorMod_7cf53 : Room := { frames := 0, cells := 0, slots := 0, locals := 0 }
def r_J9_floorMod_7cf53 (x : Int32) (y : Int32) : Int32 := if (x ^^^ y) < 0 then (if (x - x / y * y) = 0 then (x - x / y * y) else ((x - x / y * y) + y)) else (x - x / y * y)
set_option maxHeartbeats 400000 in
set_option maxRecDepth 100000 in
theorem s_J9_floorMod_7cf53_0 (d : gD) (x : Int32) (y : Int32) (hy : ¬ y = 0)  {X : gX} (E : gE d X RJ9 cJ9_floorMod_7cf53 3 R_J9_floorMod_7cf53) (RET : ∀ (pc_ : Nat) (lv_ : List (Nat × Value)) (v_ : Int32) (u_ : va_W), decode cJ9_floorMod_7cf53 pc_ = .ok (.ireturn, 1) → narrow .int (.int v_) = .int v_ → v_ = r_J9_floorMod_7cf53 x y → u_ = [] → G d X u_ R_J9_floorMod_7cf53.cells R_J9_floorMod_7cf53.slots pc_ lv_ [.int v_]) : G d X ([]) 0 0 0 [(0, .int x), (1, .int y)] [] := by
  refine g_iload_n E 0 dJ9_floorMod_7cf53_0 rfl rfl ?_
  refine g_iload_n E 1 dJ9_floorMod_7cf53_1 rfl rfl ?_
  refine g_irem E dJ9_floorMod_7cf53_2 hy ?_
  refine g_istore_n E (lv' := [(2, .int (x - x / y * y)), (0, .int x), (1, .int y)]) dJ9_floorMod_7cf53_3 rfl (by decide) rfl ?_
  refine g_iload_n E 1 dJ9_floorMod_7cf53_4 rfl rfl ?_
  refine g_iload_n E 2 dJ9_floorMod_7cf53_5 rfl rfl ?_
  refine g_ixor E dJ9_floorMod_7cf53_6 ?_
  refine g_ifge E 18 dJ9_floorMod_7cf53_7 (by decide) (fun c_7 => ?_) (fun c_7 => ?_)
  · skip
    refine g_iload_n E 0 dJ9_floorMod_7cf53_18 rfl rfl ?_
    exact RET 19 _ (x - x / y * y) _ dJ9_floorMod_7cf53_19 rfl (by rw [r_J9_floorMod_7cf53, if_neg c_7]) rfl
  · skip
    refine g_iload_n E 0 dJ9_floorMod_7cf53_10 rfl rfl ?_
    refine g_ifeq E 18 dJ9_floorMod_7cf53_11 (by decide) (fun c_11 => ?_) (fun c_11 => ?_)
    · skip
      refine g_iload_n E 0 dJ9_floorMod_7cf53_18 rfl rfl ?_
      exact RET 19 _ (x - x / y * y) _ dJ9_floorMod_7cf53_19 rfl (by rw [r_J9_floorMod_7cf53, if_pos c_7, if_pos c_11]) rfl
    · skip
      refine g_iload_n E 0 dJ9_floorMod_7cf53_14 rfl rfl ?_
      refine g_iload_n E 2 dJ9_floorMod_7cf53_15 rfl rfl ?_
      refine g_iadd E dJ9_floorMod_7cf53_16 ?_
      exact RET 17 _ ((x - x / y * y) + y) _ dJ9_floorMod_7cf53_17 rfl (by rw [r_J9_floorMod_7cf53, if_pos c_7, if_neg c_11]) rfl
set_option maxHeartbeats 400000 in
set_option maxRecDepth 100000 in
theorem t_J9_floorMod_7cf53 (d : gD) (x : Int32) (y : Int32) (hy : ¬ y = 0) : gMi d yJ9_floorMod_7cf53 cJ9_floorMod_7cf53 3 (some .int) R_J9_floorMod_7cf53 [.int x, .int y] ([]) (fun r_ u_ => r_ = r_J9_floorMod_7cf53 x y ∧ u_ = []) :=
  g_met_i RJ9 rfl (by decide +kernel) (Nat.le_of_ble_eq_true rfl) [(0, .int x), (1, .int y)] rfl (fun X E RET => s_J9_floorMod_7cf53_0 d x y hy E (fun pc_ lv_ v_ u_ h1_ h2_ h3_ h4_ => RET pc_ lv_ v_ u_ h1_ h2_ ⟨h3_, h4_⟩))
abbrev R_X4_isSample : Room := { frames := 0, cells := 0, slots := 0, locals := 0 }
def r_X4_isSample (x : Int32) (y : Int32) : Int32 := if x < 0 then 0 else (if 255 < x then 0 else (if y < 0 then 0 else (if 255 < y then 0 else 1)))
set_option maxHeartbeats 400000 in
set_option maxRecDepth 100000 in
theorem s_X4_isSample_0 (d : gD) (x : Int32) (y : Int32)   {X : gX} (E : gE d X RX4 cX4_isSample 2 R_X4_isSample) (RET : ∀ (pc_ : Nat) (lv_ : List (Nat × Value)) (v_ : Int32) (u_ : va_W), decode cX4_isSample pc_ = .ok (.ireturn, 1) → narrow .boolean (.int v_) = .int v_ → v_ = r_X4_isSample x y → u_ = [] → G d X u_ R_X4_isSample.cells R_X4_isSample.slots pc_ lv_ [.int v_]) : G d X ([]) 0 0 0 [(0, .int x), (1, .int y)] [] := by
  refine g_iload_n E 0 dX4_isSample_0 rfl rfl ?_
  refine g_iflt E 26 dX4_isSample_1 (by decide) (fun c_1 => ?_) (fun c_1 => ?_)
  · skip
    refine g_iconst E 0 dX4_isSample_26 (by decide) ?_
    exact RET 27 _ 0 _ dX4_isSample_27 rfl (by rw [r_X4_isSample, if_pos c_1]) rfl
  · skip
    refine g_iload_n E 0 dX4_isSample_4 rfl rfl ?_
    refine g_sipush E 255 dX4_isSample_5 (by decide) ?_
    refine g_icmpgt E 26 dX4_isSample_8 (by decide) (fun c_8 => ?_) (fun c_8 => ?_)
    · skip
      refine g_iconst E 0 dX4_isSample_26 (by decide) ?_
      exact RET 27 _ 0 _ dX4_isSample_27 rfl (by rw [r_X4_isSample, if_neg c_1, if_pos c_8]) rfl
    · skip
      refine g_iload_n E 1 dX4_isSample_11 rfl rfl ?_
      refine g_iflt E 26 dX4_isSample_12 (by decide) (fun c_12 => ?_) (fun c_12 => ?_)
      · skip
        refine g_iconst E 0 dX4_isSample_26 (by decide) ?_
        exact RET 27 _ 0 _ dX4_isSample_27 rfl (by rw [r_X4_isSample, if_neg c_1, if_neg c_8, if_pos c_12]) rfl
      · skip
        refine g_iload_n E 1 dX4_isSample_15 rfl rfl ?_
        refine g_sipush E 255 dX4_isSample_16 (by decide) ?_
        refine g_icmpgt E 26 dX4_isSample_19 (by decide) (fun c_19 => ?_) (fun c_19 => ?_)
        · skip
          refine g_iconst E 0 dX4_isSample_26 (by decide) ?_
          exact RET 27 _ 0 _ dX4_isSample_27 rfl (by rw [r_X4_isSample, if_neg c_1, if_neg c_8, if_neg c_12, if_pos c_19]) rfl
        · skip
          refine g_iconst E 1 dX4_isSample_22 (by decide) ?_
          refine g_goto E 27 dX4_isSample_23 (by decide) ?_
          exact RET 27 _ 1 _ dX4_isSample_27 rfl (by rw [r_X4_isSample, if_neg c_1, if_neg c_8, if_neg c_12, if_neg c_19]) rfl
set_option maxHeartbeats 400000 in
set_option maxRecDepth 100000 in
theorem t_X4_isSample (d : gD) (x : Int32) (y : Int32)  : gMi d yX4_isSample cX4_isSample 2 (some .boolean) R_X4_isSample [.int x, .int y] ([]) (fun r_ u_ => r_ = r_X4_isSample x y ∧ u_ = []) :=
  g_met_i RX4 rfl (by decide +kernel) (Nat.le_of_ble_eq_true rfl) [(0, .int x), (1, .int y)] rfl (fun X E RET => s_X4_isSample_0 d x y  E (fun pc_ lv_ v_ u_ h1_ h2_ h3_ h4_ => RET pc_ lv_ v_ u_ h1_ h2_ ⟨h3_, h4_⟩))
abbrev R_X4_packed : Room := { frames := 0, cells := 0, slots := 0, locals := 0 }
def r_X4_packed (x : Int32) (y : Int32) : Int32 := (((1000 * (x + 100)) + y) + 100)
set_option maxHeartbeats 400000 in
set_option maxRecDepth 100000 in
theorem s_X4_packed_0 (d : gD) (x : Int32) (y : Int32)   {X : gX} (E : gE d X RX4 cX4_packed 2 R_X4_packed) (RET : ∀ (pc_ : Nat) (lv_ : List (Nat × Value)) (v_ : Int32) (u_ : va_W), decode cX4_packed pc_ = .ok (.ireturn, 1) → narrow .int (.int v_) = .int v_ → v_ = r_X4_packed x y → u_ = [] → G d X u_ R_X4_packed.cells R_X4_packed.slots pc_ lv_ [.int v_]) : G d X ([]) 0 0 0 [(0, .int x), (1, .int y)] [] := by
  refine g_sipush E 1000 dX4_packed_0 (by decide) ?_
  refine g_iload_n E 0 dX4_packed_3 rfl rfl ?_
  refine g_bipush E 100 dX4_packed_4 (by decide) ?_
  refine g_iadd E dX4_packed_6 ?_
  refine g_imul E dX4_packed_7 ?_
  refine g_iload_n E 1 dX4_packed_8 rfl rfl ?_
  refine g_iadd E dX4_packed_9 ?_
  refine g_bipush E 100 dX4_packed_10 (by decide) ?_
  refine g_iadd E dX4_packed_12 ?_
  exact RET 13 _ (((1000 * (x + 100)) + y) + 100) _ dX4_packed_13 rfl (by rw [r_X4_packed]) rfl
set_option maxHeartbeats 400000 in
set_option maxRecDepth 100000 in
theorem t_X4_packed (d : gD) (x : Int32) (y : Int32)  : gMi d yX4_packed cX4_packed 2 (some .int) R_X4_packed [.int x, .int y] ([]) (fun r_ u_ => r_ = r_X4_packed x y ∧ u_ = []) :=
  g_met_i RX4 rfl (by decide +kernel) (Nat.le_of_ble_eq_true rfl) [(0, .int x), (1, .int y)] rfl (fun X E RET => s_X4_packed_0 d x y  E (fun pc_ lv_ v_ u_ h1_ h2_ h3_ h4_ => RET pc_ lv_ v_ u_ h1_ h2_ ⟨h3_, h4_⟩))
abbrev R_X4_quotient : Room := { frames := 0, cells := 0, slots := 0, locals := 0 }
def r_X4_quotient (x : Int32) (y : Int32) : Int32 := if y = 0 then 0 else (x / y)
set_option maxHeartbeats 400000 in
set_option maxRecDepth 100000 in
theorem s_X4_quotient_0 (d : gD) (x : Int32) (y : Int32)   {X : gX} (E : gE d X RX4 cX4_quotient 2 R_X4_quotient) (RET : ∀ (pc_ : Nat) (lv_ : List (Nat × Value)) (v_ : Int32) (u_ : va_W), decode cX4_quotient pc_ = .ok (.ireturn, 1) → narrow .int (.int v_) = .int v_ → v_ = r_X4_quotient x y → u_ = [] → G d X u_ R_X4_quotient.cells R_X4_quotient.slots pc_ lv_ [.int v_]) : G d X ([]) 0 0 0 [(0, .int x), (1, .int y)] [] := by
  refine g_iload_n E 1 dX4_quotient_0 rfl rfl ?_
  refine g_ifne E 8 dX4_quotient_1 (by decide) (fun c_1 => ?_) (fun c_1 => ?_)
  · skip
    refine g_iload_n E 0 dX4_quotient_8 rfl rfl ?_
    refine g_iload_n E 1 dX4_quotient_9 rfl rfl ?_
    refine g_idiv E dX4_quotient_10 c_1 ?_
    exact RET 11 _ (x / y) _ dX4_quotient_11 rfl (by rw [r_X4_quotient, if_neg c_1]) rfl
  · skip
    refine g_iconst E 0 dX4_quotient_4 (by decide) ?_
    refine g_goto E 11 dX4_quotient_5 (by decide) ?_
    exact RET 11 _ 0 _ dX4_quotient_11 rfl (by rw [r_X4_quotient, if_pos c_1]) rfl
set_option maxHeartbeats 400000 in
set_option maxRecDepth 100000 in
theorem t_X4_quotient (d : gD) (x : Int32) (y : Int32)  : gMi d yX4_quotient cX4_quotient 2 (some .int) R_X4_quotient [.int x, .int y] ([]) (fun r_ u_ => r_ = r_X4_quotient x y ∧ u_ = []) :=
  g_met_i RX4 rfl (by decide +kernel) (Nat.le_of_ble_eq_true rfl) [(0, .int x), (1, .int y)] rfl (fun X E RET => s_X4_quotient_0 d x y  E (fun pc_ lv_ v_ u_ h1_ h2_ h3_ h4_ => RET pc_ lv_ v_ u_ h1_ h2_ ⟨h3_, h4_⟩))
abbrev R_X5_in : Room := { frames := 0, cells := 0, slots := 0, locals := 0 }
def r_X5_in (v : Int32) (lo : Int32) (hi : Int32) : Int32 := if v < lo then 0 else (if hi < v then 0 else 1)
set_option maxHeartbeats 400000 in
set_option maxRecDepth 100000 in
theorem s_X5_in_0 (d : gD) (v : Int32) (lo : Int32) (hi : Int32)   {X : gX} (E : gE d X RX5 cX5_in 3 R_X5_in) (RET : ∀ (pc_ : Nat) (lv_ : List (Nat × Value)) (v_ : Int32) (u_ : va_W), decode cX5_in pc_ = .ok (.ireturn, 1) → narrow .boolean (.int v_) = .int v_ → v_ = r_X5_in v lo hi → u_ = [] → G d X u_ R_X5_in.cells R_X5_in.slots pc_ lv_ [.int v_]) : G d X ([]) 0 0 0 [(0, .int v), (1, .int lo), (2, .int hi)] [] := by
  refine g_iload_n E 0 dX5_in_0 rfl rfl ?_
  refine g_iload_n E 1 dX5_in_1 rfl rfl ?_
  refine g_icmplt E 14 dX5_in_2 (by decide) (fun c_2 => ?_) (fun c_2 => ?_)
  · skip
    refine g_iconst E 0 dX5_in_14 (by decide) ?_
    exact RET 15 _ 0 _ dX5_in_15 rfl (by rw [r_X5_in, if_pos c_2]) rfl
  · skip
    refine g_iload_n E 0 dX5_in_5 rfl rfl ?_
    refine g_iload_n E 2 dX5_in_6 rfl rfl ?_
    refine g_icmpgt E 14 dX5_in_7 (by decide) (fun c_7 => ?_) (fun c_7 => ?_)
    · skip
      refine g_iconst E 0 dX5_in_14 (by decide) ?_
      exact RET 15 _ 0 _ dX5_in_15 rfl (by rw [r_X5_in, if_neg c_2, if_pos c_7]) rfl
    · skip
      refine g_iconst E 1 dX5_in_10 (by decide) ?_
      refine g_goto E 15 dX5_in_11 (by decide) ?_
      exact RET 15 _ 1 _ dX5_in_15 rfl (by rw [r_X5_in, if_neg c_2, if_neg c_7]) rfl
set_option maxHeartbeats 400000 in
set_option maxRecDepth 100000 in
theorem t_X5_in (d : gD) (v : Int32) (lo : Int32) (hi : Int32)  : gMi d yX5_in cX5_in 3 (some .boolean) R_X5_in [.int v, .int lo, .int hi] ([]) (fun r_ u_ => r_ = r_X5_in v lo hi ∧ u_ = []) :=
  g_met_i RX5 rfl (by decide +kernel) (Nat.le_of_ble_eq_true rfl) [(0, .int v), (1, .int lo), (2, .int hi)] rfl (fun X E RET => s_X5_in_0 d v lo hi  E (fun pc_ lv_ v_ u_ h1_ h2_ h3_ h4_ => RET pc_ lv_ v_ u_ h1_ h2_ ⟨h3_, h4_⟩))
abbrev R_X5_size : Room := { frames := 0, cells := 0, slots := 0, locals := 0 }
def r_X5_size (v : Int32) : Int32 := if v < 0 then (-v) else v
set_option maxHeartbeats 400000 in
set_option maxRecDepth 100000 in
theorem s_X5_size_0 (d : gD) (v : Int32)   {X : gX} (E : gE d X RX5 cX5_size 1 R_X5_size) (RET : ∀ (pc_ : Nat) (lv_ : List (Nat × Value)) (v_ : Int32) (u_ : va_W), decode cX5_size pc_ = .ok (.ireturn, 1) → narrow .int (.int v_) = .int v_ → v_ = r_X5_size v → u_ = [] → G d X u_ R_X5_size.cells R_X5_size.slots pc_ lv_ [.int v_]) : G d X ([]) 0 0 0 [(0, .int v)] [] := by
  refine g_iload_n E 0 dX5_size_0 rfl rfl ?_
  refine g_ifge E 9 dX5_size_1 (by decide) (fun c_1 => ?_) (fun c_1 => ?_)
  · skip
    refine g_iload_n E 0 dX5_size_9 rfl rfl ?_
    exact RET 10 _ v _ dX5_size_10 rfl (by rw [r_X5_size, if_neg c_1]) rfl
  · skip
    refine g_iload_n E 0 dX5_size_4 rfl rfl ?_
    refine g_ineg E dX5_size_5 ?_
    refine g_goto E 10 dX5_size_6 (by decide) ?_
    exact RET 10 _ (-v) _ dX5_size_10 rfl (by rw [r_X5_size, if_pos c_1]) rfl
set_option maxHeartbeats 400000 in
set_option maxRecDepth 100000 in
theorem t_X5_size (d : gD) (v : Int32)  : gMi d yX5_size cX5_size 1 (some .int) R_X5_size [.int v] ([]) (fun r_ u_ => r_ = r_X5_size v ∧ u_ = []) :=
  g_met_i RX5 rfl (by decide +kernel) (Nat.le_of_ble_eq_true rfl) [(0, .int v)] rfl (fun X E RET => s_X5_size_0 d v  E (fun pc_ lv_ v_ u_ h1_ h2_ h3_ h4_ => RET pc_ lv_ v_ u_ h1_ h2_ ⟨h3_, h4_⟩))
abbrev R_X5_greater : Room := { frames := 0, cells := 0, slots := 0, locals := 0 }
def r_X5_greater (x : Int32) (y : Int32) : Int32 := if y < x then x else y
set_option maxHeartbeats 400000 in
set_option maxRecDepth 100000 in
theorem s_X5_greater_0 (d : gD) (x : Int32) (y : Int32)   {X : gX} (E : gE d X RX5 cX5_greater 2 R_X5_greater) (RET : ∀ (pc_ : Nat) (lv_ : List (Nat × Value)) (v_ : Int32) (u_ : va_W), decode cX5_greater pc_ = .ok (.ireturn, 1) → narrow .int (.int v_) = .int v_ → v_ = r_X5_greater x y → u_ = [] → G d X u_ R_X5_greater.cells R_X5_greater.slots pc_ lv_ [.int v_]) : G d X ([]) 0 0 0 [(0, .int x), (1, .int y)] [] := by
  refine g_iload_n E 0 dX5_greater_0 rfl rfl ?_
  refine g_iload_n E 1 dX5_greater_1 rfl rfl ?_
  refine g_icmple E 9 dX5_greater_2 (by decide) (fun c_2 => ?_) (fun c_2 => ?_)
  · skip
    refine g_iload_n E 1 dX5_greater_9 rfl rfl ?_
    exact RET 10 _ y _ dX5_greater_10 rfl (by rw [r_X5_greater, if_neg c_2]) rfl
  · skip
    refine g_iload_n E 0 dX5_greater_5 rfl rfl ?_
    refine g_goto E 10 dX5_greater_6 (by decide) ?_
    exact RET 10 _ x _ dX5_greater_10 rfl (by rw [r_X5_greater, if_pos c_2]) rfl
set_option maxHeartbeats 400000 in
set_option maxRecDepth 100000 in
theorem t_X5_greater (d : gD) (x : Int32) (y : Int32)  : gMi d yX5_greater cX5_greater 2 (some .int) R_X5_greater [.int x, .int y] ([]) (fun r_ u_ => r_ = r_X5_greater x y ∧ u_ = []) :=
  g_met_i RX5 rfl (by decide +kernel) (Nat.le_of_ble_eq_true rfl) [(0, .int x), (1, .int y)] rfl (fun X E RET => s_X5_greater_0 d x y  E (fun pc_ lv_ v_ u_ h1_ h2_ h3_ h4_ => RET pc_ lv_ v_ u_ h1_ h2_ ⟨h3_, h4_⟩))
abbrev R_X5_areRight : Room := { frames := 1, cells := 0, slots := 0, locals := 22 }
def r_X5_areRight (x : Int32) (y : Int32) : Int32 := if (r_X5_in x 0 255) = 0 then 0 else (if (r_X5_in y 0 255) = 0 then 0 else 1)
set_option maxHeartbeats 400000 in
set_option maxRecDepth 100000 in
theorem s_X5_areRight_0 (d : gD) (x : Int32) (y : Int32)   {X : gX} (E : gE d X RX5 cX5_areRight 2 R_X5_areRight) (RET : ∀ (pc_ : Nat) (lv_ : List (Nat × Value)) (v_ : Int32) (u_ : va_W), decode cX5_areRight pc_ = .ok (.ireturn, 1) → narrow .boolean (.int v_) = .int v_ → v_ = r_X5_areRight x y → u_ = [] → G d X u_ R_X5_areRight.cells R_X5_areRight.slots pc_ lv_ [.int v_]) : G d X ([]) 0 0 0 [(0, .int x), (1, .int y)] [] := by
  refine g_iload_n E 0 dX5_areRight_0 rfl rfl ?_
  refine g_iconst E 0 dX5_areRight_1 (by decide) ?_
  refine g_sipush E 255 dX5_areRight_2 (by decide) ?_
  refine g_callSp E gc_X5_in ml_X5_26 (t_X5_in d x 0 255 ) rfl rfl rfl (ok_le rfl) ⟨ok_le rfl, ok_le rfl, ok_le rfl, ok_le rfl⟩ rfl rfl dX5_areRight_5 ?_
  refine g_nm (fun v1_ hv1_ => ?_)
  refine g_ifeq E 26 dX5_areRight_8 (by decide) (fun c_8 => ?_) (fun c_8 => ?_)
  · skip
    refine g_iconst E 0 dX5_areRight_26 (by decide) ?_
    subst hv1_
    exact RET 27 _ 0 _ dX5_areRight_27 rfl (by rw [r_X5_areRight, if_pos c_8]) rfl
  · skip
    refine g_iload_n E 1 dX5_areRight_11 rfl rfl ?_
    refine g_iconst E 0 dX5_areRight_12 (by decide) ?_
    refine g_sipush E 255 dX5_areRight_13 (by decide) ?_
    refine g_callSp E gc_X5_in ml_X5_26 (t_X5_in d y 0 255 ) rfl rfl rfl (ok_le rfl) ⟨ok_le rfl, ok_le rfl, ok_le rfl, ok_le rfl⟩ rfl rfl dX5_areRight_16 ?_
    refine g_nm (fun v2_ hv2_ => ?_)
    refine g_ifeq E 26 dX5_areRight_19 (by decide) (fun c_19 => ?_) (fun c_19 => ?_)
    · skip
      refine g_iconst E 0 dX5_areRight_26 (by decide) ?_
      subst hv2_
      subst hv1_
      exact RET 27 _ 0 _ dX5_areRight_27 rfl (by rw [r_X5_areRight, if_neg c_8, if_pos c_19]) rfl
    · skip
      refine g_iconst E 1 dX5_areRight_22 (by decide) ?_
      refine g_goto E 27 dX5_areRight_23 (by decide) ?_
      subst hv2_
      subst hv1_
      exact RET 27 _ 1 _ dX5_areRight_27 rfl (by rw [r_X5_areRight, if_neg c_8, if_neg c_19]) rfl
set_option maxHeartbeats 400000 in
set_option maxRecDepth 100000 in
theorem t_X5_areRight (d : gD) (x : Int32) (y : Int32)  : gMi d yX5_areRight cX5_areRight 2 (some .boolean) R_X5_areRight [.int x, .int y] ([]) (fun r_ u_ => r_ = r_X5_areRight x y ∧ u_ = []) :=
  g_met_i RX5 rfl (by decide +kernel) (Nat.le_of_ble_eq_true rfl) [(0, .int x), (1, .int y)] rfl (fun X E RET => s_X5_areRight_0 d x y  E (fun pc_ lv_ v_ u_ h1_ h2_ h3_ h4_ => RET pc_ lv_ v_ u_ h1_ h2_ ⟨h3_, h4_⟩))
abbrev R_X5_sign : Room := { frames := 0, cells := 0, slots := 0, locals := 0 }
def r_X5_sign (v : Int32) : Int32 := if 0 < v then 2 else (if v < 0 then 0 else 1)
set_option maxHeartbeats 400000 in
set_option maxRecDepth 100000 in
theorem s_X5_sign_0 (d : gD) (v : Int32)   {X : gX} (E : gE d X RX5 cX5_sign 1 R_X5_sign) (RET : ∀ (pc_ : Nat) (lv_ : List (Nat × Value)) (v_ : Int32) (u_ : va_W), decode cX5_sign pc_ = .ok (.ireturn, 1) → narrow .int (.int v_) = .int v_ → v_ = r_X5_sign v → u_ = [] → G d X u_ R_X5_sign.cells R_X5_sign.slots pc_ lv_ [.int v_]) : G d X ([]) 0 0 0 [(0, .int v)] [] := by
  refine g_iload_n E 0 dX5_sign_0 rfl rfl ?_
  refine g_ifle E 8 dX5_sign_1 (by decide) (fun c_1 => ?_) (fun c_1 => ?_)
  · skip
    refine g_iload_n E 0 dX5_sign_8 rfl rfl ?_
    refine g_ifge E 16 dX5_sign_9 (by decide) (fun c_9 => ?_) (fun c_9 => ?_)
    · skip
      refine g_iconst E 1 dX5_sign_16 (by decide) ?_
      exact RET 17 _ 1 _ dX5_sign_17 rfl (by rw [r_X5_sign, if_neg c_1, if_neg c_9]) rfl
    · skip
      refine g_iconst E 0 dX5_sign_12 (by decide) ?_
      refine g_goto E 17 dX5_sign_13 (by decide) ?_
      exact RET 17 _ 0 _ dX5_sign_17 rfl (by rw [r_X5_sign, if_neg c_1, if_pos c_9]) rfl
  · skip
    refine g_iconst E 2 dX5_sign_4 (by decide) ?_
    refine g_goto E 17 dX5_sign_5 (by decide) ?_
    exact RET 17 _ 2 _ dX5_sign_17 rfl (by rw [r_X5_sign, if_pos c_1]) rfl
set_option maxHeartbeats 400000 in
set_option maxRecDepth 100000 in
theorem t_X5_sign (d : gD) (v : Int32)  : gMi d yX5_sign cX5_sign 1 (some .int) R_X5_sign [.int v] ([]) (fun r_ u_ => r_ = r_X5_sign v ∧ u_ = []) :=
  g_met_i RX5 rfl (by decide +kernel) (Nat.le_of_ble_eq_true rfl) [(0, .int v)] rfl (fun X E RET => s_X5_sign_0 d v  E (fun pc_ lv_ v_ u_ h1_ h2_ h3_ h4_ => RET pc_ lv_ v_ u_ h1_ h2_ ⟨h3_, h4_⟩))
abbrev R_X5_lowOf : Room := { frames := 0, cells := 0, slots := 0, locals := 0 }
def r_X5_lowOf (v : Int32) : Int32 := if v = 2 then 0 else (if v = 3 then 60 else (if v = 4 then 100 else (if v = 5 then 2 else (if v = 6 then 0 else 1))))
set_option maxHeartbeats 400000 in
set_option maxRecDepth 100000 in
theorem s_X5_lowOf_0 (d : gD) (v : Int32)   {X : gX} (E : gE d X RX5 cX5_lowOf 1 R_X5_lowOf) (RET : ∀ (pc_ : Nat) (lv_ : List (Nat × Value)) (v_ : Int32) (u_ : va_W), decode cX5_lowOf pc_ = .ok (.ireturn, 1) → narrow .int (.int v_) = .int v_ → v_ = r_X5_lowOf v → u_ = [] → G d X u_ R_X5_lowOf.cells R_X5_lowOf.slots pc_ lv_ [.int v_]) : G d X ([]) 0 0 0 [(0, .int v)] [] := by
  refine g_iload_n E 0 dX5_lowOf_0 rfl rfl ?_
  by_cases w_1_2 : v = 2
  · skip
    refine g_tableIn E 36 dX5_lowOf_1 (by rw [w_1_2]; decide) (by rw [w_1_2]; decide) (by rw [w_1_2]; rfl) (by decide) ?_
    refine g_iconst E 0 dX5_lowOf_36 (by decide) ?_
    exact RET 37 _ 0 _ dX5_lowOf_37 rfl (by rw [r_X5_lowOf, if_pos w_1_2]) rfl
  · skip
    by_cases w_1_3 : v = 3
    · skip
      refine g_tableIn E 38 dX5_lowOf_1 (by rw [w_1_3]; decide) (by rw [w_1_3]; decide) (by rw [w_1_3]; rfl) (by decide) ?_
      refine g_bipush E 60 dX5_lowOf_38 (by decide) ?_
      exact RET 40 _ 60 _ dX5_lowOf_40 rfl (by rw [r_X5_lowOf, if_neg w_1_2, if_pos w_1_3]) rfl
    · skip
      by_cases w_1_4 : v = 4
      · skip
        refine g_tableIn E 41 dX5_lowOf_1 (by rw [w_1_4]; decide) (by rw [w_1_4]; decide) (by rw [w_1_4]; rfl) (by decide) ?_
        refine g_bipush E 100 dX5_lowOf_41 (by decide) ?_
        exact RET 43 _ 100 _ dX5_lowOf_43 rfl (by rw [r_X5_lowOf, if_neg w_1_2, if_neg w_1_3, if_pos w_1_4]) rfl
      · skip
        by_cases w_1_5 : v = 5
        · skip
          refine g_tableIn E 44 dX5_lowOf_1 (by rw [w_1_5]; decide) (by rw [w_1_5]; decide) (by rw [w_1_5]; rfl) (by decide) ?_
          refine g_iconst E 2 dX5_lowOf_44 (by decide) ?_
          exact RET 45 _ 2 _ dX5_lowOf_45 rfl (by rw [r_X5_lowOf, if_neg w_1_2, if_neg w_1_3, if_neg w_1_4, if_pos w_1_5]) rfl
        · skip
          by_cases w_1_6 : v = 6
          · skip
            refine g_tableIn E 36 dX5_lowOf_1 (by rw [w_1_6]; decide) (by rw [w_1_6]; decide) (by rw [w_1_6]; rfl) (by decide) ?_
            refine g_iconst E 0 dX5_lowOf_36 (by decide) ?_
            exact RET 37 _ 0 _ dX5_lowOf_37 rfl (by rw [r_X5_lowOf, if_neg w_1_2, if_neg w_1_3, if_neg w_1_4, if_neg w_1_5, if_pos w_1_6]) rfl
          · skip
            refine g_tableOut E 46 dX5_lowOf_1 (by have z2 := lv_neT (x := v) (k := 2) (a := 2) w_1_2 (by decide); have z3 := lv_neT (x := v) (k := 3) (a := 3) w_1_3 (by decide); have z4 := lv_neT (x := v) (k := 4) (a := 4) w_1_4 (by decide); have z5 := lv_neT (x := v) (k := 5) (a := 5) w_1_5 (by decide); have z6 := lv_neT (x := v) (k := 6) (a := 6) w_1_6 (by decide); omega) (by decide) ?_
            refine g_iconst E 1 dX5_lowOf_46 (by decide) ?_
            exact RET 47 _ 1 _ dX5_lowOf_47 rfl (by rw [r_X5_lowOf, if_neg w_1_2, if_neg w_1_3, if_neg w_1_4, if_neg w_1_5, if_neg w_1_6]) rfl
set_option maxHeartbeats 400000 in
set_option maxRecDepth 100000 in
theorem t_X5_lowOf (d : gD) (v : Int32)  : gMi d yX5_lowOf cX5_lowOf 1 (some .int) R_X5_lowOf [.int v] ([]) (fun r_ u_ => r_ = r_X5_lowOf v ∧ u_ = []) :=
  g_met_i RX5 rfl (by decide +kernel) (Nat.le_of_ble_eq_true rfl) [(0, .int v)] rfl (fun X E RET => s_X5_lowOf_0 d v  E (fun pc_ lv_ v_ u_ h1_ h2_ h3_ h4_ => RET pc_ lv_ v_ u_ h1_ h2_ ⟨h3_, h4_⟩))
abbrev R_X5_highOf : Room := { frames := 0, cells := 0, slots := 0, locals := 0 }
def r_X5_highOf (v : Int32) : Int32 := if v = 0 then 64 else (if v = 1 then 30 else (if v = 2 then 20 else (if v = 3 then 127 else (if v = 4 then 200 else (if v = 5 then 60 else 20)))))
set_option maxHeartbeats 400000 in
set_option maxRecDepth 100000 in
theorem s_X5_highOf_0 (d : gD) (v : Int32)   {X : gX} (E : gE d X RX5 cX5_highOf 1 R_X5_highOf) (RET : ∀ (pc_ : Nat) (lv_ : List (Nat × Value)) (v_ : Int32) (u_ : va_W), decode cX5_highOf pc_ = .ok (.ireturn, 1) → narrow .int (.int v_) = .int v_ → v_ = r_X5_highOf v → u_ = [] → G d X u_ R_X5_highOf.cells R_X5_highOf.slots pc_ lv_ [.int v_]) : G d X ([]) 0 0 0 [(0, .int v)] [] := by
  refine g_iload_n E 0 dX5_highOf_0 rfl rfl ?_
  by_cases w_1_0 : v = 0
  · skip
    refine g_tableIn E 40 dX5_highOf_1 (by rw [w_1_0]; decide) (by rw [w_1_0]; decide) (by rw [w_1_0]; rfl) (by decide) ?_
    refine g_bipush E 64 dX5_highOf_40 (by decide) ?_
    exact RET 42 _ 64 _ dX5_highOf_42 rfl (by rw [r_X5_highOf, if_pos w_1_0]) rfl
  · skip
    by_cases w_1_1 : v = 1
    · skip
      refine g_tableIn E 43 dX5_highOf_1 (by rw [w_1_1]; decide) (by rw [w_1_1]; decide) (by rw [w_1_1]; rfl) (by decide) ?_
      refine g_bipush E 30 dX5_highOf_43 (by decide) ?_
      exact RET 45 _ 30 _ dX5_highOf_45 rfl (by rw [r_X5_highOf, if_neg w_1_0, if_pos w_1_1]) rfl
    · skip
      by_cases w_1_2 : v = 2
      · skip
        refine g_tableIn E 56 dX5_highOf_1 (by rw [w_1_2]; decide) (by rw [w_1_2]; decide) (by rw [w_1_2]; rfl) (by decide) ?_
        refine g_bipush E 20 dX5_highOf_56 (by decide) ?_
        exact RET 58 _ 20 _ dX5_highOf_58 rfl (by rw [r_X5_highOf, if_neg w_1_0, if_neg w_1_1, if_pos w_1_2]) rfl
      · skip
        by_cases w_1_3 : v = 3
        · skip
          refine g_tableIn E 46 dX5_highOf_1 (by rw [w_1_3]; decide) (by rw [w_1_3]; decide) (by rw [w_1_3]; rfl) (by decide) ?_
          refine g_bipush E 127 dX5_highOf_46 (by decide) ?_
          exact RET 48 _ 127 _ dX5_highOf_48 rfl (by rw [r_X5_highOf, if_neg w_1_0, if_neg w_1_1, if_neg w_1_2, if_pos w_1_3]) rfl
        · skip
          by_cases w_1_4 : v = 4
          · skip
            refine g_tableIn E 49 dX5_highOf_1 (by rw [w_1_4]; decide) (by rw [w_1_4]; decide) (by rw [w_1_4]; rfl) (by decide) ?_
            refine g_sipush E 200 dX5_highOf_49 (by decide) ?_
            exact RET 52 _ 200 _ dX5_highOf_52 rfl (by rw [r_X5_highOf, if_neg w_1_0, if_neg w_1_1, if_neg w_1_2, if_neg w_1_3, if_pos w_1_4]) rfl
          · skip
            by_cases w_1_5 : v = 5
            · skip
              refine g_tableIn E 53 dX5_highOf_1 (by rw [w_1_5]; decide) (by rw [w_1_5]; decide) (by rw [w_1_5]; rfl) (by decide) ?_
              refine g_bipush E 60 dX5_highOf_53 (by decide) ?_
              exact RET 55 _ 60 _ dX5_highOf_55 rfl (by rw [r_X5_highOf, if_neg w_1_0, if_neg w_1_1, if_neg w_1_2, if_neg w_1_3, if_neg w_1_4, if_pos w_1_5]) rfl
            · skip
              refine g_tableOut E 56 dX5_highOf_1 (by have z0 := lv_neT (x := v) (k := 0) (a := 0) w_1_0 (by decide); have z1 := lv_neT (x := v) (k := 1) (a := 1) w_1_1 (by decide); have z2 := lv_neT (x := v) (k := 2) (a := 2) w_1_2 (by decide); have z3 := lv_neT (x := v) (k := 3) (a := 3) w_1_3 (by decide); have z4 := lv_neT (x := v) (k := 4) (a := 4) w_1_4 (by decide); have z5 := lv_neT (x := v) (k := 5) (a := 5) w_1_5 (by decide); omega) (by decide) ?_
              refine g_bipush E 20 dX5_highOf_56 (by decide) ?_
              exact RET 58 _ 20 _ dX5_highOf_58 rfl (by rw [r_X5_highOf, if_neg w_1_0, if_neg w_1_1, if_neg w_1_2, if_neg w_1_3, if_neg w_1_4, if_neg w_1_5]) rfl
set_option maxHeartbeats 400000 in
set_option maxRecDepth 100000 in
theorem t_X5_highOf (d : gD) (v : Int32)  : gMi d yX5_highOf cX5_highOf 1 (some .int) R_X5_highOf [.int v] ([]) (fun r_ u_ => r_ = r_X5_highOf v ∧ u_ = []) :=
  g_met_i RX5 rfl (by decide +kernel) (Nat.le_of_ble_eq_true rfl) [(0, .int v)] rfl (fun X E RET => s_X5_highOf_0 d v  E (fun pc_ lv_ v_ u_ h1_ h2_ h3_ h4_ => RET pc_ lv_ v_ u_ h1_ h2_ ⟨h3_, h4_⟩))
end
section
abbrev R_X0_note : Room := { frames := 1, cells := 0, slots := 0, locals := 15 }
def j_X0_note_59_g (x : Int32) (y : Int32) (D : DD) : Nat → Int32 := if (((3 * (x + 1)) + y) + 1) < 0 then D.1 else (if (((3 * (x + 1)) + y) + 1) < 9 then (if (D.2.2.1 ((((3 * (x + 1)) + y) + 1).toNatClampNeg)) = 0 then (if (D.1 0) < 9 then (upd D.1 0 ((D.1 0) + 1)) else D.1) else D.1) else D.1)
def j_X0_note_59_br (x : Int32) (y : Int32) (D : DD) : Nat → Int32 := if (((3 * (x + 1)) + y) + 1) < 0 then D.2.1 else (if (((3 * (x + 1)) + y) + 1) < 9 then (if (D.2.2.1 ((((3 * (x + 1)) + y) + 1).toNatClampNeg)) = 0 then (if (D.1 0) < 9 then (upd D.2.1 ((D.1 0).toNatClampNeg) (((3 * (x + 1)) + y) + 1)) else D.2.1) else D.2.1) else D.2.1)
def j_X0_note_78_s0 (x : Int32) (y : Int32) (D : DD) : Int32 := if (((3 * (x + 1)) + y) + 1) = ((j_X0_note_59_g x y D) 1) then (((j_X0_note_59_g x y D) 2) + 1) else 1
def c_X0_note_at78 (x : Int32) (y : Int32) (D : DD) : DD := (upd (upd (j_X0_note_59_g x y D) 2 (j_X0_note_78_s0 x y D)) 1 (((3 * (x + 1)) + y) + 1), (j_X0_note_59_br x y D), upd D.2.2.1 ((((3 * (x + 1)) + y) + 1).toNatClampNeg) ((D.2.2.1 ((((3 * (x + 1)) + y) + 1).toNatClampNeg)) + 1), upd D.2.2.2 ((((3 * (x + 1)) + y) + 1).toNatClampNeg) (imax (D.2.2.2 ((((3 * (x + 1)) + y) + 1).toNatClampNeg)) (j_X0_note_78_s0 x y D)))
def c_X0_note_at59 (x : Int32) (y : Int32) (D : DD) : DD := c_X0_note_at78 x y D
def c_X0_note (x : Int32) (y : Int32) (D : DD) : DD := if (((3 * (x + 1)) + y) + 1) < 0 then D else (if (((3 * (x + 1)) + y) + 1) < 9 then (c_X0_note_at59 x y D) else D)
set_option maxHeartbeats 400000 in
set_option maxRecDepth 100000 in
theorem s_X0_note_78 (d : gD) (a : Nat → Nat) (x : Int32) (y : Int32) (D : DD) (hu : ¬ D.1 0 < 0) (c_11 : ¬ (((3 * (x + 1)) + y) + 1) < 0) (c_17 : (((3 * (x + 1)) + y) + 1) < 9) {X : gX} (E : gE d X RX0 cX0_note 4 R_X0_note) (RET : ∀ (pc_ : Nat) (lv_ : List (Nat × Value)) (u_ : va_W), decode cX0_note pc_ = .ok (.return_, 1) → u_ = DK d a (c_X0_note_at78 x y D) → G d X u_ R_X0_note.cells R_X0_note.slots pc_ lv_ []) : G d X (DK d a ((j_X0_note_59_g x y D), (j_X0_note_59_br x y D), D.2.2)) 0 0 78 [(0, .ref (a 2)), (1, .int x), (2, .int y), (3, .int (((3 * (x + 1)) + y) + 1))] [.int (j_X0_note_78_s0 x y D), .ref (a 2)] := by
  obtain ⟨J1_, hJ1_⟩ : ∃ z, z = j_X0_note_59_g x y D := ⟨_, rfl⟩
  rw [← hJ1_]
  obtain ⟨J2_, hJ2_⟩ : ∃ z, z = j_X0_note_59_br x y D := ⟨_, rfl⟩
  rw [← hJ2_]
  obtain ⟨J3_, hJ3_⟩ : ∃ z, z = j_X0_note_78_s0 x y D := ⟨_, rfl⟩
  rw [← hJ3_]
  refine g_put E (ci := 0) inlX0 0 rfl rfl 5 (by decide) tyX0 tyX0_ok nmX0 fl_X0_34 rfl rfl rfl rfl (ok_lt rfl) (ws' := DK d a (upd J1_ 2 J3_, J2_, D.2.2)) rfl dX0_note_78 ?_
  refine g_aload_n E 0 dX0_note_81 rfl rfl ?_
  refine g_iload_n E 3 dX0_note_82 rfl rfl ?_
  refine g_put E (ci := 0) inlX0 0 rfl rfl 4 (by decide) tyX0 tyX0_ok nmX0 fl_X0_21 rfl rfl rfl rfl (ok_lt rfl) (ws' := DK d a (upd (upd J1_ 2 J3_) 1 (((3 * (x + 1)) + y) + 1), J2_, D.2.2)) rfl dX0_note_83 ?_
  refine g_aload_n E 0 dX0_note_86 rfl rfl ?_
  refine g_get E (ci := 0) inlX0 0 rfl rfl 1 (by decide) fl_X0_15 rfl (.ref (a 4)) rfl dX0_note_87 ?_
  refine g_iload_n E 3 dX0_note_90 rfl rfl ?_
  refine g_dup2 E dX0_note_91 rfl rfl ?_
  refine g_iald E 2 rfl rfl ((((3 * (x + 1)) + y) + 1).toNatClampNeg) (ix_eq c_11) (ix_lt (N := 9) c_11 c_17) (by decide) dX0_note_92 ?_
  refine g_iconst E 1 dX0_note_93 (by decide) ?_
  refine g_iadd E dX0_note_94 ?_
  refine g_iast E 2 rfl rfl ((((3 * (x + 1)) + y) + 1).toNatClampNeg) (ix_eq c_11) (ix_lt (N := 9) c_11 c_17) (by decide) (ws' := DK d a (upd (upd J1_ 2 J3_) 1 (((3 * (x + 1)) + y) + 1), J2_, upd D.2.2.1 ((((3 * (x + 1)) + y) + 1).toNatClampNeg) ((D.2.2.1 ((((3 * (x + 1)) + y) + 1).toNatClampNeg)) + 1), D.2.2.2)) rfl dX0_note_95 ?_
  refine g_aload_n E 0 dX0_note_96 rfl rfl ?_
  refine g_get E (ci := 0) inlX0 0 rfl rfl 2 (by decide) fl_X0_18 rfl (.ref (a 5)) rfl dX0_note_97 ?_
  refine g_iload_n E 3 dX0_note_100 rfl rfl ?_
  refine g_aload_n E 0 dX0_note_101 rfl rfl ?_
  refine g_get E (ci := 0) inlX0 0 rfl rfl 2 (by decide) fl_X0_18 rfl (.ref (a 5)) rfl dX0_note_102 ?_
  refine g_iload_n E 3 dX0_note_105 rfl rfl ?_
  refine g_iald E 3 rfl rfl ((((3 * (x + 1)) + y) + 1).toNatClampNeg) (ix_eq c_11) (ix_lt (N := 9) c_11 c_17) (by decide) dX0_note_106 ?_
  refine g_aload_n E 0 dX0_note_107 rfl rfl ?_
  refine g_get E (ci := 0) inlX0 0 rfl rfl 5 (by decide) fl_X0_34 rfl (.int J3_) rfl dX0_note_108 ?_
  refine g_max E ml_X0_37 (ok_le rfl) (ok_le rfl) (ok_le rfl) (ok_le rfl) dX0_note_111 ?_
  refine g_top (b := imax (D.2.2.2 ((((3 * (x + 1)) + y) + 1).toNatClampNeg)) J3_) rfl ?_
  refine g_iast E 3 rfl rfl ((((3 * (x + 1)) + y) + 1).toNatClampNeg) (ix_eq c_11) (ix_lt (N := 9) c_11 c_17) (by decide) (ws' := DK d a (upd (upd J1_ 2 J3_) 1 (((3 * (x + 1)) + y) + 1), J2_, upd D.2.2.1 ((((3 * (x + 1)) + y) + 1).toNatClampNeg) ((D.2.2.1 ((((3 * (x + 1)) + y) + 1).toNatClampNeg)) + 1), upd D.2.2.2 ((((3 * (x + 1)) + y) + 1).toNatClampNeg) (imax (D.2.2.2 ((((3 * (x + 1)) + y) + 1).toNatClampNeg)) J3_))) rfl dX0_note_114 ?_
  subst hJ3_
  subst hJ2_
  subst hJ1_
  exact RET 115 _ _ dX0_note_115 (by rw [c_X0_note_at78])
set_option maxHeartbeats 400000 in
set_option maxRecDepth 100000 in
theorem s_X0_note_59 (d : gD) (a : Nat → Nat) (x : Int32) (y : Int32) (D : DD) (hu : ¬ D.1 0 < 0) (c_11 : ¬ (((3 * (x + 1)) + y) + 1) < 0) (c_17 : (((3 * (x + 1)) + y) + 1) < 9) {X : gX} (E : gE d X RX0 cX0_note 4 R_X0_note) (RET : ∀ (pc_ : Nat) (lv_ : List (Nat × Value)) (u_ : va_W), decode cX0_note pc_ = .ok (.return_, 1) → u_ = DK d a (c_X0_note_at59 x y D) → G d X u_ R_X0_note.cells R_X0_note.slots pc_ lv_ []) : G d X (DK d a ((j_X0_note_59_g x y D), (j_X0_note_59_br x y D), D.2.2)) 0 0 59 [(0, .ref (a 2)), (1, .int x), (2, .int y), (3, .int (((3 * (x + 1)) + y) + 1))] [] := by
  obtain ⟨J1_, hJ1_⟩ : ∃ z, z = j_X0_note_59_g x y D := ⟨_, rfl⟩
  rw [← hJ1_]
  obtain ⟨J2_, hJ2_⟩ : ∃ z, z = j_X0_note_59_br x y D := ⟨_, rfl⟩
  rw [← hJ2_]
  refine g_aload_n E 0 dX0_note_59 rfl rfl ?_
  refine g_iload_n E 3 dX0_note_60 rfl rfl ?_
  refine g_aload_n E 0 dX0_note_61 rfl rfl ?_
  refine g_get E (ci := 0) inlX0 0 rfl rfl 4 (by decide) fl_X0_21 rfl (.int (J1_ 1)) rfl dX0_note_62 ?_
  refine g_icmpne E 77 dX0_note_65 (by decide) (fun c_65 => ?_) (fun c_65 => ?_)
  · skip
    refine g_iconst E 1 dX0_note_77 (by decide) ?_
    subst hJ2_
    subst hJ1_
    have J := s_X0_note_78 d a x y D hu c_11 c_17 E (fun pc_ lv_ u_ h1_ h2_ => RET pc_ lv_ u_ h1_ (h2_.trans (by rw [c_X0_note_at59])))
    rw [j_X0_note_78_s0, if_neg c_65] at J
    exact J
  · skip
    refine g_aload_n E 0 dX0_note_68 rfl rfl ?_
    refine g_get E (ci := 0) inlX0 0 rfl rfl 5 (by decide) fl_X0_34 rfl (.int (J1_ 2)) rfl dX0_note_69 ?_
    refine g_iconst E 1 dX0_note_72 (by decide) ?_
    refine g_iadd E dX0_note_73 ?_
    refine g_goto E 78 dX0_note_74 (by decide) ?_
    subst hJ2_
    subst hJ1_
    have J := s_X0_note_78 d a x y D hu c_11 c_17 E (fun pc_ lv_ u_ h1_ h2_ => RET pc_ lv_ u_ h1_ (h2_.trans (by rw [c_X0_note_at59])))
    rw [j_X0_note_78_s0, if_pos c_65] at J
    exact J
set_option maxHeartbeats 400000 in
set_option maxRecDepth 100000 in
theorem s_X0_note_0 (d : gD) (a : Nat → Nat) (x : Int32) (y : Int32) (D : DD) (hu : ¬ D.1 0 < 0)  {X : gX} (E : gE d X RX0 cX0_note 4 R_X0_note) (RET : ∀ (pc_ : Nat) (lv_ : List (Nat × Value)) (u_ : va_W), decode cX0_note pc_ = .ok (.return_, 1) → u_ = DK d a (c_X0_note x y D) → G d X u_ R_X0_note.cells R_X0_note.slots pc_ lv_ []) : G d X (DK d a D) 0 0 0 [(0, .ref (a 2)), (1, .int x), (2, .int y)] [] := by
  refine g_iconst E 3 dX0_note_0 (by decide) ?_
  refine g_iload_n E 1 dX0_note_1 rfl rfl ?_
  refine g_iconst E 1 dX0_note_2 (by decide) ?_
  refine g_iadd E dX0_note_3 ?_
  refine g_imul E dX0_note_4 ?_
  refine g_iload_n E 2 dX0_note_5 rfl rfl ?_
  refine g_iadd E dX0_note_6 ?_
  refine g_iconst E 1 dX0_note_7 (by decide) ?_
  refine g_iadd E dX0_note_8 ?_
  refine g_istore_n E (lv' := [(3, .int (((3 * (x + 1)) + y) + 1)), (0, .ref (a 2)), (1, .int x), (2, .int y)]) dX0_note_9 rfl (by decide) rfl ?_
  refine g_iload_n E 0 dX0_note_10 rfl rfl ?_
  refine g_iflt E 20 dX0_note_11 (by decide) (fun c_11 => ?_) (fun c_11 => ?_)
  · skip
    exact RET 20 _ _ dX0_note_20 (by rw [c_X0_note, if_pos c_11])
  · skip
    refine g_iload_n E 0 dX0_note_14 rfl rfl ?_
    refine g_bipush E 9 dX0_note_15 (by decide) ?_
    refine g_icmplt E 21 dX0_note_17 (by decide) (fun c_17 => ?_) (fun c_17 => ?_)
    · skip
      refine g_aload_n E 1 dX0_note_21 rfl rfl ?_
      refine g_get E (ci := 0) inlX0 0 rfl rfl 1 (by decide) fl_X0_15 rfl (.ref (a 4)) rfl dX0_note_22 ?_
      refine g_iload_n E 0 dX0_note_25 rfl rfl ?_
      refine g_iald E 2 rfl rfl ((((3 * (x + 1)) + y) + 1).toNatClampNeg) (ix_eq c_11) (ix_lt (N := 9) c_11 c_17) (by decide) dX0_note_26 ?_
      refine g_ifne E 59 dX0_note_27 (by decide) (fun c_27 => ?_) (fun c_27 => ?_)
      · skip
        refine g_lvs (lv' := [(0, .ref (a 2)), (1, .int x), (2, .int y), (3, .int (((3 * (x + 1)) + y) + 1))]) [1, 2, 3, 0] rfl ?_
        have J := s_X0_note_59 d a x y D hu c_11 c_17 E (fun pc_ lv_ u_ h1_ h2_ => RET pc_ lv_ u_ h1_ (h2_.trans (by rw [c_X0_note, if_neg c_11, if_pos c_17])))
        rw [j_X0_note_59_g, if_neg c_11, if_pos c_17, if_neg c_27, j_X0_note_59_br, if_neg c_11, if_pos c_17, if_neg c_27] at J
        exact J
      · skip
        refine g_aload_n E 1 dX0_note_30 rfl rfl ?_
        refine g_get E (ci := 0) inlX0 0 rfl rfl 3 (by decide) fl_X0_31 rfl (.int (D.1 0)) rfl dX0_note_31 ?_
        refine g_bipush E 9 dX0_note_34 (by decide) ?_
        refine g_icmpge E 59 dX0_note_36 (by decide) (fun c_36 => ?_) (fun c_36 => ?_)
        · skip
          refine g_lvs (lv' := [(0, .ref (a 2)), (1, .int x), (2, .int y), (3, .int (((3 * (x + 1)) + y) + 1))]) [1, 2, 3, 0] rfl ?_
          have J := s_X0_note_59 d a x y D hu c_11 c_17 E (fun pc_ lv_ u_ h1_ h2_ => RET pc_ lv_ u_ h1_ (h2_.trans (by rw [c_X0_note, if_neg c_11, if_pos c_17])))
          rw [j_X0_note_59_g, if_neg c_11, if_pos c_17, if_pos c_27, if_neg c_36, j_X0_note_59_br, if_neg c_11, if_pos c_17, if_pos c_27, if_neg c_36] at J
          exact J
        · skip
          refine g_aload_n E 1 dX0_note_39 rfl rfl ?_
          refine g_get E (ci := 0) inlX0 0 rfl rfl 0 (by decide) fl_X0_9 rfl (.ref (a 3)) rfl dX0_note_40 ?_
          refine g_aload_n E 1 dX0_note_43 rfl rfl ?_
          refine g_get E (ci := 0) inlX0 0 rfl rfl 3 (by decide) fl_X0_31 rfl (.int (D.1 0)) rfl dX0_note_44 ?_
          refine g_iload_n E 0 dX0_note_47 rfl rfl ?_
          refine g_iast E 1 rfl rfl ((D.1 0).toNatClampNeg) (ix_eq hu) (ix_lt (N := 9) hu c_36) (by decide) (ws' := DK d a (D.1, upd D.2.1 ((D.1 0).toNatClampNeg) (((3 * (x + 1)) + y) + 1), D.2.2)) rfl dX0_note_48 ?_
          refine g_aload_n E 1 dX0_note_49 rfl rfl ?_
          refine g_dup E dX0_note_50 rfl ?_
          refine g_get E (ci := 0) inlX0 0 rfl rfl 3 (by decide) fl_X0_31 rfl (.int (D.1 0)) rfl dX0_note_51 ?_
          refine g_iconst E 1 dX0_note_54 (by decide) ?_
          refine g_iadd E dX0_note_55 ?_
          refine g_put E (ci := 0) inlX0 0 rfl rfl 3 (by decide) tyX0 tyX0_ok nmX0 fl_X0_31 rfl rfl rfl rfl (ok_lt rfl) (ws' := DK d a (upd D.1 0 ((D.1 0) + 1), upd D.2.1 ((D.1 0).toNatClampNeg) (((3 * (x + 1)) + y) + 1), D.2.2)) rfl dX0_note_56 ?_
          refine g_lvs (lv' := [(0, .ref (a 2)), (1, .int x), (2, .int y), (3, .int (((3 * (x + 1)) + y) + 1))]) [1, 2, 3, 0] rfl ?_
          have J := s_X0_note_59 d a x y D hu c_11 c_17 E (fun pc_ lv_ u_ h1_ h2_ => RET pc_ lv_ u_ h1_ (h2_.trans (by rw [c_X0_note, if_neg c_11, if_pos c_17])))
          rw [j_X0_note_59_g, if_neg c_11, if_pos c_17, if_pos c_27, if_pos c_36, j_X0_note_59_br, if_neg c_11, if_pos c_17, if_pos c_27, if_pos c_36] at J
          exact J
    · skip
      exact RET 20 _ _ dX0_note_20 (by rw [c_X0_note, if_neg c_11, if_neg c_17])
set_option maxHeartbeats 400000 in
set_option maxRecDepth 100000 in
theorem t_X0_note (d : gD) (a : Nat → Nat) (x : Int32) (y : Int32) (D : DD) (hu : ¬ D.1 0 < 0) : gMv d yX0_note cX0_note 4 R_X0_note [.ref (a 2), .int x, .int y] (DK d a D) (fun u_ => u_ = DK d a (c_X0_note x y D)) :=
  g_met_v RX0 rfl (by decide +kernel) (Nat.le_of_ble_eq_true rfl) [(0, .ref (a 2)), (1, .int x), (2, .int y)] rfl (fun X E _ RET => s_X0_note_0 d a x y D hu E (fun pc_ lv_ u_ h1_ h2_ => RET pc_ lv_ u_ h1_ h2_))
abbrev R_X0_about : Room := { frames := 0, cells := 0, slots := 0, locals := 0 }
def r_X0_about (rank : Int32) (what : Int32) (D : DD) : Int32 := if rank < 0 then (-1) else (if rank < (D.1 0) then (if rank < 9 then (if (D.2.1 ((rank).toNatClampNeg)) < 0 then (-1) else (if (D.2.1 ((rank).toNatClampNeg)) < 9 then (if what = 0 then ((D.2.1 ((rank).toNatClampNeg)) / 3) else (if what = 1 then ((D.2.1 ((rank).toNatClampNeg)) - (D.2.1 ((rank).toNatClampNeg)) / 3 * 3) else (if what = 2 then (D.2.2.1 ((D.2.1 ((rank).toNatClampNeg)).toNatClampNeg)) else (if what = 3 then (D.2.2.2 ((D.2.1 ((rank).toNatClampNeg)).toNatClampNeg)) else (-2))))) else (-1))) else (-1)) else (-1))
set_option maxHeartbeats 400000 in
set_option maxRecDepth 100000 in
theorem s_X0_about_0 (d : gD) (a : Nat → Nat) (rank : Int32) (what : Int32) (D : DD)   {X : gX} (E : gE d X RX0 cX0_about 4 R_X0_about) (RET : ∀ (pc_ : Nat) (lv_ : List (Nat × Value)) (v_ : Int32) (u_ : va_W), decode cX0_about pc_ = .ok (.ireturn, 1) → narrow .int (.int v_) = .int v_ → v_ = r_X0_about rank what D → u_ = DK d a D → G d X u_ R_X0_about.cells R_X0_about.slots pc_ lv_ [.int v_]) : G d X (DK d a D) 0 0 0 [(0, .ref (a 2)), (1, .int rank), (2, .int what)] [] := by
  refine g_iload_n E 1 dX0_about_0 rfl rfl ?_
  refine g_iflt E 18 dX0_about_1 (by decide) (fun c_1 => ?_) (fun c_1 => ?_)
  · skip
    refine g_iconst E (-1) dX0_about_18 (by decide) ?_
    exact RET 19 _ (-1) _ dX0_about_19 rfl (by rw [r_X0_about, if_pos c_1]) rfl
  · skip
    refine g_iload_n E 1 dX0_about_4 rfl rfl ?_
    refine g_aload_n E 0 dX0_about_5 rfl rfl ?_
    refine g_get E (ci := 0) inlX0 0 rfl rfl 3 (by decide) fl_X0_31 rfl (.int (D.1 0)) rfl dX0_about_6 ?_
    refine g_icmpge E 18 dX0_about_9 (by decide) (fun c_9 => ?_) (fun c_9 => ?_)
    · skip
      refine g_iconst E (-1) dX0_about_18 (by decide) ?_
      exact RET 19 _ (-1) _ dX0_about_19 rfl (by rw [r_X0_about, if_neg c_1, if_neg c_9]) rfl
    · skip
      refine g_iload_n E 1 dX0_about_12 rfl rfl ?_
      refine g_bipush E 9 dX0_about_13 (by decide) ?_
      refine g_icmplt E 20 dX0_about_15 (by decide) (fun c_15 => ?_) (fun c_15 => ?_)
      · skip
        refine g_aload_n E 0 dX0_about_20 rfl rfl ?_
        refine g_get E (ci := 0) inlX0 0 rfl rfl 0 (by decide) fl_X0_9 rfl (.ref (a 3)) rfl dX0_about_21 ?_
        refine g_iload_n E 1 dX0_about_24 rfl rfl ?_
        refine g_iald E 1 rfl rfl ((rank).toNatClampNeg) (ix_eq c_1) (ix_lt (N := 9) c_1 c_15) (by decide) dX0_about_25 ?_
        refine g_istore_n E (lv' := [(3, .int (D.2.1 ((rank).toNatClampNeg))), (0, .ref (a 2)), (1, .int rank), (2, .int what)]) dX0_about_26 rfl (by decide) rfl ?_
        refine g_iload_n E 0 dX0_about_27 rfl rfl ?_
        refine g_iflt E 37 dX0_about_28 (by decide) (fun c_28 => ?_) (fun c_28 => ?_)
        · skip
          refine g_iconst E (-1) dX0_about_37 (by decide) ?_
          exact RET 38 _ (-1) _ dX0_about_38 rfl (by rw [r_X0_about, if_neg c_1, if_pos c_9, if_pos c_15, if_pos c_28]) rfl
        · skip
          refine g_iload_n E 0 dX0_about_31 rfl rfl ?_
          refine g_bipush E 9 dX0_about_32 (by decide) ?_
          refine g_icmplt E 39 dX0_about_34 (by decide) (fun c_34 => ?_) (fun c_34 => ?_)
          · skip
            refine g_iload_n E 3 dX0_about_39 rfl rfl ?_
            by_cases w_40_0 : what = 0
            · skip
              refine g_tableIn E 72 dX0_about_40 (by rw [w_40_0]; decide) (by rw [w_40_0]; decide) (by rw [w_40_0]; rfl) (by decide) ?_
              refine g_iload_n E 0 dX0_about_72 rfl rfl ?_
              refine g_iconst E 3 dX0_about_73 (by decide) ?_
              refine g_idiv E dX0_about_74 (by decide) ?_
              exact RET 75 _ ((D.2.1 ((rank).toNatClampNeg)) / 3) _ dX0_about_75 rfl (by rw [r_X0_about, if_neg c_1, if_pos c_9, if_pos c_15, if_neg c_28, if_pos c_34, if_pos w_40_0]) rfl
            · skip
              by_cases w_40_1 : what = 1
              · skip
                refine g_tableIn E 76 dX0_about_40 (by rw [w_40_1]; decide) (by rw [w_40_1]; decide) (by rw [w_40_1]; rfl) (by decide) ?_
                refine g_iload_n E 0 dX0_about_76 rfl rfl ?_
                refine g_iconst E 3 dX0_about_77 (by decide) ?_
                refine g_irem E dX0_about_78 (by decide) ?_
                exact RET 79 _ ((D.2.1 ((rank).toNatClampNeg)) - (D.2.1 ((rank).toNatClampNeg)) / 3 * 3) _ dX0_about_79 rfl (by rw [r_X0_about, if_neg c_1, if_pos c_9, if_pos c_15, if_neg c_28, if_pos c_34, if_neg w_40_0, if_pos w_40_1]) rfl
              · skip
                by_cases w_40_2 : what = 2
                · skip
                  refine g_tableIn E 80 dX0_about_40 (by rw [w_40_2]; decide) (by rw [w_40_2]; decide) (by rw [w_40_2]; rfl) (by decide) ?_
                  refine g_aload_n E 1 dX0_about_80 rfl rfl ?_
                  refine g_get E (ci := 0) inlX0 0 rfl rfl 1 (by decide) fl_X0_15 rfl (.ref (a 4)) rfl dX0_about_81 ?_
                  refine g_iload_n E 0 dX0_about_84 rfl rfl ?_
                  refine g_iald E 2 rfl rfl ((D.2.1 ((rank).toNatClampNeg)).toNatClampNeg) (ix_eq c_28) (ix_lt (N := 9) c_28 c_34) (by decide) dX0_about_85 ?_
                  exact RET 86 _ (D.2.2.1 ((D.2.1 ((rank).toNatClampNeg)).toNatClampNeg)) _ dX0_about_86 rfl (by rw [r_X0_about, if_neg c_1, if_pos c_9, if_pos c_15, if_neg c_28, if_pos c_34, if_neg w_40_0, if_neg w_40_1, if_pos w_40_2]) rfl
                · skip
                  by_cases w_40_3 : what = 3
                  · skip
                    refine g_tableIn E 87 dX0_about_40 (by rw [w_40_3]; decide) (by rw [w_40_3]; decide) (by rw [w_40_3]; rfl) (by decide) ?_
                    refine g_aload_n E 1 dX0_about_87 rfl rfl ?_
                    refine g_get E (ci := 0) inlX0 0 rfl rfl 2 (by decide) fl_X0_18 rfl (.ref (a 5)) rfl dX0_about_88 ?_
                    refine g_iload_n E 0 dX0_about_91 rfl rfl ?_
                    refine g_iald E 3 rfl rfl ((D.2.1 ((rank).toNatClampNeg)).toNatClampNeg) (ix_eq c_28) (ix_lt (N := 9) c_28 c_34) (by decide) dX0_about_92 ?_
                    exact RET 93 _ (D.2.2.2 ((D.2.1 ((rank).toNatClampNeg)).toNatClampNeg)) _ dX0_about_93 rfl (by rw [r_X0_about, if_neg c_1, if_pos c_9, if_pos c_15, if_neg c_28, if_pos c_34, if_neg w_40_0, if_neg w_40_1, if_neg w_40_2, if_pos w_40_3]) rfl
                  · skip
                    refine g_tableOut E 94 dX0_about_40 (by have z0 := lv_neT (x := what) (k := 0) (a := 0) w_40_0 (by decide); have z1 := lv_neT (x := what) (k := 1) (a := 1) w_40_1 (by decide); have z2 := lv_neT (x := what) (k := 2) (a := 2) w_40_2 (by decide); have z3 := lv_neT (x := what) (k := 3) (a := 3) w_40_3 (by decide); omega) (by decide) ?_
                    refine g_bipush E (-2) dX0_about_94 (by decide) ?_
                    exact RET 96 _ (-2) _ dX0_about_96 rfl (by rw [r_X0_about, if_neg c_1, if_pos c_9, if_pos c_15, if_neg c_28, if_pos c_34, if_neg w_40_0, if_neg w_40_1, if_neg w_40_2, if_neg w_40_3]) rfl
          · skip
            refine g_iconst E (-1) dX0_about_37 (by decide) ?_
            exact RET 38 _ (-1) _ dX0_about_38 rfl (by rw [r_X0_about, if_neg c_1, if_pos c_9, if_pos c_15, if_neg c_28, if_neg c_34]) rfl
      · skip
        refine g_iconst E (-1) dX0_about_18 (by decide) ?_
        exact RET 19 _ (-1) _ dX0_about_19 rfl (by rw [r_X0_about, if_neg c_1, if_pos c_9, if_neg c_15]) rfl
set_option maxHeartbeats 400000 in
set_option maxRecDepth 100000 in
theorem t_X0_about (d : gD) (a : Nat → Nat) (rank : Int32) (what : Int32) (D : DD)  : gMi d yX0_about cX0_about 4 (some .int) R_X0_about [.ref (a 2), .int rank, .int what] (DK d a D) (fun r_ u_ => r_ = r_X0_about rank what D ∧ u_ = DK d a D) :=
  g_met_i RX0 rfl (by decide +kernel) (Nat.le_of_ble_eq_true rfl) [(0, .ref (a 2)), (1, .int rank), (2, .int what)] rfl (fun X E RET => s_X0_about_0 d a rank what D  E (fun pc_ lv_ v_ u_ h1_ h2_ h3_ h4_ => RET pc_ lv_ v_ u_ h1_ h2_ ⟨h3_, h4_⟩))
abbrev R_X0_becomeLike : Room := { frames := 1, cells := 0, slots := 0, locals := 19 }
def c_X0_becomeLike_0 (D : DD) (F : DD) : DD := (upd (upd (upd D.1 0 (F.1 0)) 1 (F.1 1)) 2 (F.1 2), F.2.1, F.2.2.1, F.2.2.2)
set_option maxHeartbeats 400000 in
set_option maxRecDepth 100000 in
theorem s_X0_becomeLike_0 (d : gD) (a : Nat → Nat) (b : Nat → Nat) (D : DD) (F : DD)   {X : gX} (E : gE d X RX0 cX0_becomeLike 2 R_X0_becomeLike) (RET : ∀ (pc_ : Nat) (lv_ : List (Nat × Value)) (u_ : va_W), decode cX0_becomeLike pc_ = .ok (.return_, 1) → u_ = DK d a (c_X0_becomeLike_0 D F) ++ (DK d b F) → G d X u_ R_X0_becomeLike.cells R_X0_becomeLike.slots pc_ lv_ []) : G d X (DK d a D ++ (DK d b F)) 0 0 0 [(0, .ref (a 2)), (1, .ref (b 2))] [] := by
  refine g_aload_n E 1 dX0_becomeLike_0 rfl rfl ?_
  refine g_get E (ci := 0) inlX0 4 rfl rfl 0 (by decide) fl_X0_9 rfl (.ref (b 3)) rfl dX0_becomeLike_1 ?_
  refine g_iconst E 0 dX0_becomeLike_4 (by decide) ?_
  refine g_aload_n E 0 dX0_becomeLike_5 rfl rfl ?_
  refine g_get E (ci := 0) inlX0 0 rfl rfl 0 (by decide) fl_X0_9 rfl (.ref (a 3)) rfl dX0_becomeLike_6 ?_
  refine g_iconst E 0 dX0_becomeLike_9 (by decide) ?_
  refine g_bipush E 9 dX0_becomeLike_10 (by decide) ?_
  refine g_copyAll E 5 1 rfl rfl rfl rfl rfl (by decide) ml_X0_25 (ok_le rfl) (ok_le rfl) (ws' := DK d a (D.1, F.2.1, D.2.2) ++ (DK d b F)) rfl dX0_becomeLike_12 ?_
  refine g_aload_n E 1 dX0_becomeLike_15 rfl rfl ?_
  refine g_get E (ci := 0) inlX0 4 rfl rfl 1 (by decide) fl_X0_15 rfl (.ref (b 4)) rfl dX0_becomeLike_16 ?_
  refine g_iconst E 0 dX0_becomeLike_19 (by decide) ?_
  refine g_aload_n E 0 dX0_becomeLike_20 rfl rfl ?_
  refine g_get E (ci := 0) inlX0 0 rfl rfl 1 (by decide) fl_X0_15 rfl (.ref (a 4)) rfl dX0_becomeLike_21 ?_
  refine g_iconst E 0 dX0_becomeLike_24 (by decide) ?_
  refine g_bipush E 9 dX0_becomeLike_25 (by decide) ?_
  refine g_copyAll E 6 2 rfl rfl rfl rfl rfl (by decide) ml_X0_25 (ok_le rfl) (ok_le rfl) (ws' := DK d a (D.1, F.2.1, F.2.2.1, D.2.2.2) ++ (DK d b F)) rfl dX0_becomeLike_27 ?_
  refine g_aload_n E 1 dX0_becomeLike_30 rfl rfl ?_
  refine g_get E (ci := 0) inlX0 4 rfl rfl 2 (by decide) fl_X0_18 rfl (.ref (b 5)) rfl dX0_becomeLike_31 ?_
  refine g_iconst E 0 dX0_becomeLike_34 (by decide) ?_
  refine g_aload_n E 0 dX0_becomeLike_35 rfl rfl ?_
  refine g_get E (ci := 0) inlX0 0 rfl rfl 2 (by decide) fl_X0_18 rfl (.ref (a 5)) rfl dX0_becomeLike_36 ?_
  refine g_iconst E 0 dX0_becomeLike_39 (by decide) ?_
  refine g_bipush E 9 dX0_becomeLike_40 (by decide) ?_
  refine g_copyAll E 7 3 rfl rfl rfl rfl rfl (by decide) ml_X0_25 (ok_le rfl) (ok_le rfl) (ws' := DK d a (D.1, F.2.1, F.2.2.1, F.2.2.2) ++ (DK d b F)) rfl dX0_becomeLike_42 ?_
  refine g_aload_n E 0 dX0_becomeLike_45 rfl rfl ?_
  refine g_aload_n E 1 dX0_becomeLike_46 rfl rfl ?_
  refine g_get E (ci := 0) inlX0 4 rfl rfl 3 (by decide) fl_X0_31 rfl (.int (F.1 0)) rfl dX0_becomeLike_47 ?_
  refine g_put E (ci := 0) inlX0 0 rfl rfl 3 (by decide) tyX0 tyX0_ok nmX0 fl_X0_31 rfl rfl rfl rfl (ok_lt rfl) (ws' := DK d a (upd D.1 0 (F.1 0), F.2.1, F.2.2.1, F.2.2.2) ++ (DK d b F)) rfl dX0_becomeLike_50 ?_
  refine g_aload_n E 0 dX0_becomeLike_53 rfl rfl ?_
  refine g_aload_n E 1 dX0_becomeLike_54 rfl rfl ?_
  refine g_get E (ci := 0) inlX0 4 rfl rfl 4 (by decide) fl_X0_21 rfl (.int (F.1 1)) rfl dX0_becomeLike_55 ?_
  refine g_put E (ci := 0) inlX0 0 rfl rfl 4 (by decide) tyX0 tyX0_ok nmX0 fl_X0_21 rfl rfl rfl rfl (ok_lt rfl) (ws' := DK d a (upd (upd D.1 0 (F.1 0)) 1 (F.1 1), F.2.1, F.2.2.1, F.2.2.2) ++ (DK d b F)) rfl dX0_becomeLike_58 ?_
  refine g_aload_n E 0 dX0_becomeLike_61 rfl rfl ?_
  refine g_aload_n E 1 dX0_becomeLike_62 rfl rfl ?_
  refine g_get E (ci := 0) inlX0 4 rfl rfl 5 (by decide) fl_X0_34 rfl (.int (F.1 2)) rfl dX0_becomeLike_63 ?_
  refine g_put E (ci := 0) inlX0 0 rfl rfl 5 (by decide) tyX0 tyX0_ok nmX0 fl_X0_34 rfl rfl rfl rfl (ok_lt rfl) (ws' := DK d a (upd (upd (upd D.1 0 (F.1 0)) 1 (F.1 1)) 2 (F.1 2), F.2.1, F.2.2.1, F.2.2.2) ++ (DK d b F)) rfl dX0_becomeLike_66 ?_
  exact RET 69 _ _ dX0_becomeLike_69 (by rw [c_X0_becomeLike_0])
set_option maxHeartbeats 400000 in
set_option maxRecDepth 100000 in
theorem t_X0_becomeLike (d : gD) (a : Nat → Nat) (b : Nat → Nat) (D : DD) (F : DD)  : gMv d yX0_becomeLike cX0_becomeLike 2 R_X0_becomeLike [.ref (a 2), .ref (b 2)] (DK d a D ++ (DK d b F)) (fun u_ => u_ = DK d a (c_X0_becomeLike_0 D F) ++ (DK d b F)) :=
  g_met_v RX0 rfl (by decide +kernel) (Nat.le_of_ble_eq_true rfl) [(0, .ref (a 2)), (1, .ref (b 2))] rfl (fun X E _ RET => s_X0_becomeLike_0 d a b D F  E (fun pc_ lv_ u_ h1_ h2_ => RET pc_ lv_ u_ h1_ h2_))
theorem t2_X0_becomeLike (d : gD) (a : Nat → Nat) (b : Nat → Nat) (D : DD) (F : DD) : gMv d yX0_becomeLike cX0_becomeLike 2 R_X0_becomeLike [.ref (a 2), .ref (b 2)] (DK d a D ++ (DK d b F)) (fun u_ => u_ = DK d a F ++ (DK d b F)) := t_X0_becomeLike d a b D F
end
section
theorem ix_sub10 {w : Int32} (h1 : ¬ w < 10) (h2 : w - 10 < 7) : ¬ w - 10 < 0 := by
  grind
abbrev R_X3_isButton : Room := { frames := 0, cells := 0, slots := 0, locals := 0 }
def r_X3_isButton (button : Int32) : Int32 := if button < 0 then 0 else (if button < 8 then 1 else 0)
set_option maxHeartbeats 400000 in
set_option maxRecDepth 100000 in
theorem s_X3_isButton_0 (d : gD) (button : Int32)   {X : gX} (E : gE d X RX3 cX3_isButton 1 R_X3_isButton) (RET : ∀ (pc_ : Nat) (lv_ : List (Nat × Value)) (v_ : Int32) (u_ : va_W), decode cX3_isButton pc_ = .ok (.ireturn, 1) → narrow .boolean (.int v_) = .int v_ → v_ = r_X3_isButton button → u_ = [] → G d X u_ R_X3_isButton.cells R_X3_isButton.slots pc_ lv_ [.int v_]) : G d X ([]) 0 0 0 [(0, .int button)] [] := by
  refine g_iload_n E 0 dX3_isButton_0 rfl rfl ?_
  refine g_iflt E 14 dX3_isButton_1 (by decide) (fun c_1 => ?_) (fun c_1 => ?_)
  · skip
    refine g_iconst E 0 dX3_isButton_14 (by decide) ?_
    exact RET 15 _ 0 _ dX3_isButton_15 rfl (by rw [r_X3_isButton, if_pos c_1]) rfl
  · skip
    refine g_iload_n E 0 dX3_isButton_4 rfl rfl ?_
    refine g_bipush E 8 dX3_isButton_5 (by decide) ?_
    refine g_icmpge E 14 dX3_isButton_7 (by decide) (fun c_7 => ?_) (fun c_7 => ?_)
    · skip
      refine g_iconst E 0 dX3_isButton_14 (by decide) ?_
      exact RET 15 _ 0 _ dX3_isButton_15 rfl (by rw [r_X3_isButton, if_neg c_1, if_neg c_7]) rfl
    · skip
      refine g_iconst E 1 dX3_isButton_10 (by decide) ?_
      refine g_goto E 15 dX3_isButton_11 (by decide) ?_
      exact RET 15 _ 1 _ dX3_isButton_15 rfl (by rw [r_X3_isButton, if_neg c_1, if_pos c_7]) rfl
set_option maxHeartbeats 400000 in
set_option maxRecDepth 100000 in
theorem t_X3_isButton (d : gD) (button : Int32)  : gMi d yX3_isButton cX3_isButton 1 (some .boolean) R_X3_isButton [.int button] ([]) (fun r_ u_ => r_ = r_X3_isButton button ∧ u_ = []) :=
  g_met_i RX3 rfl (by decide +kernel) (Nat.le_of_ble_eq_true rfl) [(0, .int button)] rfl (fun X E RET => s_X3_isButton_0 d button  E (fun pc_ lv_ v_ u_ h1_ h2_ h3_ h4_ => RET pc_ lv_ v_ u_ h1_ h2_ ⟨h3_, h4_⟩))
abbrev R_X3_isDown : Room := { frames := 0, cells := 0, slots := 0, locals := 0 }
def r_X3_isDown (button : Int32) (S : SS) : Int32 := if (((S.1 18) >>> (button &&& 31)) &&& 1) = 1 then 1 else 0
set_option maxHeartbeats 400000 in
set_option maxRecDepth 100000 in
theorem s_X3_isDown_0 (d : gD) (a : Nat → Nat) (button : Int32) (S : SS)   {X : gX} (E : gE d X RX3 cX3_isDown 2 R_X3_isDown) (RET : ∀ (pc_ : Nat) (lv_ : List (Nat × Value)) (v_ : Int32) (u_ : va_W), decode cX3_isDown pc_ = .ok (.ireturn, 1) → narrow .boolean (.int v_) = .int v_ → v_ = r_X3_isDown button S → u_ = SK d a S → G d X u_ R_X3_isDown.cells R_X3_isDown.slots pc_ lv_ [.int v_]) : G d X (SK d a S) 0 0 0 [(0, .ref (a 0)), (1, .int button)] [] := by
  refine g_aload_n E 0 dX3_isDown_0 rfl rfl ?_
  refine g_get E (ci := 3) inlX3 4 rfl rfl 14 (by decide) fl_X3_77 rfl (.int (S.1 18)) rfl dX3_isDown_1 ?_
  refine g_iload_n E 1 dX3_isDown_4 rfl rfl ?_
  refine g_ishr E dX3_isDown_5 ?_
  refine g_iconst E 1 dX3_isDown_6 (by decide) ?_
  refine g_iand E dX3_isDown_7 ?_
  refine g_iconst E 1 dX3_isDown_8 (by decide) ?_
  refine g_icmpne E 16 dX3_isDown_9 (by decide) (fun c_9 => ?_) (fun c_9 => ?_)
  · skip
    refine g_iconst E 0 dX3_isDown_16 (by decide) ?_
    exact RET 17 _ 0 _ dX3_isDown_17 rfl (by rw [r_X3_isDown, if_neg c_9]) rfl
  · skip
    refine g_iconst E 1 dX3_isDown_12 (by decide) ?_
    refine g_goto E 17 dX3_isDown_13 (by decide) ?_
    exact RET 17 _ 1 _ dX3_isDown_17 rfl (by rw [r_X3_isDown, if_pos c_9]) rfl
set_option maxHeartbeats 400000 in
set_option maxRecDepth 100000 in
theorem t_X3_isDown (d : gD) (a : Nat → Nat) (button : Int32) (S : SS)  : gMi d yX3_isDown cX3_isDown 2 (some .boolean) R_X3_isDown [.ref (a 0), .int button] (SK d a S) (fun r_ u_ => r_ = r_X3_isDown button S ∧ u_ = SK d a S) :=
  g_met_i RX3 rfl (by decide +kernel) (Nat.le_of_ble_eq_true rfl) [(0, .ref (a 0)), (1, .int button)] rfl (fun X E RET => s_X3_isDown_0 d a button S  E (fun pc_ lv_ v_ u_ h1_ h2_ h3_ h4_ => RET pc_ lv_ v_ u_ h1_ h2_ ⟨h3_, h4_⟩))
abbrev R_X3_refusalOfPress : Room := { frames := 1, cells := 0, slots := 0, locals := 21 }
def r_X3_refusalOfPress (button : Int32) (S : SS) : Int32 := if (r_X3_isButton button) = 0 then (-1) else (if (r_X3_isDown button S) = 0 then 0 else (-5))
set_option maxHeartbeats 400000 in
set_option maxRecDepth 100000 in
theorem s_X3_refusalOfPress_0 (d : gD) (a : Nat → Nat) (button : Int32) (S : SS)   {X : gX} (E : gE d X RX3 cX3_refusalOfPress 2 R_X3_refusalOfPress) (RET : ∀ (pc_ : Nat) (lv_ : List (Nat × Value)) (v_ : Int32) (u_ : va_W), decode cX3_refusalOfPress pc_ = .ok (.ireturn, 1) → narrow .int (.int v_) = .int v_ → v_ = r_X3_refusalOfPress button S → u_ = SK d a S → G d X u_ R_X3_refusalOfPress.cells R_X3_refusalOfPress.slots pc_ lv_ [.int v_]) : G d X (SK d a S) 0 0 0 [(0, .ref (a 0)), (1, .int button)] [] := by
  refine g_iload_n E 1 dX3_refusalOfPress_0 rfl rfl ?_
  refine g_callSp E gc_X3_isButton ml_X3_92 (t_X3_isButton d button ) rfl rfl rfl (ok_le rfl) ⟨ok_le rfl, ok_le rfl, ok_le rfl, ok_le rfl⟩ rfl rfl dX3_refusalOfPress_1 ?_
  refine g_nm (fun v1_ hv1_ => ?_)
  refine g_ifne E 9 dX3_refusalOfPress_4 (by decide) (fun c_4 => ?_) (fun c_4 => ?_)
  · skip
    refine g_aload_n E 0 dX3_refusalOfPress_9 rfl rfl ?_
    refine g_iload_n E 1 dX3_refusalOfPress_10 rfl rfl ?_
    refine g_callVi0 E gc_X3_isDown ml_X3_96 (t_X3_isDown d a button S ) rfl rfl (ci := 3) 4 rfl rfl rfl rfl (ok_le rfl) ⟨ok_le rfl, ok_le rfl, ok_le rfl, ok_le rfl⟩ rfl rfl dX3_refusalOfPress_11 ?_
    refine g_nm (fun v2_ hv2_ => ?_)
    refine g_ifeq E 22 dX3_refusalOfPress_14 (by decide) (fun c_14 => ?_) (fun c_14 => ?_)
    · skip
      refine g_iconst E 0 dX3_refusalOfPress_22 (by decide) ?_
      subst hv2_
      subst hv1_
      exact RET 23 _ 0 _ dX3_refusalOfPress_23 rfl (by rw [r_X3_refusalOfPress, if_neg c_4, if_pos c_14]) rfl
    · skip
      refine g_bipush E (-5) dX3_refusalOfPress_17 (by decide) ?_
      refine g_goto E 23 dX3_refusalOfPress_19 (by decide) ?_
      subst hv2_
      subst hv1_
      exact RET 23 _ (-5) _ dX3_refusalOfPress_23 rfl (by rw [r_X3_refusalOfPress, if_neg c_4, if_neg c_14]) rfl
  · skip
    refine g_iconst E (-1) dX3_refusalOfPress_7 (by decide) ?_
    subst hv1_
    exact RET 8 _ (-1) _ dX3_refusalOfPress_8 rfl (by rw [r_X3_refusalOfPress, if_pos c_4]) rfl
set_option maxHeartbeats 400000 in
set_option maxRecDepth 100000 in
theorem t_X3_refusalOfPress (d : gD) (a : Nat → Nat) (button : Int32) (S : SS)  : gMi d yX3_refusalOfPress cX3_refusalOfPress 2 (some .int) R_X3_refusalOfPress [.ref (a 0), .int button] (SK d a S) (fun r_ u_ => r_ = r_X3_refusalOfPress button S ∧ u_ = SK d a S) :=
  g_met_i RX3 rfl (by decide +kernel) (Nat.le_of_ble_eq_true rfl) [(0, .ref (a 0)), (1, .int button)] rfl (fun X E RET => s_X3_refusalOfPress_0 d a button S  E (fun pc_ lv_ v_ u_ h1_ h2_ h3_ h4_ => RET pc_ lv_ v_ u_ h1_ h2_ ⟨h3_, h4_⟩))
abbrev R_X3_refusalOfLetUp : Room := { frames := 1, cells := 0, slots := 0, locals := 21 }
def r_X3_refusalOfLetUp (button : Int32) (S : SS) : Int32 := if (r_X3_isButton button) = 0 then (-1) else (if (r_X3_isDown button S) = 0 then (-5) else 0)
set_option maxHeartbeats 400000 in
set_option maxRecDepth 100000 in
theorem s_X3_refusalOfLetUp_0 (d : gD) (a : Nat → Nat) (button : Int32) (S : SS)   {X : gX} (E : gE d X RX3 cX3_refusalOfLetUp 2 R_X3_refusalOfLetUp) (RET : ∀ (pc_ : Nat) (lv_ : List (Nat × Value)) (v_ : Int32) (u_ : va_W), decode cX3_refusalOfLetUp pc_ = .ok (.ireturn, 1) → narrow .int (.int v_) = .int v_ → v_ = r_X3_refusalOfLetUp button S → u_ = SK d a S → G d X u_ R_X3_refusalOfLetUp.cells R_X3_refusalOfLetUp.slots pc_ lv_ [.int v_]) : G d X (SK d a S) 0 0 0 [(0, .ref (a 0)), (1, .int button)] [] := by
  refine g_iload_n E 1 dX3_refusalOfLetUp_0 rfl rfl ?_
  refine g_callSp E gc_X3_isButton ml_X3_92 (t_X3_isButton d button ) rfl rfl rfl (ok_le rfl) ⟨ok_le rfl, ok_le rfl, ok_le rfl, ok_le rfl⟩ rfl rfl dX3_refusalOfLetUp_1 ?_
  refine g_nm (fun v1_ hv1_ => ?_)
  refine g_ifne E 9 dX3_refusalOfLetUp_4 (by decide) (fun c_4 => ?_) (fun c_4 => ?_)
  · skip
    refine g_aload_n E 0 dX3_refusalOfLetUp_9 rfl rfl ?_
    refine g_iload_n E 1 dX3_refusalOfLetUp_10 rfl rfl ?_
    refine g_callVi0 E gc_X3_isDown ml_X3_96 (t_X3_isDown d a button S ) rfl rfl (ci := 3) 4 rfl rfl rfl rfl (ok_le rfl) ⟨ok_le rfl, ok_le rfl, ok_le rfl, ok_le rfl⟩ rfl rfl dX3_refusalOfLetUp_11 ?_
    refine g_nm (fun v2_ hv2_ => ?_)
    refine g_ifeq E 21 dX3_refusalOfLetUp_14 (by decide) (fun c_14 => ?_) (fun c_14 => ?_)
    · skip
      refine g_bipush E (-5) dX3_refusalOfLetUp_21 (by decide) ?_
      subst hv2_
      subst hv1_
      exact RET 23 _ (-5) _ dX3_refusalOfLetUp_23 rfl (by rw [r_X3_refusalOfLetUp, if_neg c_4, if_pos c_14]) rfl
    · skip
      refine g_iconst E 0 dX3_refusalOfLetUp_17 (by decide) ?_
      refine g_goto E 23 dX3_refusalOfLetUp_18 (by decide) ?_
      subst hv2_
      subst hv1_
      exact RET 23 _ 0 _ dX3_refusalOfLetUp_23 rfl (by rw [r_X3_refusalOfLetUp, if_neg c_4, if_neg c_14]) rfl
  · skip
    refine g_iconst E (-1) dX3_refusalOfLetUp_7 (by decide) ?_
    subst hv1_
    exact RET 8 _ (-1) _ dX3_refusalOfLetUp_8 rfl (by rw [r_X3_refusalOfLetUp, if_pos c_4]) rfl
set_option maxHeartbeats 400000 in
set_option maxRecDepth 100000 in
theorem t_X3_refusalOfLetUp (d : gD) (a : Nat → Nat) (button : Int32) (S : SS)  : gMi d yX3_refusalOfLetUp cX3_refusalOfLetUp 2 (some .int) R_X3_refusalOfLetUp [.ref (a 0), .int button] (SK d a S) (fun r_ u_ => r_ = r_X3_refusalOfLetUp button S ∧ u_ = SK d a S) :=
  g_met_i RX3 rfl (by decide +kernel) (Nat.le_of_ble_eq_true rfl) [(0, .ref (a 0)), (1, .int button)] rfl (fun X E RET => s_X3_refusalOfLetUp_0 d a button S  E (fun pc_ lv_ v_ u_ h1_ h2_ h3_ h4_ => RET pc_ lv_ v_ u_ h1_ h2_ ⟨h3_, h4_⟩))
abbrev R_X3_pushDown : Room := { frames := 0, cells := 0, slots := 0, locals := 0 }
def r_X3_pushDown (button : Int32) (S : SS) : Int32 := ((S.1 18) ||| (1 <<< (button &&& 31)))
def c_X3_pushDown (button : Int32) (S : SS) : SS := (upd (upd S.1 18 ((S.1 18) ||| (1 <<< (button &&& 31)))) 13 (S.2.1 6), S.2)
set_option maxHeartbeats 400000 in
set_option maxRecDepth 100000 in
theorem s_X3_pushDown_0 (d : gD) (a : Nat → Nat) (button : Int32) (S : SS)   {X : gX} (E : gE d X RX3 cX3_pushDown 2 R_X3_pushDown) (RET : ∀ (pc_ : Nat) (lv_ : List (Nat × Value)) (v_ : Int32) (u_ : va_W), decode cX3_pushDown pc_ = .ok (.ireturn, 1) → narrow .int (.int v_) = .int v_ → v_ = r_X3_pushDown button S → u_ = SK d a (c_X3_pushDown button S) → G d X u_ R_X3_pushDown.cells R_X3_pushDown.slots pc_ lv_ [.int v_]) : G d X (SK d a S) 0 0 0 [(0, .ref (a 0)), (1, .int button)] [] := by
  refine g_aload_n E 0 dX3_pushDown_0 rfl rfl ?_
  refine g_dup E dX3_pushDown_1 rfl ?_
  refine g_get E (ci := 3) inlX3 4 rfl rfl 14 (by decide) fl_X3_77 rfl (.int (S.1 18)) rfl dX3_pushDown_2 ?_
  refine g_iconst E 1 dX3_pushDown_5 (by decide) ?_
  refine g_iload_n E 1 dX3_pushDown_6 rfl rfl ?_
  refine g_ishl E dX3_pushDown_7 ?_
  refine g_ior E dX3_pushDown_8 ?_
  refine g_put E (ci := 3) inlX3 4 rfl rfl 14 (by decide) tyX3 tyX3_ok nmX3 fl_X3_77 rfl rfl rfl rfl (ok_lt rfl) (ws' := SK d a (upd S.1 18 ((S.1 18) ||| (1 <<< (button &&& 31))), S.2)) rfl dX3_pushDown_9 ?_
  refine g_aload_n E 0 dX3_pushDown_12 rfl rfl ?_
  refine g_aload_n E 0 dX3_pushDown_13 rfl rfl ?_
  refine g_get E (ci := 3) inlX3 4 rfl rfl 0 (by decide) fl_X3_18 rfl (.ref (a 1)) rfl dX3_pushDown_14 ?_
  refine g_bipush E 6 dX3_pushDown_17 (by decide) ?_
  refine g_iald E 5 rfl rfl 6 rfl (by decide) (by decide) dX3_pushDown_19 ?_
  refine g_put E (ci := 3) inlX3 4 rfl rfl 10 (by decide) tyX3 tyX3_ok nmX3 fl_X3_65 rfl rfl rfl rfl (ok_lt rfl) (ws' := SK d a (upd (upd S.1 18 ((S.1 18) ||| (1 <<< (button &&& 31)))) 13 (S.2.1 6), S.2)) rfl dX3_pushDown_20 ?_
  refine g_aload_n E 0 dX3_pushDown_23 rfl rfl ?_
  refine g_get E (ci := 3) inlX3 4 rfl rfl 14 (by decide) fl_X3_77 rfl (.int ((S.1 18) ||| (1 <<< (button &&& 31)))) rfl dX3_pushDown_24 ?_
  exact RET 27 _ ((S.1 18) ||| (1 <<< (button &&& 31))) _ dX3_pushDown_27 rfl (by rw [r_X3_pushDown]) (by rw [c_X3_pushDown])
set_option maxHeartbeats 400000 in
set_option maxRecDepth 100000 in
theorem t_X3_pushDown (d : gD) (a : Nat → Nat) (button : Int32) (S : SS)  : gMi d yX3_pushDown cX3_pushDown 2 (some .int) R_X3_pushDown [.ref (a 0), .int button] (SK d a S) (fun r_ u_ => r_ = r_X3_pushDown button S ∧ u_ = SK d a (c_X3_pushDown button S)) :=
  g_met_i RX3 rfl (by decide +kernel) (Nat.le_of_ble_eq_true rfl) [(0, .ref (a 0)), (1, .int button)] rfl (fun X E RET => s_X3_pushDown_0 d a button S  E (fun pc_ lv_ v_ u_ h1_ h2_ h3_ h4_ => RET pc_ lv_ v_ u_ h1_ h2_ ⟨h3_, h4_⟩))
abbrev R_X3_release : Room := { frames := 0, cells := 0, slots := 0, locals := 0 }
def r_X3_release (button : Int32) (S : SS) : Int32 := ((S.1 18) &&& ((1 <<< (button &&& 31)) ^^^ (-1)))
def c_X3_release (button : Int32) (S : SS) : SS := (upd S.1 18 ((S.1 18) &&& ((1 <<< (button &&& 31)) ^^^ (-1))), S.2)
set_option maxHeartbeats 400000 in
set_option maxRecDepth 100000 in
theorem s_X3_release_0 (d : gD) (a : Nat → Nat) (button : Int32) (S : SS)   {X : gX} (E : gE d X RX3 cX3_release 2 R_X3_release) (RET : ∀ (pc_ : Nat) (lv_ : List (Nat × Value)) (v_ : Int32) (u_ : va_W), decode cX3_release pc_ = .ok (.ireturn, 1) → narrow .int (.int v_) = .int v_ → v_ = r_X3_release button S → u_ = SK d a (c_X3_release button S) → G d X u_ R_X3_release.cells R_X3_release.slots pc_ lv_ [.int v_]) : G d X (SK d a S) 0 0 0 [(0, .ref (a 0)), (1, .int button)] [] := by
  refine g_aload_n E 0 dX3_release_0 rfl rfl ?_
  refine g_dup E dX3_release_1 rfl ?_
  refine g_get E (ci := 3) inlX3 4 rfl rfl 14 (by decide) fl_X3_77 rfl (.int (S.1 18)) rfl dX3_release_2 ?_
  refine g_iconst E 1 dX3_release_5 (by decide) ?_
  refine g_iload_n E 1 dX3_release_6 rfl rfl ?_
  refine g_ishl E dX3_release_7 ?_
  refine g_iconst E (-1) dX3_release_8 (by decide) ?_
  refine g_ixor E dX3_release_9 ?_
  refine g_iand E dX3_release_10 ?_
  refine g_put E (ci := 3) inlX3 4 rfl rfl 14 (by decide) tyX3 tyX3_ok nmX3 fl_X3_77 rfl rfl rfl rfl (ok_lt rfl) (ws' := SK d a (upd S.1 18 ((S.1 18) &&& ((1 <<< (button &&& 31)) ^^^ (-1))), S.2)) rfl dX3_release_11 ?_
  refine g_aload_n E 0 dX3_release_14 rfl rfl ?_
  refine g_get E (ci := 3) inlX3 4 rfl rfl 14 (by decide) fl_X3_77 rfl (.int ((S.1 18) &&& ((1 <<< (button &&& 31)) ^^^ (-1)))) rfl dX3_release_15 ?_
  exact RET 18 _ ((S.1 18) &&& ((1 <<< (button &&& 31)) ^^^ (-1))) _ dX3_release_18 rfl (by rw [r_X3_release]) (by rw [c_X3_release])
set_option maxHeartbeats 400000 in
set_option maxRecDepth 100000 in
theorem t_X3_release (d : gD) (a : Nat → Nat) (button : Int32) (S : SS)  : gMi d yX3_release cX3_release 2 (some .int) R_X3_release [.ref (a 0), .int button] (SK d a S) (fun r_ u_ => r_ = r_X3_release button S ∧ u_ = SK d a (c_X3_release button S)) :=
  g_met_i RX3 rfl (by decide +kernel) (Nat.le_of_ble_eq_true rfl) [(0, .ref (a 0)), (1, .int button)] rfl (fun X E RET => s_X3_release_0 d a button S  E (fun pc_ lv_ v_ u_ h1_ h2_ h3_ h4_ => RET pc_ lv_ v_ u_ h1_ h2_ ⟨h3_, h4_⟩))
abbrev R_X3_refusalOfSamples : Room := { frames := 1, cells := 0, slots := 0, locals := 21 }
def r_X3_refusalOfSamples (x : Int32) (y : Int32) (many : Int32) (S : SS) : Int32 := if (r_X4_isSample x y) = 0 then (-2) else (if 9999 < ((S.1 21) + many) then (-5) else 0)
set_option maxHeartbeats 400000 in
set_option maxRecDepth 100000 in
theorem s_X3_refusalOfSamples_0 (d : gD) (a : Nat → Nat) (x : Int32) (y : Int32) (many : Int32) (S : SS)   {X : gX} (E : gE d X RX3 cX3_refusalOfSamples 4 R_X3_refusalOfSamples) (RET : ∀ (pc_ : Nat) (lv_ : List (Nat × Value)) (v_ : Int32) (u_ : va_W), decode cX3_refusalOfSamples pc_ = .ok (.ireturn, 1) → narrow .int (.int v_) = .int v_ → v_ = r_X3_refusalOfSamples x y many S → u_ = SK d a S → G d X u_ R_X3_refusalOfSamples.cells R_X3_refusalOfSamples.slots pc_ lv_ [.int v_]) : G d X (SK d a S) 0 0 0 [(0, .ref (a 0)), (1, .int x), (2, .int y), (3, .int many)] [] := by
  refine g_iload_n E 1 dX3_refusalOfSamples_0 rfl rfl ?_
  refine g_iload_n E 2 dX3_refusalOfSamples_1 rfl rfl ?_
  refine g_callSNp E gc_X4_isSample (List.mem_of_getElem? (i := 10) rfl) (t_X4_isSample d x y ) rfl rfl rfl (ok_le rfl) ⟨ok_le rfl, ok_le rfl, ok_le rfl, ok_le rfl⟩ rfl rfl dX3_refusalOfSamples_2 ?_
  refine g_nm (fun v1_ hv1_ => ?_)
  refine g_ifne E 11 dX3_refusalOfSamples_5 (by decide) (fun c_5 => ?_) (fun c_5 => ?_)
  · skip
    refine g_aload_n E 0 dX3_refusalOfSamples_11 rfl rfl ?_
    refine g_get E (ci := 3) inlX3 4 rfl rfl 11 (by decide) fl_X3_68 rfl (.int (S.1 21)) rfl dX3_refusalOfSamples_12 ?_
    refine g_iload_n E 3 dX3_refusalOfSamples_15 rfl rfl ?_
    refine g_iadd E dX3_refusalOfSamples_16 ?_
    refine g_sipush E 9999 dX3_refusalOfSamples_17 (by decide) ?_
    refine g_icmple E 28 dX3_refusalOfSamples_20 (by decide) (fun c_20 => ?_) (fun c_20 => ?_)
    · skip
      refine g_iconst E 0 dX3_refusalOfSamples_28 (by decide) ?_
      subst hv1_
      exact RET 29 _ 0 _ dX3_refusalOfSamples_29 rfl (by rw [r_X3_refusalOfSamples, if_neg c_5, if_neg c_20]) rfl
    · skip
      refine g_bipush E (-5) dX3_refusalOfSamples_23 (by decide) ?_
      refine g_goto E 29 dX3_refusalOfSamples_25 (by decide) ?_
      subst hv1_
      exact RET 29 _ (-5) _ dX3_refusalOfSamples_29 rfl (by rw [r_X3_refusalOfSamples, if_neg c_5, if_pos c_20]) rfl
  · skip
    refine g_bipush E (-2) dX3_refusalOfSamples_8 (by decide) ?_
    subst hv1_
    exact RET 10 _ (-2) _ dX3_refusalOfSamples_10 rfl (by rw [r_X3_refusalOfSamples, if_pos c_5]) rfl
set_option maxHeartbeats 400000 in
set_option maxRecDepth 100000 in
theorem t_X3_refusalOfSamples (d : gD) (a : Nat → Nat) (x : Int32) (y : Int32) (many : Int32) (S : SS)  : gMi d yX3_refusalOfSamples cX3_refusalOfSamples 4 (some .int) R_X3_refusalOfSamples [.ref (a 0), .int x, .int y, .int many] (SK d a S) (fun r_ u_ => r_ = r_X3_refusalOfSamples x y many S ∧ u_ = SK d a S) :=
  g_met_i RX3 rfl (by decide +kernel) (Nat.le_of_ble_eq_true rfl) [(0, .ref (a 0)), (1, .int x), (2, .int y), (3, .int many)] rfl (fun X E RET => s_X3_refusalOfSamples_0 d a x y many S  E (fun pc_ lv_ v_ u_ h1_ h2_ h3_ h4_ => RET pc_ lv_ v_ u_ h1_ h2_ ⟨h3_, h4_⟩))
abbrev R_X3_restPlaceX : Room := { frames := 0, cells := 0, slots := 0, locals := 0 }
def r_X3_restPlaceX (S : SS) : Int32 := ((S.1 7) / 16)
set_option maxHeartbeats 400000 in
set_option maxRecDepth 100000 in
theorem s_X3_restPlaceX_0 (d : gD) (a : Nat → Nat) (S : SS)   {X : gX} (E : gE d X RX3 cX3_restPlaceX 1 R_X3_restPlaceX) (RET : ∀ (pc_ : Nat) (lv_ : List (Nat × Value)) (v_ : Int32) (u_ : va_W), decode cX3_restPlaceX pc_ = .ok (.ireturn, 1) → narrow .int (.int v_) = .int v_ → v_ = r_X3_restPlaceX S → u_ = SK d a S → G d X u_ R_X3_restPlaceX.cells R_X3_restPlaceX.slots pc_ lv_ [.int v_]) : G d X (SK d a S) 0 0 0 [(0, .ref (a 0))] [] := by
  refine g_aload_n E 0 dX3_restPlaceX_0 rfl rfl ?_
  refine g_get E (ci := 3) inlX3 4 rfl rfl 2 (by decide) fl_X3_30 rfl (.int (S.1 7)) rfl dX3_restPlaceX_1 ?_
  refine g_bipush E 16 dX3_restPlaceX_4 (by decide) ?_
  refine g_idiv E dX3_restPlaceX_6 (by decide) ?_
  exact RET 7 _ ((S.1 7) / 16) _ dX3_restPlaceX_7 rfl (by rw [r_X3_restPlaceX]) rfl
set_option maxHeartbeats 400000 in
set_option maxRecDepth 100000 in
theorem t_X3_restPlaceX (d : gD) (a : Nat → Nat) (S : SS)  : gMi d yX3_restPlaceX cX3_restPlaceX 1 (some .int) R_X3_restPlaceX [.ref (a 0)] (SK d a S) (fun r_ u_ => r_ = r_X3_restPlaceX S ∧ u_ = SK d a S) :=
  g_met_i RX3 rfl (by decide +kernel) (Nat.le_of_ble_eq_true rfl) [(0, .ref (a 0))] rfl (fun X E RET => s_X3_restPlaceX_0 d a S  E (fun pc_ lv_ v_ u_ h1_ h2_ h3_ h4_ => RET pc_ lv_ v_ u_ h1_ h2_ ⟨h3_, h4_⟩))
abbrev R_X3_restPlaceY : Room := { frames := 0, cells := 0, slots := 0, locals := 0 }
def r_X3_restPlaceY (S : SS) : Int32 := ((S.1 8) / 16)
set_option maxHeartbeats 400000 in
set_option maxRecDepth 100000 in
theorem s_X3_restPlaceY_0 (d : gD) (a : Nat → Nat) (S : SS)   {X : gX} (E : gE d X RX3 cX3_restPlaceY 1 R_X3_restPlaceY) (RET : ∀ (pc_ : Nat) (lv_ : List (Nat × Value)) (v_ : Int32) (u_ : va_W), decode cX3_restPlaceY pc_ = .ok (.ireturn, 1) → narrow .int (.int v_) = .int v_ → v_ = r_X3_restPlaceY S → u_ = SK d a S → G d X u_ R_X3_restPlaceY.cells R_X3_restPlaceY.slots pc_ lv_ [.int v_]) : G d X (SK d a S) 0 0 0 [(0, .ref (a 0))] [] := by
  refine g_aload_n E 0 dX3_restPlaceY_0 rfl rfl ?_
  refine g_get E (ci := 3) inlX3 4 rfl rfl 3 (by decide) fl_X3_34 rfl (.int (S.1 8)) rfl dX3_restPlaceY_1 ?_
  refine g_bipush E 16 dX3_restPlaceY_4 (by decide) ?_
  refine g_idiv E dX3_restPlaceY_6 (by decide) ?_
  exact RET 7 _ ((S.1 8) / 16) _ dX3_restPlaceY_7 rfl (by rw [r_X3_restPlaceY]) rfl
set_option maxHeartbeats 400000 in
set_option maxRecDepth 100000 in
theorem t_X3_restPlaceY (d : gD) (a : Nat → Nat) (S : SS)  : gMi d yX3_restPlaceY cX3_restPlaceY 1 (some .int) R_X3_restPlaceY [.ref (a 0)] (SK d a S) (fun r_ u_ => r_ = r_X3_restPlaceY S ∧ u_ = SK d a S) :=
  g_met_i RX3 rfl (by decide +kernel) (Nat.le_of_ble_eq_true rfl) [(0, .ref (a 0))] rfl (fun X E RET => s_X3_restPlaceY_0 d a S  E (fun pc_ lv_ v_ u_ h1_ h2_ h3_ h4_ => RET pc_ lv_ v_ u_ h1_ h2_ ⟨h3_, h4_⟩))
abbrev R_X3_isOffByNothing : Room := { frames := 1, cells := 0, slots := 0, locals := 20 }
def r_X3_isOffByNothing (x : Int32) (y : Int32) (S : SS) : Int32 := if x = (r_X3_restPlaceX S) then (if y = (r_X3_restPlaceY S) then 1 else 0) else 0
set_option maxHeartbeats 400000 in
set_option maxRecDepth 100000 in
theorem s_X3_isOffByNothing_0 (d : gD) (a : Nat → Nat) (x : Int32) (y : Int32) (S : SS)   {X : gX} (E : gE d X RX3 cX3_isOffByNothing 3 R_X3_isOffByNothing) (RET : ∀ (pc_ : Nat) (lv_ : List (Nat × Value)) (v_ : Int32) (u_ : va_W), decode cX3_isOffByNothing pc_ = .ok (.ireturn, 1) → narrow .boolean (.int v_) = .int v_ → v_ = r_X3_isOffByNothing x y S → u_ = SK d a S → G d X u_ R_X3_isOffByNothing.cells R_X3_isOffByNothing.slots pc_ lv_ [.int v_]) : G d X (SK d a S) 0 0 0 [(0, .ref (a 0)), (1, .int x), (2, .int y)] [] := by
  refine g_iload_n E 1 dX3_isOffByNothing_0 rfl rfl ?_
  refine g_aload_n E 0 dX3_isOffByNothing_1 rfl rfl ?_
  refine g_callVi0 E gc_X3_restPlaceX ml_X3_103 (t_X3_restPlaceX d a S ) rfl rfl (ci := 3) 4 rfl rfl rfl rfl (ok_le rfl) ⟨ok_le rfl, ok_le rfl, ok_le rfl, ok_le rfl⟩ rfl rfl dX3_isOffByNothing_2 ?_
  refine g_nm (fun v1_ hv1_ => ?_)
  refine g_icmpne E 20 dX3_isOffByNothing_5 (by decide) (fun c_5 => ?_) (fun c_5 => ?_)
  · skip
    refine g_iconst E 0 dX3_isOffByNothing_20 (by decide) ?_
    subst hv1_
    exact RET 21 _ 0 _ dX3_isOffByNothing_21 rfl (by rw [r_X3_isOffByNothing, if_neg c_5]) rfl
  · skip
    refine g_iload_n E 2 dX3_isOffByNothing_8 rfl rfl ?_
    refine g_aload_n E 0 dX3_isOffByNothing_9 rfl rfl ?_
    refine g_callVi0 E gc_X3_restPlaceY ml_X3_107 (t_X3_restPlaceY d a S ) rfl rfl (ci := 3) 4 rfl rfl rfl rfl (ok_le rfl) ⟨ok_le rfl, ok_le rfl, ok_le rfl, ok_le rfl⟩ rfl rfl dX3_isOffByNothing_10 ?_
    refine g_nm (fun v2_ hv2_ => ?_)
    refine g_icmpne E 20 dX3_isOffByNothing_13 (by decide) (fun c_13 => ?_) (fun c_13 => ?_)
    · skip
      refine g_iconst E 0 dX3_isOffByNothing_20 (by decide) ?_
      subst hv2_
      subst hv1_
      exact RET 21 _ 0 _ dX3_isOffByNothing_21 rfl (by rw [r_X3_isOffByNothing, if_pos c_5, if_neg c_13]) rfl
    · skip
      refine g_iconst E 1 dX3_isOffByNothing_16 (by decide) ?_
      refine g_goto E 21 dX3_isOffByNothing_17 (by decide) ?_
      subst hv2_
      subst hv1_
      exact RET 21 _ 1 _ dX3_isOffByNothing_21 rfl (by rw [r_X3_isOffByNothing, if_pos c_5, if_pos c_13]) rfl
set_option maxHeartbeats 400000 in
set_option maxRecDepth 100000 in
theorem t_X3_isOffByNothing (d : gD) (a : Nat → Nat) (x : Int32) (y : Int32) (S : SS)  : gMi d yX3_isOffByNothing cX3_isOffByNothing 3 (some .boolean) R_X3_isOffByNothing [.ref (a 0), .int x, .int y] (SK d a S) (fun r_ u_ => r_ = r_X3_isOffByNothing x y S ∧ u_ = SK d a S) :=
  g_met_i RX3 rfl (by decide +kernel) (Nat.le_of_ble_eq_true rfl) [(0, .ref (a 0)), (1, .int x), (2, .int y)] rfl (fun X E RET => s_X3_isOffByNothing_0 d a x y S  E (fun pc_ lv_ v_ u_ h1_ h2_ h3_ h4_ => RET pc_ lv_ v_ u_ h1_ h2_ ⟨h3_, h4_⟩))
abbrev R_X3_farthestOff : Room := { frames := 1, cells := 0, slots := 0, locals := 14 }
def r_X3_farthestOff (x : Int32) (y : Int32) (S : SS) : Int32 := (imax (iabs (x - ((S.1 7) / 16))) (iabs (y - ((S.1 8) / 16))))
set_option maxHeartbeats 400000 in
set_option maxRecDepth 100000 in
theorem s_X3_farthestOff_0 (d : gD) (a : Nat → Nat) (x : Int32) (y : Int32) (S : SS)   {X : gX} (E : gE d X RX3 cX3_farthestOff 3 R_X3_farthestOff) (RET : ∀ (pc_ : Nat) (lv_ : List (Nat × Value)) (v_ : Int32) (u_ : va_W), decode cX3_farthestOff pc_ = .ok (.ireturn, 1) → narrow .int (.int v_) = .int v_ → v_ = r_X3_farthestOff x y S → u_ = SK d a S → G d X u_ R_X3_farthestOff.cells R_X3_farthestOff.slots pc_ lv_ [.int v_]) : G d X (SK d a S) 0 0 0 [(0, .ref (a 0)), (1, .int x), (2, .int y)] [] := by
  refine g_iload_n E 1 dX3_farthestOff_0 rfl rfl ?_
  refine g_aload_n E 0 dX3_farthestOff_1 rfl rfl ?_
  refine g_get E (ci := 3) inlX3 4 rfl rfl 2 (by decide) fl_X3_30 rfl (.int (S.1 7)) rfl dX3_farthestOff_2 ?_
  refine g_bipush E 16 dX3_farthestOff_5 (by decide) ?_
  refine g_idiv E dX3_farthestOff_7 (by decide) ?_
  refine g_isub E dX3_farthestOff_8 ?_
  refine g_abs E ml_X3_86 (ok_le rfl) (ok_le rfl) (ok_le rfl) (ok_le rfl) dX3_farthestOff_9 ?_
  refine g_top (b := iabs (x - ((S.1 7) / 16))) rfl ?_
  refine g_iload_n E 2 dX3_farthestOff_12 rfl rfl ?_
  refine g_aload_n E 0 dX3_farthestOff_13 rfl rfl ?_
  refine g_get E (ci := 3) inlX3 4 rfl rfl 3 (by decide) fl_X3_34 rfl (.int (S.1 8)) rfl dX3_farthestOff_14 ?_
  refine g_bipush E 16 dX3_farthestOff_17 (by decide) ?_
  refine g_idiv E dX3_farthestOff_19 (by decide) ?_
  refine g_isub E dX3_farthestOff_20 ?_
  refine g_abs E ml_X3_86 (ok_le rfl) (ok_le rfl) (ok_le rfl) (ok_le rfl) dX3_farthestOff_21 ?_
  refine g_top (b := iabs (y - ((S.1 8) / 16))) rfl ?_
  refine g_max E ml_X3_110 (ok_le rfl) (ok_le rfl) (ok_le rfl) (ok_le rfl) dX3_farthestOff_24 ?_
  refine g_top (b := imax (iabs (x - ((S.1 7) / 16))) (iabs (y - ((S.1 8) / 16)))) rfl ?_
  exact RET 27 _ (imax (iabs (x - ((S.1 7) / 16))) (iabs (y - ((S.1 8) / 16)))) _ dX3_farthestOff_27 rfl (by rw [r_X3_farthestOff]) rfl
set_option maxHeartbeats 400000 in
set_option maxRecDepth 100000 in
theorem t_X3_farthestOff (d : gD) (a : Nat → Nat) (x : Int32) (y : Int32) (S : SS)  : gMi d yX3_farthestOff cX3_farthestOff 3 (some .int) R_X3_farthestOff [.ref (a 0), .int x, .int y] (SK d a S) (fun r_ u_ => r_ = r_X3_farthestOff x y S ∧ u_ = SK d a S) :=
  g_met_i RX3 rfl (by decide +kernel) (Nat.le_of_ble_eq_true rfl) [(0, .ref (a 0)), (1, .int x), (2, .int y)] rfl (fun X E RET => s_X3_farthestOff_0 d a x y S  E (fun pc_ lv_ v_ u_ h1_ h2_ h3_ h4_ => RET pc_ lv_ v_ u_ h1_ h2_ ⟨h3_, h4_⟩))
end
section
abbrev R_X3_stillWith : Room := { frames := 1, cells := 0, slots := 0, locals := 13 }
def j_X3_stillWith_38_s0 (x : Int32) (y : Int32) (S : SS) : Int32 := if 0 < (S.1 21) then (if 1 < (iabs (x - (S.1 10))) then 0 else (if 1 < (iabs (y - (S.1 11))) then 0 else 1)) else 0
def r_X3_stillWith_at38 (x : Int32) (y : Int32) (S : SS) : Int32 := if (j_X3_stillWith_38_s0 x y S) = 0 then 0 else ((S.1 12) + 1)
def r_X3_stillWith (x : Int32) (y : Int32) (S : SS) : Int32 := r_X3_stillWith_at38 x y S
set_option maxHeartbeats 400000 in
set_option maxRecDepth 100000 in
theorem s_X3_stillWith_38 (d : gD) (a : Nat → Nat) (x : Int32) (y : Int32) (S : SS)   {X : gX} (E : gE d X RX3 cX3_stillWith 4 R_X3_stillWith) (RET : ∀ (pc_ : Nat) (lv_ : List (Nat × Value)) (v_ : Int32) (u_ : va_W), decode cX3_stillWith pc_ = .ok (.ireturn, 1) → narrow .int (.int v_) = .int v_ → v_ = r_X3_stillWith_at38 x y S → u_ = SK d a S → G d X u_ R_X3_stillWith.cells R_X3_stillWith.slots pc_ lv_ [.int v_]) : G d X (SK d a S) 0 0 38 [(0, .ref (a 0)), (1, .int x), (2, .int y)] [.int (j_X3_stillWith_38_s0 x y S)] := by
  obtain ⟨J1_, hJ1_⟩ : ∃ z, z = j_X3_stillWith_38_s0 x y S := ⟨_, rfl⟩
  rw [← hJ1_]
  refine g_istore_n E (lv' := [(3, .int J1_), (0, .ref (a 0)), (1, .int x), (2, .int y)]) dX3_stillWith_38 rfl (by decide) rfl ?_
  refine g_iload_n E 0 dX3_stillWith_39 rfl rfl ?_
  refine g_ifeq E 52 dX3_stillWith_40 (by decide) (fun c_40 => ?_) (fun c_40 => ?_)
  · skip
    refine g_iconst E 0 dX3_stillWith_52 (by decide) ?_
    subst hJ1_
    exact RET 53 _ 0 _ dX3_stillWith_53 rfl (by rw [r_X3_stillWith_at38, if_pos c_40]) rfl
  · skip
    refine g_aload_n E 1 dX3_stillWith_43 rfl rfl ?_
    refine g_get E (ci := 3) inlX3 4 rfl rfl 9 (by decide) fl_X3_62 rfl (.int (S.1 12)) rfl dX3_stillWith_44 ?_
    refine g_iconst E 1 dX3_stillWith_47 (by decide) ?_
    refine g_iadd E dX3_stillWith_48 ?_
    refine g_goto E 53 dX3_stillWith_49 (by decide) ?_
    subst hJ1_
    exact RET 53 _ ((S.1 12) + 1) _ dX3_stillWith_53 rfl (by rw [r_X3_stillWith_at38, if_neg c_40]) rfl
set_option maxHeartbeats 400000 in
set_option maxRecDepth 100000 in
theorem s_X3_stillWith_0 (d : gD) (a : Nat → Nat) (x : Int32) (y : Int32) (S : SS)   {X : gX} (E : gE d X RX3 cX3_stillWith 4 R_X3_stillWith) (RET : ∀ (pc_ : Nat) (lv_ : List (Nat × Value)) (v_ : Int32) (u_ : va_W), decode cX3_stillWith pc_ = .ok (.ireturn, 1) → narrow .int (.int v_) = .int v_ → v_ = r_X3_stillWith x y S → u_ = SK d a S → G d X u_ R_X3_stillWith.cells R_X3_stillWith.slots pc_ lv_ [.int v_]) : G d X (SK d a S) 0 0 0 [(0, .ref (a 0)), (1, .int x), (2, .int y)] [] := by
  refine g_aload_n E 0 dX3_stillWith_0 rfl rfl ?_
  refine g_get E (ci := 3) inlX3 4 rfl rfl 11 (by decide) fl_X3_68 rfl (.int (S.1 21)) rfl dX3_stillWith_1 ?_
  refine g_ifle E 37 dX3_stillWith_4 (by decide) (fun c_4 => ?_) (fun c_4 => ?_)
  · skip
    refine g_iconst E 0 dX3_stillWith_37 (by decide) ?_
    have J := s_X3_stillWith_38 d a x y S   E (fun pc_ lv_ v_ u_ h1_ h2_ h3_ h4_ => RET pc_ lv_ v_ u_ h1_ h2_ (h3_.trans (by rw [r_X3_stillWith])) h4_)
    rw [j_X3_stillWith_38_s0, if_neg c_4] at J
    exact J
  · skip
    refine g_iload_n E 1 dX3_stillWith_7 rfl rfl ?_
    refine g_aload_n E 0 dX3_stillWith_8 rfl rfl ?_
    refine g_get E (ci := 3) inlX3 4 rfl rfl 7 (by decide) fl_X3_56 rfl (.int (S.1 10)) rfl dX3_stillWith_9 ?_
    refine g_isub E dX3_stillWith_12 ?_
    refine g_abs E ml_X3_86 (ok_le rfl) (ok_le rfl) (ok_le rfl) (ok_le rfl) dX3_stillWith_13 ?_
    refine g_top (b := iabs (x - (S.1 10))) rfl ?_
    refine g_iconst E 1 dX3_stillWith_16 (by decide) ?_
    refine g_icmpgt E 37 dX3_stillWith_17 (by decide) (fun c_17 => ?_) (fun c_17 => ?_)
    · skip
      refine g_iconst E 0 dX3_stillWith_37 (by decide) ?_
      have J := s_X3_stillWith_38 d a x y S   E (fun pc_ lv_ v_ u_ h1_ h2_ h3_ h4_ => RET pc_ lv_ v_ u_ h1_ h2_ (h3_.trans (by rw [r_X3_stillWith])) h4_)
      rw [j_X3_stillWith_38_s0, if_pos c_4, if_pos c_17] at J
      exact J
    · skip
      refine g_iload_n E 2 dX3_stillWith_20 rfl rfl ?_
      refine g_aload_n E 0 dX3_stillWith_21 rfl rfl ?_
      refine g_get E (ci := 3) inlX3 4 rfl rfl 8 (by decide) fl_X3_59 rfl (.int (S.1 11)) rfl dX3_stillWith_22 ?_
      refine g_isub E dX3_stillWith_25 ?_
      refine g_abs E ml_X3_86 (ok_le rfl) (ok_le rfl) (ok_le rfl) (ok_le rfl) dX3_stillWith_26 ?_
      refine g_top (b := iabs (y - (S.1 11))) rfl ?_
      refine g_iconst E 1 dX3_stillWith_29 (by decide) ?_
      refine g_icmpgt E 37 dX3_stillWith_30 (by decide) (fun c_30 => ?_) (fun c_30 => ?_)
      · skip
        refine g_iconst E 0 dX3_stillWith_37 (by decide) ?_
        have J := s_X3_stillWith_38 d a x y S   E (fun pc_ lv_ v_ u_ h1_ h2_ h3_ h4_ => RET pc_ lv_ v_ u_ h1_ h2_ (h3_.trans (by rw [r_X3_stillWith])) h4_)
        rw [j_X3_stillWith_38_s0, if_pos c_4, if_neg c_17, if_pos c_30] at J
        exact J
      · skip
        refine g_iconst E 1 dX3_stillWith_33 (by decide) ?_
        refine g_goto E 38 dX3_stillWith_34 (by decide) ?_
        have J := s_X3_stillWith_38 d a x y S   E (fun pc_ lv_ v_ u_ h1_ h2_ h3_ h4_ => RET pc_ lv_ v_ u_ h1_ h2_ (h3_.trans (by rw [r_X3_stillWith])) h4_)
        rw [j_X3_stillWith_38_s0, if_pos c_4, if_neg c_17, if_neg c_30] at J
        exact J
set_option maxHeartbeats 400000 in
set_option maxRecDepth 100000 in
theorem t_X3_stillWith (d : gD) (a : Nat → Nat) (x : Int32) (y : Int32) (S : SS)  : gMi d yX3_stillWith cX3_stillWith 4 (some .int) R_X3_stillWith [.ref (a 0), .int x, .int y] (SK d a S) (fun r_ u_ => r_ = r_X3_stillWith x y S ∧ u_ = SK d a S) :=
  g_met_i RX3 rfl (by decide +kernel) (Nat.le_of_ble_eq_true rfl) [(0, .ref (a 0)), (1, .int x), (2, .int y)] rfl (fun X E RET => s_X3_stillWith_0 d a x y S  E (fun pc_ lv_ v_ u_ h1_ h2_ h3_ h4_ => RET pc_ lv_ v_ u_ h1_ h2_ ⟨h3_, h4_⟩))
abbrev R_X3_wouldDrift : Room := { frames := 2, cells := 0, slots := 0, locals := 36 }
def r_X3_wouldDrift (x : Int32) (y : Int32) (S : SS) : Int32 := if (S.1 13) = 0 then (if (S.1 9) < (r_X3_farthestOff x y S) then (if ((S.1 9) + 8) < (r_X3_farthestOff x y S) then 0 else (if (r_X3_stillWith x y S) < (S.2.1 5) then 0 else 1)) else 0) else 0
set_option maxHeartbeats 400000 in
set_option maxRecDepth 100000 in
theorem s_X3_wouldDrift_0 (d : gD) (a : Nat → Nat) (x : Int32) (y : Int32) (S : SS)   {X : gX} (E : gE d X RX3 cX3_wouldDrift 4 R_X3_wouldDrift) (RET : ∀ (pc_ : Nat) (lv_ : List (Nat × Value)) (v_ : Int32) (u_ : va_W), decode cX3_wouldDrift pc_ = .ok (.ireturn, 1) → narrow .boolean (.int v_) = .int v_ → v_ = r_X3_wouldDrift x y S → u_ = SK d a S → G d X u_ R_X3_wouldDrift.cells R_X3_wouldDrift.slots pc_ lv_ [.int v_]) : G d X (SK d a S) 0 0 0 [(0, .ref (a 0)), (1, .int x), (2, .int y)] [] := by
  refine g_aload_n E 0 dX3_wouldDrift_0 rfl rfl ?_
  refine g_iload_n E 1 dX3_wouldDrift_1 rfl rfl ?_
  refine g_iload_n E 2 dX3_wouldDrift_2 rfl rfl ?_
  refine g_callVi0 E gc_X3_farthestOff ml_X3_114 (t_X3_farthestOff d a x y S ) rfl rfl (ci := 3) 4 rfl rfl rfl rfl (ok_le rfl) ⟨ok_le rfl, ok_le rfl, ok_le rfl, ok_le rfl⟩ rfl rfl dX3_wouldDrift_3 ?_
  refine g_nm (fun v1_ hv1_ => ?_)
  refine g_istore_n E (lv' := [(3, .int v1_), (0, .ref (a 0)), (1, .int x), (2, .int y)]) dX3_wouldDrift_6 rfl (by decide) rfl ?_
  refine g_aload_n E 1 dX3_wouldDrift_7 rfl rfl ?_
  refine g_get E (ci := 3) inlX3 4 rfl rfl 10 (by decide) fl_X3_65 rfl (.int (S.1 13)) rfl dX3_wouldDrift_8 ?_
  refine g_ifne E 52 dX3_wouldDrift_11 (by decide) (fun c_11 => ?_) (fun c_11 => ?_)
  · skip
    refine g_iconst E 0 dX3_wouldDrift_52 (by decide) ?_
    subst hv1_
    exact RET 53 _ 0 _ dX3_wouldDrift_53 rfl (by rw [r_X3_wouldDrift, if_neg c_11]) rfl
  · skip
    refine g_iload_n E 0 dX3_wouldDrift_14 rfl rfl ?_
    refine g_aload_n E 1 dX3_wouldDrift_15 rfl rfl ?_
    refine g_get E (ci := 3) inlX3 4 rfl rfl 4 (by decide) fl_X3_37 rfl (.int (S.1 9)) rfl dX3_wouldDrift_16 ?_
    refine g_icmple E 52 dX3_wouldDrift_19 (by decide) (fun c_19 => ?_) (fun c_19 => ?_)
    · skip
      refine g_iconst E 0 dX3_wouldDrift_52 (by decide) ?_
      subst hv1_
      exact RET 53 _ 0 _ dX3_wouldDrift_53 rfl (by rw [r_X3_wouldDrift, if_pos c_11, if_neg c_19]) rfl
    · skip
      refine g_iload_n E 0 dX3_wouldDrift_22 rfl rfl ?_
      refine g_aload_n E 1 dX3_wouldDrift_23 rfl rfl ?_
      refine g_get E (ci := 3) inlX3 4 rfl rfl 4 (by decide) fl_X3_37 rfl (.int (S.1 9)) rfl dX3_wouldDrift_24 ?_
      refine g_bipush E 8 dX3_wouldDrift_27 (by decide) ?_
      refine g_iadd E dX3_wouldDrift_29 ?_
      refine g_icmpgt E 52 dX3_wouldDrift_30 (by decide) (fun c_30 => ?_) (fun c_30 => ?_)
      · skip
        refine g_iconst E 0 dX3_wouldDrift_52 (by decide) ?_
        subst hv1_
        exact RET 53 _ 0 _ dX3_wouldDrift_53 rfl (by rw [r_X3_wouldDrift, if_pos c_11, if_pos c_19, if_pos c_30]) rfl
      · skip
        refine g_aload_n E 1 dX3_wouldDrift_33 rfl rfl ?_
        refine g_iload_n E 2 dX3_wouldDrift_34 rfl rfl ?_
        refine g_iload_n E 3 dX3_wouldDrift_35 rfl rfl ?_
        refine g_callVi0 E gc_X3_stillWith ml_X3_117 (t_X3_stillWith d a x y S ) rfl rfl (ci := 3) 4 rfl rfl rfl rfl (ok_le rfl) ⟨ok_le rfl, ok_le rfl, ok_le rfl, ok_le rfl⟩ rfl rfl dX3_wouldDrift_36 ?_
        refine g_nm (fun v2_ hv2_ => ?_)
        refine g_aload_n E 1 dX3_wouldDrift_39 rfl rfl ?_
        refine g_get E (ci := 3) inlX3 4 rfl rfl 0 (by decide) fl_X3_18 rfl (.ref (a 1)) rfl dX3_wouldDrift_40 ?_
        refine g_iconst E 5 dX3_wouldDrift_43 (by decide) ?_
        refine g_iald E 5 rfl rfl 5 rfl (by decide) (by decide) dX3_wouldDrift_44 ?_
        refine g_icmplt E 52 dX3_wouldDrift_45 (by decide) (fun c_45 => ?_) (fun c_45 => ?_)
        · skip
          refine g_iconst E 0 dX3_wouldDrift_52 (by decide) ?_
          subst hv2_
          subst hv1_
          exact RET 53 _ 0 _ dX3_wouldDrift_53 rfl (by rw [r_X3_wouldDrift, if_pos c_11, if_pos c_19, if_neg c_30, if_pos c_45]) rfl
        · skip
          refine g_iconst E 1 dX3_wouldDrift_48 (by decide) ?_
          refine g_goto E 53 dX3_wouldDrift_49 (by decide) ?_
          subst hv2_
          subst hv1_
          exact RET 53 _ 1 _ dX3_wouldDrift_53 rfl (by rw [r_X3_wouldDrift, if_pos c_11, if_pos c_19, if_neg c_30, if_neg c_45]) rfl
set_option maxHeartbeats 400000 in
set_option maxRecDepth 100000 in
theorem t_X3_wouldDrift (d : gD) (a : Nat → Nat) (x : Int32) (y : Int32) (S : SS)  : gMi d yX3_wouldDrift cX3_wouldDrift 4 (some .boolean) R_X3_wouldDrift [.ref (a 0), .int x, .int y] (SK d a S) (fun r_ u_ => r_ = r_X3_wouldDrift x y S ∧ u_ = SK d a S) :=
  g_met_i RX3 rfl (by decide +kernel) (Nat.le_of_ble_eq_true rfl) [(0, .ref (a 0)), (1, .int x), (2, .int y)] rfl (fun X E RET => s_X3_wouldDrift_0 d a x y S  E (fun pc_ lv_ v_ u_ h1_ h2_ h3_ h4_ => RET pc_ lv_ v_ u_ h1_ h2_ ⟨h3_, h4_⟩))
abbrev R_X3_leanOf : Room := { frames := 1, cells := 0, slots := 0, locals := 21 }
def r_X3_leanOf (off : Int32) (S : SS) : Int32 := if 0 < ((iabs off) - (S.1 9)) then (if off < 0 then (-(imin 100 (r_X4_quotient (((iabs off) - (S.1 9)) * 100) ((S.2.1 3) - (S.1 9))))) else (imin 100 (r_X4_quotient (((iabs off) - (S.1 9)) * 100) ((S.2.1 3) - (S.1 9))))) else 0
set_option maxHeartbeats 400000 in
set_option maxRecDepth 100000 in
theorem s_X3_leanOf_0 (d : gD) (a : Nat → Nat) (off : Int32) (S : SS)   {X : gX} (E : gE d X RX3 cX3_leanOf 4 R_X3_leanOf) (RET : ∀ (pc_ : Nat) (lv_ : List (Nat × Value)) (v_ : Int32) (u_ : va_W), decode cX3_leanOf pc_ = .ok (.ireturn, 1) → narrow .int (.int v_) = .int v_ → v_ = r_X3_leanOf off S → u_ = SK d a S → G d X u_ R_X3_leanOf.cells R_X3_leanOf.slots pc_ lv_ [.int v_]) : G d X (SK d a S) 0 0 0 [(0, .ref (a 0)), (1, .int off)] [] := by
  refine g_iload_n E 1 dX3_leanOf_0 rfl rfl ?_
  refine g_abs E ml_X3_86 (ok_le rfl) (ok_le rfl) (ok_le rfl) (ok_le rfl) dX3_leanOf_1 ?_
  refine g_top (b := iabs off) rfl ?_
  refine g_aload_n E 0 dX3_leanOf_4 rfl rfl ?_
  refine g_get E (ci := 3) inlX3 4 rfl rfl 4 (by decide) fl_X3_37 rfl (.int (S.1 9)) rfl dX3_leanOf_5 ?_
  refine g_isub E dX3_leanOf_8 ?_
  refine g_istore_n E (lv' := [(2, .int ((iabs off) - (S.1 9))), (0, .ref (a 0)), (1, .int off)]) dX3_leanOf_9 rfl (by decide) rfl ?_
  refine g_iload_n E 0 dX3_leanOf_10 rfl rfl ?_
  refine g_ifgt E 16 dX3_leanOf_11 (by decide) (fun c_11 => ?_) (fun c_11 => ?_)
  · skip
    refine g_bipush E 100 dX3_leanOf_16 (by decide) ?_
    refine g_iload_n E 0 dX3_leanOf_18 rfl rfl ?_
    refine g_bipush E 100 dX3_leanOf_19 (by decide) ?_
    refine g_imul E dX3_leanOf_21 ?_
    refine g_aload_n E 1 dX3_leanOf_22 rfl rfl ?_
    refine g_get E (ci := 3) inlX3 4 rfl rfl 0 (by decide) fl_X3_18 rfl (.ref (a 1)) rfl dX3_leanOf_23 ?_
    refine g_iconst E 3 dX3_leanOf_26 (by decide) ?_
    refine g_iald E 5 rfl rfl 3 rfl (by decide) (by decide) dX3_leanOf_27 ?_
    refine g_aload_n E 1 dX3_leanOf_28 rfl rfl ?_
    refine g_get E (ci := 3) inlX3 4 rfl rfl 4 (by decide) fl_X3_37 rfl (.int (S.1 9)) rfl dX3_leanOf_29 ?_
    refine g_isub E dX3_leanOf_32 ?_
    refine g_callSNp E gc_X4_quotient (List.mem_of_getElem? (i := 12) rfl) (t_X4_quotient d (((iabs off) - (S.1 9)) * 100) ((S.2.1 3) - (S.1 9)) ) rfl rfl rfl (ok_le rfl) ⟨ok_le rfl, ok_le rfl, ok_le rfl, ok_le rfl⟩ rfl rfl dX3_leanOf_33 ?_
    refine g_nm (fun v1_ hv1_ => ?_)
    refine g_min E ml_X3_132 (ok_le rfl) (ok_le rfl) (ok_le rfl) (ok_le rfl) dX3_leanOf_36 ?_
    refine g_top (b := imin 100 v1_) rfl ?_
    refine g_istore_n E (lv' := [(3, .int (imin 100 v1_)), (2, .int ((iabs off) - (S.1 9))), (0, .ref (a 0)), (1, .int off)]) dX3_leanOf_39 rfl (by decide) rfl ?_
    refine g_iload_n E 3 dX3_leanOf_40 rfl rfl ?_
    refine g_ifge E 49 dX3_leanOf_41 (by decide) (fun c_41 => ?_) (fun c_41 => ?_)
    · skip
      refine g_iload_n E 0 dX3_leanOf_49 rfl rfl ?_
      subst hv1_
      exact RET 50 _ (imin 100 (r_X4_quotient (((iabs off) - (S.1 9)) * 100) ((S.2.1 3) - (S.1 9)))) _ dX3_leanOf_50 rfl (by rw [r_X3_leanOf, if_pos c_11, if_neg c_41]) rfl
    · skip
      refine g_iload_n E 0 dX3_leanOf_44 rfl rfl ?_
      refine g_ineg E dX3_leanOf_45 ?_
      refine g_goto E 50 dX3_leanOf_46 (by decide) ?_
      subst hv1_
      exact RET 50 _ (-(imin 100 (r_X4_quotient (((iabs off) - (S.1 9)) * 100) ((S.2.1 3) - (S.1 9))))) _ dX3_leanOf_50 rfl (by rw [r_X3_leanOf, if_pos c_11, if_pos c_41]) rfl
  · skip
    refine g_iconst E 0 dX3_leanOf_14 (by decide) ?_
    exact RET 15 _ 0 _ dX3_leanOf_15 rfl (by rw [r_X3_leanOf, if_neg c_11]) rfl
set_option maxHeartbeats 400000 in
set_option maxRecDepth 100000 in
theorem t_X3_leanOf (d : gD) (a : Nat → Nat) (off : Int32) (S : SS)  : gMi d yX3_leanOf cX3_leanOf 4 (some .int) R_X3_leanOf [.ref (a 0), .int off] (SK d a S) (fun r_ u_ => r_ = r_X3_leanOf off S ∧ u_ = SK d a S) :=
  g_met_i RX3 rfl (by decide +kernel) (Nat.le_of_ble_eq_true rfl) [(0, .ref (a 0)), (1, .int off)] rfl (fun X E RET => s_X3_leanOf_0 d a off S  E (fun pc_ lv_ v_ u_ h1_ h2_ h3_ h4_ => RET pc_ lv_ v_ u_ h1_ h2_ ⟨h3_, h4_⟩))
end
section
abbrev R_X3_tellingAt : Room := { frames := 3, cells := 0, slots := 0, locals := 59 }
def r_X3_tellingAt (x : Int32) (y : Int32) (S : SS) : Int32 := if (S.1 9) < (r_X3_farthestOff x y S) then (if (r_X3_wouldDrift x y S) = 0 then (if (S.2.1 4) < ((iabs (r_X3_leanOf (x - (r_X3_restPlaceX S)) S)) + (iabs (r_X3_leanOf (y - (r_X3_restPlaceY S)) S))) then (r_X4_packed (r_X4_quotient ((r_X3_leanOf (x - (r_X3_restPlaceX S)) S) * (S.2.1 4)) ((iabs (r_X3_leanOf (x - (r_X3_restPlaceX S)) S)) + (iabs (r_X3_leanOf (y - (r_X3_restPlaceY S)) S)))) (r_X4_quotient ((r_X3_leanOf (y - (r_X3_restPlaceY S)) S) * (S.2.1 4)) ((iabs (r_X3_leanOf (x - (r_X3_restPlaceX S)) S)) + (iabs (r_X3_leanOf (y - (r_X3_restPlaceY S)) S))))) else (r_X4_packed (r_X3_leanOf (x - (r_X3_restPlaceX S)) S) (r_X3_leanOf (y - (r_X3_restPlaceY S)) S))) else (r_X4_packed 0 0)) else (r_X4_packed 0 0)
set_option maxHeartbeats 400000 in
set_option maxRecDepth 100000 in
theorem s_X3_tellingAt_0 (d : gD) (a : Nat → Nat) (x : Int32) (y : Int32) (S : SS)   {X : gX} (E : gE d X RX3 cX3_tellingAt 7 R_X3_tellingAt) (RET : ∀ (pc_ : Nat) (lv_ : List (Nat × Value)) (v_ : Int32) (u_ : va_W), decode cX3_tellingAt pc_ = .ok (.ireturn, 1) → narrow .int (.int v_) = .int v_ → v_ = r_X3_tellingAt x y S → u_ = SK d a S → G d X u_ R_X3_tellingAt.cells R_X3_tellingAt.slots pc_ lv_ [.int v_]) : G d X (SK d a S) 0 0 0 [(0, .ref (a 0)), (1, .int x), (2, .int y)] [] := by
  refine g_aload_n E 0 dX3_tellingAt_0 rfl rfl ?_
  refine g_iload_n E 1 dX3_tellingAt_1 rfl rfl ?_
  refine g_iload_n E 2 dX3_tellingAt_2 rfl rfl ?_
  refine g_callVi0 E gc_X3_farthestOff ml_X3_114 (t_X3_farthestOff d a x y S ) rfl rfl (ci := 3) 4 rfl rfl rfl rfl (ok_le rfl) ⟨ok_le rfl, ok_le rfl, ok_le rfl, ok_le rfl⟩ rfl rfl dX3_tellingAt_3 ?_
  refine g_nm (fun v1_ hv1_ => ?_)
  refine g_aload_n E 0 dX3_tellingAt_6 rfl rfl ?_
  refine g_get E (ci := 3) inlX3 4 rfl rfl 4 (by decide) fl_X3_37 rfl (.int (S.1 9)) rfl dX3_tellingAt_7 ?_
  refine g_icmple E 22 dX3_tellingAt_10 (by decide) (fun c_10 => ?_) (fun c_10 => ?_)
  · skip
    refine g_iconst E 0 dX3_tellingAt_22 (by decide) ?_
    refine g_iconst E 0 dX3_tellingAt_23 (by decide) ?_
    refine g_callSNp E gc_X4_packed (List.mem_of_getElem? (i := 11) rfl) (t_X4_packed d 0 0 ) rfl rfl rfl (ok_le rfl) ⟨ok_le rfl, ok_le rfl, ok_le rfl, ok_le rfl⟩ rfl rfl dX3_tellingAt_24 ?_
    refine g_nm (fun v2_ hv2_ => ?_)
    subst hv2_
    subst hv1_
    exact RET 27 _ (r_X4_packed 0 0) _ dX3_tellingAt_27 rfl (by rw [r_X3_tellingAt, if_neg c_10]) rfl
  · skip
    refine g_aload_n E 0 dX3_tellingAt_13 rfl rfl ?_
    refine g_iload_n E 1 dX3_tellingAt_14 rfl rfl ?_
    refine g_iload_n E 2 dX3_tellingAt_15 rfl rfl ?_
    refine g_callVi0 E gc_X3_wouldDrift ml_X3_120 (t_X3_wouldDrift d a x y S ) rfl rfl (ci := 3) 4 rfl rfl rfl rfl (ok_le rfl) ⟨ok_le rfl, ok_le rfl, ok_le rfl, ok_le rfl⟩ rfl rfl dX3_tellingAt_16 ?_
    refine g_nm (fun v3_ hv3_ => ?_)
    refine g_ifeq E 28 dX3_tellingAt_19 (by decide) (fun c_19 => ?_) (fun c_19 => ?_)
    · skip
      refine g_aload_n E 0 dX3_tellingAt_28 rfl rfl ?_
      refine g_iload_n E 1 dX3_tellingAt_29 rfl rfl ?_
      refine g_aload_n E 0 dX3_tellingAt_30 rfl rfl ?_
      refine g_callVi0 E gc_X3_restPlaceX ml_X3_103 (t_X3_restPlaceX d a S ) rfl rfl (ci := 3) 4 rfl rfl rfl rfl (ok_le rfl) ⟨ok_le rfl, ok_le rfl, ok_le rfl, ok_le rfl⟩ rfl rfl dX3_tellingAt_31 ?_
      refine g_nm (fun v4_ hv4_ => ?_)
      refine g_isub E dX3_tellingAt_34 ?_
      refine g_callVi0 E gc_X3_leanOf ml_X3_126 (t_X3_leanOf d a (x - v4_) S ) rfl rfl (ci := 3) 4 rfl rfl rfl rfl (ok_le rfl) ⟨ok_le rfl, ok_le rfl, ok_le rfl, ok_le rfl⟩ rfl rfl dX3_tellingAt_35 ?_
      refine g_nm (fun v5_ hv5_ => ?_)
      refine g_istore_n E (lv' := [(3, .int v5_), (0, .ref (a 0)), (1, .int x), (2, .int y)]) dX3_tellingAt_38 rfl (by decide) rfl ?_
      refine g_aload_n E 1 dX3_tellingAt_39 rfl rfl ?_
      refine g_iload_n E 3 dX3_tellingAt_40 rfl rfl ?_
      refine g_aload_n E 1 dX3_tellingAt_41 rfl rfl ?_
      refine g_callVi0 E gc_X3_restPlaceY ml_X3_107 (t_X3_restPlaceY d a S ) rfl rfl (ci := 3) 4 rfl rfl rfl rfl (ok_le rfl) ⟨ok_le rfl, ok_le rfl, ok_le rfl, ok_le rfl⟩ rfl rfl dX3_tellingAt_42 ?_
      refine g_nm (fun v6_ hv6_ => ?_)
      refine g_isub E dX3_tellingAt_45 ?_
      refine g_callVi0 E gc_X3_leanOf ml_X3_126 (t_X3_leanOf d a (y - v6_) S ) rfl rfl (ci := 3) 4 rfl rfl rfl rfl (ok_le rfl) ⟨ok_le rfl, ok_le rfl, ok_le rfl, ok_le rfl⟩ rfl rfl dX3_tellingAt_46 ?_
      refine g_nm (fun v7_ hv7_ => ?_)
      refine g_istore E (lv' := [(4, .int v7_), (3, .int v5_), (0, .ref (a 0)), (1, .int x), (2, .int y)]) dX3_tellingAt_49 (by decide) rfl ?_
      refine g_iload_n E 1 dX3_tellingAt_51 rfl rfl ?_
      refine g_abs E ml_X3_86 (ok_le rfl) (ok_le rfl) (ok_le rfl) (ok_le rfl) dX3_tellingAt_52 ?_
      refine g_top (b := iabs v5_) rfl ?_
      refine g_iload E 0 dX3_tellingAt_55 rfl ?_
      refine g_abs E ml_X3_86 (ok_le rfl) (ok_le rfl) (ok_le rfl) (ok_le rfl) dX3_tellingAt_57 ?_
      refine g_top (b := iabs v7_) rfl ?_
      refine g_iadd E dX3_tellingAt_60 ?_
      refine g_istore E (lv' := [(5, .int ((iabs v5_) + (iabs v7_))), (4, .int v7_), (3, .int v5_), (0, .ref (a 0)), (1, .int x), (2, .int y)]) dX3_tellingAt_61 (by decide) rfl ?_
      refine g_aload_n E 3 dX3_tellingAt_63 rfl rfl ?_
      refine g_get E (ci := 3) inlX3 4 rfl rfl 0 (by decide) fl_X3_18 rfl (.ref (a 1)) rfl dX3_tellingAt_64 ?_
      refine g_iconst E 4 dX3_tellingAt_67 (by decide) ?_
      refine g_iald E 5 rfl rfl 4 rfl (by decide) (by decide) dX3_tellingAt_68 ?_
      refine g_istore E (lv' := [(6, .int (S.2.1 4)), (5, .int ((iabs v5_) + (iabs v7_))), (4, .int v7_), (3, .int v5_), (0, .ref (a 0)), (1, .int x), (2, .int y)]) dX3_tellingAt_69 (by decide) rfl ?_
      refine g_iload E 1 dX3_tellingAt_71 rfl ?_
      refine g_iload E 0 dX3_tellingAt_73 rfl ?_
      refine g_icmple E 101 dX3_tellingAt_75 (by decide) (fun c_75 => ?_) (fun c_75 => ?_)
      · skip
        refine g_iload_n E 3 dX3_tellingAt_101 rfl rfl ?_
        refine g_iload E 2 dX3_tellingAt_102 rfl ?_
        refine g_callSNp E gc_X4_packed (List.mem_of_getElem? (i := 11) rfl) (t_X4_packed d v5_ v7_ ) rfl rfl rfl (ok_le rfl) ⟨ok_le rfl, ok_le rfl, ok_le rfl, ok_le rfl⟩ rfl rfl dX3_tellingAt_104 ?_
        refine g_nm (fun v8_ hv8_ => ?_)
        subst hv8_
        subst hv7_
        subst hv6_
        subst hv5_
        subst hv4_
        subst hv3_
        subst hv1_
        exact RET 107 _ (r_X4_packed (r_X3_leanOf (x - (r_X3_restPlaceX S)) S) (r_X3_leanOf (y - (r_X3_restPlaceY S)) S)) _ dX3_tellingAt_107 rfl (by rw [r_X3_tellingAt, if_pos c_10, if_pos c_19, if_neg c_75]) rfl
      · skip
        refine g_iload_n E 3 dX3_tellingAt_78 rfl rfl ?_
        refine g_iload E 0 dX3_tellingAt_79 rfl ?_
        refine g_imul E dX3_tellingAt_81 ?_
        refine g_iload E 1 dX3_tellingAt_82 rfl ?_
        refine g_callSNp E gc_X4_quotient (List.mem_of_getElem? (i := 12) rfl) (t_X4_quotient d (v5_ * (S.2.1 4)) ((iabs v5_) + (iabs v7_)) ) rfl rfl rfl (ok_le rfl) ⟨ok_le rfl, ok_le rfl, ok_le rfl, ok_le rfl⟩ rfl rfl dX3_tellingAt_84 ?_
        refine g_nm (fun v9_ hv9_ => ?_)
        refine g_iload E 2 dX3_tellingAt_87 rfl ?_
        refine g_iload E 0 dX3_tellingAt_89 rfl ?_
        refine g_imul E dX3_tellingAt_91 ?_
        refine g_iload E 1 dX3_tellingAt_92 rfl ?_
        refine g_callSNp E gc_X4_quotient (List.mem_of_getElem? (i := 12) rfl) (t_X4_quotient d (v7_ * (S.2.1 4)) ((iabs v5_) + (iabs v7_)) ) rfl rfl rfl (ok_le rfl) ⟨ok_le rfl, ok_le rfl, ok_le rfl, ok_le rfl⟩ rfl rfl dX3_tellingAt_94 ?_
        refine g_nm (fun v10_ hv10_ => ?_)
        refine g_callSNp E gc_X4_packed (List.mem_of_getElem? (i := 11) rfl) (t_X4_packed d v9_ v10_ ) rfl rfl rfl (ok_le rfl) ⟨ok_le rfl, ok_le rfl, ok_le rfl, ok_le rfl⟩ rfl rfl dX3_tellingAt_97 ?_
        refine g_nm (fun v11_ hv11_ => ?_)
        subst hv11_
        subst hv10_
        subst hv9_
        subst hv7_
        subst hv6_
        subst hv5_
        subst hv4_
        subst hv3_
        subst hv1_
        exact RET 100 _ (r_X4_packed (r_X4_quotient ((r_X3_leanOf (x - (r_X3_restPlaceX S)) S) * (S.2.1 4)) ((iabs (r_X3_leanOf (x - (r_X3_restPlaceX S)) S)) + (iabs (r_X3_leanOf (y - (r_X3_restPlaceY S)) S)))) (r_X4_quotient ((r_X3_leanOf (y - (r_X3_restPlaceY S)) S) * (S.2.1 4)) ((iabs (r_X3_leanOf (x - (r_X3_restPlaceX S)) S)) + (iabs (r_X3_leanOf (y - (r_X3_restPlaceY S)) S))))) _ dX3_tellingAt_100 rfl (by rw [r_X3_tellingAt, if_pos c_10, if_pos c_19, if_pos c_75]) rfl
    · skip
      refine g_iconst E 0 dX3_tellingAt_22 (by decide) ?_
      refine g_iconst E 0 dX3_tellingAt_23 (by decide) ?_
      refine g_callSNp E gc_X4_packed (List.mem_of_getElem? (i := 11) rfl) (t_X4_packed d 0 0 ) rfl rfl rfl (ok_le rfl) ⟨ok_le rfl, ok_le rfl, ok_le rfl, ok_le rfl⟩ rfl rfl dX3_tellingAt_24 ?_
      refine g_nm (fun v12_ hv12_ => ?_)
      subst hv12_
      subst hv3_
      subst hv1_
      exact RET 27 _ (r_X4_packed 0 0) _ dX3_tellingAt_27 rfl (by rw [r_X3_tellingAt, if_pos c_10, if_neg c_19]) rfl
set_option maxHeartbeats 400000 in
set_option maxRecDepth 100000 in
theorem t_X3_tellingAt (d : gD) (a : Nat → Nat) (x : Int32) (y : Int32) (S : SS)  : gMi d yX3_tellingAt cX3_tellingAt 7 (some .int) R_X3_tellingAt [.ref (a 0), .int x, .int y] (SK d a S) (fun r_ u_ => r_ = r_X3_tellingAt x y S ∧ u_ = SK d a S) :=
  g_met_i RX3 rfl (by decide +kernel) (Nat.le_of_ble_eq_true rfl) [(0, .ref (a 0)), (1, .int x), (2, .int y)] rfl (fun X E RET => s_X3_tellingAt_0 d a x y S  E (fun pc_ lv_ v_ u_ h1_ h2_ h3_ h4_ => RET pc_ lv_ v_ u_ h1_ h2_ ⟨h3_, h4_⟩))
abbrev R_X3_telling : Room := { frames := 1, cells := 0, slots := 0, locals := 21 }
def r_X3_telling (S : SS) : Int32 := (r_X4_packed (S.1 14) (S.1 15))
set_option maxHeartbeats 400000 in
set_option maxRecDepth 100000 in
theorem s_X3_telling_0 (d : gD) (a : Nat → Nat) (S : SS)   {X : gX} (E : gE d X RX3 cX3_telling 1 R_X3_telling) (RET : ∀ (pc_ : Nat) (lv_ : List (Nat × Value)) (v_ : Int32) (u_ : va_W), decode cX3_telling pc_ = .ok (.ireturn, 1) → narrow .int (.int v_) = .int v_ → v_ = r_X3_telling S → u_ = SK d a S → G d X u_ R_X3_telling.cells R_X3_telling.slots pc_ lv_ [.int v_]) : G d X (SK d a S) 0 0 0 [(0, .ref (a 0))] [] := by
  refine g_aload_n E 0 dX3_telling_0 rfl rfl ?_
  refine g_get E (ci := 3) inlX3 4 rfl rfl 5 (by decide) fl_X3_50 rfl (.int (S.1 14)) rfl dX3_telling_1 ?_
  refine g_aload_n E 0 dX3_telling_4 rfl rfl ?_
  refine g_get E (ci := 3) inlX3 4 rfl rfl 6 (by decide) fl_X3_53 rfl (.int (S.1 15)) rfl dX3_telling_5 ?_
  refine g_callSNp E gc_X4_packed (List.mem_of_getElem? (i := 11) rfl) (t_X4_packed d (S.1 14) (S.1 15) ) rfl rfl rfl (ok_le rfl) ⟨ok_le rfl, ok_le rfl, ok_le rfl, ok_le rfl⟩ rfl rfl dX3_telling_8 ?_
  refine g_nm (fun v1_ hv1_ => ?_)
  subst hv1_
  exact RET 11 _ (r_X4_packed (S.1 14) (S.1 15)) _ dX3_telling_11 rfl (by rw [r_X3_telling]) rfl
set_option maxHeartbeats 400000 in
set_option maxRecDepth 100000 in
theorem t_X3_telling (d : gD) (a : Nat → Nat) (S : SS)  : gMi d yX3_telling cX3_telling 1 (some .int) R_X3_telling [.ref (a 0)] (SK d a S) (fun r_ u_ => r_ = r_X3_telling S ∧ u_ = SK d a S) :=
  g_met_i RX3 rfl (by decide +kernel) (Nat.le_of_ble_eq_true rfl) [(0, .ref (a 0))] rfl (fun X E RET => s_X3_telling_0 d a S  E (fun pc_ lv_ v_ u_ h1_ h2_ h3_ h4_ => RET pc_ lv_ v_ u_ h1_ h2_ ⟨h3_, h4_⟩))
abbrev R_X3_tellsSomething : Room := { frames := 0, cells := 0, slots := 0, locals := 0 }
def r_X3_tellsSomething (S : SS) : Int32 := if (S.1 14) = 0 then (if (S.1 15) = 0 then 0 else 1) else 1
set_option maxHeartbeats 400000 in
set_option maxRecDepth 100000 in
theorem s_X3_tellsSomething_0 (d : gD) (a : Nat → Nat) (S : SS)   {X : gX} (E : gE d X RX3 cX3_tellsSomething 1 R_X3_tellsSomething) (RET : ∀ (pc_ : Nat) (lv_ : List (Nat × Value)) (v_ : Int32) (u_ : va_W), decode cX3_tellsSomething pc_ = .ok (.ireturn, 1) → narrow .boolean (.int v_) = .int v_ → v_ = r_X3_tellsSomething S → u_ = SK d a S → G d X u_ R_X3_tellsSomething.cells R_X3_tellsSomething.slots pc_ lv_ [.int v_]) : G d X (SK d a S) 0 0 0 [(0, .ref (a 0))] [] := by
  refine g_aload_n E 0 dX3_tellsSomething_0 rfl rfl ?_
  refine g_get E (ci := 3) inlX3 4 rfl rfl 5 (by decide) fl_X3_50 rfl (.int (S.1 14)) rfl dX3_tellsSomething_1 ?_
  refine g_ifne E 14 dX3_tellsSomething_4 (by decide) (fun c_4 => ?_) (fun c_4 => ?_)
  · skip
    refine g_iconst E 1 dX3_tellsSomething_14 (by decide) ?_
    refine g_goto E 19 dX3_tellsSomething_15 (by decide) ?_
    exact RET 19 _ 1 _ dX3_tellsSomething_19 rfl (by rw [r_X3_tellsSomething, if_neg c_4]) rfl
  · skip
    refine g_aload_n E 0 dX3_tellsSomething_7 rfl rfl ?_
    refine g_get E (ci := 3) inlX3 4 rfl rfl 6 (by decide) fl_X3_53 rfl (.int (S.1 15)) rfl dX3_tellsSomething_8 ?_
    refine g_ifeq E 18 dX3_tellsSomething_11 (by decide) (fun c_11 => ?_) (fun c_11 => ?_)
    · skip
      refine g_iconst E 0 dX3_tellsSomething_18 (by decide) ?_
      exact RET 19 _ 0 _ dX3_tellsSomething_19 rfl (by rw [r_X3_tellsSomething, if_pos c_4, if_pos c_11]) rfl
    · skip
      refine g_iconst E 1 dX3_tellsSomething_14 (by decide) ?_
      refine g_goto E 19 dX3_tellsSomething_15 (by decide) ?_
      exact RET 19 _ 1 _ dX3_tellsSomething_19 rfl (by rw [r_X3_tellsSomething, if_pos c_4, if_neg c_11]) rfl
set_option maxHeartbeats 400000 in
set_option maxRecDepth 100000 in
theorem t_X3_tellsSomething (d : gD) (a : Nat → Nat) (S : SS)  : gMi d yX3_tellsSomething cX3_tellsSomething 1 (some .boolean) R_X3_tellsSomething [.ref (a 0)] (SK d a S) (fun r_ u_ => r_ = r_X3_tellsSomething S ∧ u_ = SK d a S) :=
  g_met_i RX3 rfl (by decide +kernel) (Nat.le_of_ble_eq_true rfl) [(0, .ref (a 0))] rfl (fun X E RET => s_X3_tellsSomething_0 d a S  E (fun pc_ lv_ v_ u_ h1_ h2_ h3_ h4_ => RET pc_ lv_ v_ u_ h1_ h2_ ⟨h3_, h4_⟩))
abbrev R_X3_driftTo : Room := { frames := 0, cells := 0, slots := 0, locals := 0 }
def c_X3_driftTo (x : Int32) (y : Int32) (S : SS) : SS := (upd (upd (upd (upd S.1 7 (16 * x)) 8 (16 * y)) 12 0) 17 ((S.1 17) + 1), S.2)
set_option maxHeartbeats 400000 in
set_option maxRecDepth 100000 in
theorem s_X3_driftTo_0 (d : gD) (a : Nat → Nat) (x : Int32) (y : Int32) (S : SS)   {X : gX} (E : gE d X RX3 cX3_driftTo 3 R_X3_driftTo) (RET : ∀ (pc_ : Nat) (lv_ : List (Nat × Value)) (u_ : va_W), decode cX3_driftTo pc_ = .ok (.return_, 1) → u_ = SK d a (c_X3_driftTo x y S) → G d X u_ R_X3_driftTo.cells R_X3_driftTo.slots pc_ lv_ []) : G d X (SK d a S) 0 0 0 [(0, .ref (a 0)), (1, .int x), (2, .int y)] [] := by
  refine g_aload_n E 0 dX3_driftTo_0 rfl rfl ?_
  refine g_bipush E 16 dX3_driftTo_1 (by decide) ?_
  refine g_iload_n E 1 dX3_driftTo_3 rfl rfl ?_
  refine g_imul E dX3_driftTo_4 ?_
  refine g_put E (ci := 3) inlX3 4 rfl rfl 2 (by decide) tyX3 tyX3_ok nmX3 fl_X3_30 rfl rfl rfl rfl (ok_lt rfl) (ws' := SK d a (upd S.1 7 (16 * x), S.2)) rfl dX3_driftTo_5 ?_
  refine g_aload_n E 0 dX3_driftTo_8 rfl rfl ?_
  refine g_bipush E 16 dX3_driftTo_9 (by decide) ?_
  refine g_iload_n E 2 dX3_driftTo_11 rfl rfl ?_
  refine g_imul E dX3_driftTo_12 ?_
  refine g_put E (ci := 3) inlX3 4 rfl rfl 3 (by decide) tyX3 tyX3_ok nmX3 fl_X3_34 rfl rfl rfl rfl (ok_lt rfl) (ws' := SK d a (upd (upd S.1 7 (16 * x)) 8 (16 * y), S.2)) rfl dX3_driftTo_13 ?_
  refine g_aload_n E 0 dX3_driftTo_16 rfl rfl ?_
  refine g_iconst E 0 dX3_driftTo_17 (by decide) ?_
  refine g_put E (ci := 3) inlX3 4 rfl rfl 9 (by decide) tyX3 tyX3_ok nmX3 fl_X3_62 rfl rfl rfl rfl (ok_lt rfl) (ws' := SK d a (upd (upd (upd S.1 7 (16 * x)) 8 (16 * y)) 12 0, S.2)) rfl dX3_driftTo_18 ?_
  refine g_aload_n E 0 dX3_driftTo_21 rfl rfl ?_
  refine g_dup E dX3_driftTo_22 rfl ?_
  refine g_get E (ci := 3) inlX3 4 rfl rfl 13 (by decide) fl_X3_74 rfl (.int (S.1 17)) rfl dX3_driftTo_23 ?_
  refine g_iconst E 1 dX3_driftTo_26 (by decide) ?_
  refine g_iadd E dX3_driftTo_27 ?_
  refine g_put E (ci := 3) inlX3 4 rfl rfl 13 (by decide) tyX3 tyX3_ok nmX3 fl_X3_74 rfl rfl rfl rfl (ok_lt rfl) (ws' := SK d a (upd (upd (upd (upd S.1 7 (16 * x)) 8 (16 * y)) 12 0) 17 ((S.1 17) + 1), S.2)) rfl dX3_driftTo_28 ?_
  exact RET 31 _ _ dX3_driftTo_31 (by rw [c_X3_driftTo])
set_option maxHeartbeats 400000 in
set_option maxRecDepth 100000 in
theorem t_X3_driftTo (d : gD) (a : Nat → Nat) (x : Int32) (y : Int32) (S : SS)  : gMv d yX3_driftTo cX3_driftTo 3 R_X3_driftTo [.ref (a 0), .int x, .int y] (SK d a S) (fun u_ => u_ = SK d a (c_X3_driftTo x y S)) :=
  g_met_v RX3 rfl (by decide +kernel) (Nat.le_of_ble_eq_true rfl) [(0, .ref (a 0)), (1, .int x), (2, .int y)] rfl (fun X E _ RET => s_X3_driftTo_0 d a x y S  E (fun pc_ lv_ u_ h1_ h2_ => RET pc_ lv_ u_ h1_ h2_))
abbrev R_X3_fitZone : Room := { frames := 1, cells := 0, slots := 0, locals := 14 }
def c_X3_fitZone (off : Int32) (S : SS) : SS := if (S.1 9) < (2 * off) then (upd S.1 9 (imin ((S.1 9) + 1) ((S.2.1 1) + (S.2.1 2))), S.2) else (if (S.1 9) < (4 * off) then S else (upd S.1 9 (imax ((S.1 9) - 1) (S.2.1 1)), S.2))
set_option maxHeartbeats 400000 in
set_option maxRecDepth 100000 in
theorem s_X3_fitZone_0 (d : gD) (a : Nat → Nat) (off : Int32) (S : SS)   {X : gX} (E : gE d X RX3 cX3_fitZone 2 R_X3_fitZone) (RET : ∀ (pc_ : Nat) (lv_ : List (Nat × Value)) (u_ : va_W), decode cX3_fitZone pc_ = .ok (.return_, 1) → u_ = SK d a (c_X3_fitZone off S) → G d X u_ R_X3_fitZone.cells R_X3_fitZone.slots pc_ lv_ []) : G d X (SK d a S) 0 0 0 [(0, .ref (a 0)), (1, .int off)] [] := by
  refine g_iconst E 2 dX3_fitZone_0 (by decide) ?_
  refine g_iload_n E 1 dX3_fitZone_1 rfl rfl ?_
  refine g_imul E dX3_fitZone_2 ?_
  refine g_aload_n E 0 dX3_fitZone_3 rfl rfl ?_
  refine g_get E (ci := 3) inlX3 4 rfl rfl 4 (by decide) fl_X3_37 rfl (.int (S.1 9)) rfl dX3_fitZone_4 ?_
  refine g_icmple E 39 dX3_fitZone_7 (by decide) (fun c_7 => ?_) (fun c_7 => ?_)
  · skip
    refine g_iconst E 4 dX3_fitZone_39 (by decide) ?_
    refine g_iload_n E 1 dX3_fitZone_40 rfl rfl ?_
    refine g_imul E dX3_fitZone_41 ?_
    refine g_aload_n E 0 dX3_fitZone_42 rfl rfl ?_
    refine g_get E (ci := 3) inlX3 4 rfl rfl 4 (by decide) fl_X3_37 rfl (.int (S.1 9)) rfl dX3_fitZone_43 ?_
    refine g_icmpgt E 68 dX3_fitZone_46 (by decide) (fun c_46 => ?_) (fun c_46 => ?_)
    · skip
      exact RET 68 _ _ dX3_fitZone_68 (by rw [c_X3_fitZone, if_neg c_7, if_pos c_46])
    · skip
      refine g_aload_n E 0 dX3_fitZone_49 rfl rfl ?_
      refine g_aload_n E 0 dX3_fitZone_50 rfl rfl ?_
      refine g_get E (ci := 3) inlX3 4 rfl rfl 4 (by decide) fl_X3_37 rfl (.int (S.1 9)) rfl dX3_fitZone_51 ?_
      refine g_iconst E 1 dX3_fitZone_54 (by decide) ?_
      refine g_isub E dX3_fitZone_55 ?_
      refine g_aload_n E 0 dX3_fitZone_56 rfl rfl ?_
      refine g_get E (ci := 3) inlX3 4 rfl rfl 0 (by decide) fl_X3_18 rfl (.ref (a 1)) rfl dX3_fitZone_57 ?_
      refine g_iconst E 1 dX3_fitZone_60 (by decide) ?_
      refine g_iald E 5 rfl rfl 1 rfl (by decide) (by decide) dX3_fitZone_61 ?_
      refine g_max E ml_X3_110 (ok_le rfl) (ok_le rfl) (ok_le rfl) (ok_le rfl) dX3_fitZone_62 ?_
      refine g_top (b := imax ((S.1 9) - 1) (S.2.1 1)) rfl ?_
      refine g_put E (ci := 3) inlX3 4 rfl rfl 4 (by decide) tyX3 tyX3_ok nmX3 fl_X3_37 rfl rfl rfl rfl (ok_lt rfl) (ws' := SK d a (upd S.1 9 (imax ((S.1 9) - 1) (S.2.1 1)), S.2)) rfl dX3_fitZone_65 ?_
      exact RET 68 _ _ dX3_fitZone_68 (by rw [c_X3_fitZone, if_neg c_7, if_neg c_46])
  · skip
    refine g_aload_n E 0 dX3_fitZone_10 rfl rfl ?_
    refine g_aload_n E 0 dX3_fitZone_11 rfl rfl ?_
    refine g_get E (ci := 3) inlX3 4 rfl rfl 4 (by decide) fl_X3_37 rfl (.int (S.1 9)) rfl dX3_fitZone_12 ?_
    refine g_iconst E 1 dX3_fitZone_15 (by decide) ?_
    refine g_iadd E dX3_fitZone_16 ?_
    refine g_aload_n E 0 dX3_fitZone_17 rfl rfl ?_
    refine g_get E (ci := 3) inlX3 4 rfl rfl 0 (by decide) fl_X3_18 rfl (.ref (a 1)) rfl dX3_fitZone_18 ?_
    refine g_iconst E 1 dX3_fitZone_21 (by decide) ?_
    refine g_iald E 5 rfl rfl 1 rfl (by decide) (by decide) dX3_fitZone_22 ?_
    refine g_aload_n E 0 dX3_fitZone_23 rfl rfl ?_
    refine g_get E (ci := 3) inlX3 4 rfl rfl 0 (by decide) fl_X3_18 rfl (.ref (a 1)) rfl dX3_fitZone_24 ?_
    refine g_iconst E 2 dX3_fitZone_27 (by decide) ?_
    refine g_iald E 5 rfl rfl 2 rfl (by decide) (by decide) dX3_fitZone_28 ?_
    refine g_iadd E dX3_fitZone_29 ?_
    refine g_min E ml_X3_132 (ok_le rfl) (ok_le rfl) (ok_le rfl) (ok_le rfl) dX3_fitZone_30 ?_
    refine g_top (b := imin ((S.1 9) + 1) ((S.2.1 1) + (S.2.1 2))) rfl ?_
    refine g_put E (ci := 3) inlX3 4 rfl rfl 4 (by decide) tyX3 tyX3_ok nmX3 fl_X3_37 rfl rfl rfl rfl (ok_lt rfl) (ws' := SK d a (upd S.1 9 (imin ((S.1 9) + 1) ((S.2.1 1) + (S.2.1 2))), S.2)) rfl dX3_fitZone_33 ?_
    refine g_goto E 68 dX3_fitZone_36 (by decide) ?_
    exact RET 68 _ _ dX3_fitZone_68 (by rw [c_X3_fitZone, if_pos c_7])
set_option maxHeartbeats 400000 in
set_option maxRecDepth 100000 in
theorem t_X3_fitZone (d : gD) (a : Nat → Nat) (off : Int32) (S : SS)  : gMv d yX3_fitZone cX3_fitZone 2 R_X3_fitZone [.ref (a 0), .int off] (SK d a S) (fun u_ => u_ = SK d a (c_X3_fitZone off S)) :=
  g_met_v RX3 rfl (by decide +kernel) (Nat.le_of_ble_eq_true rfl) [(0, .ref (a 0)), (1, .int off)] rfl (fun X E _ RET => s_X3_fitZone_0 d a off S  E (fun pc_ lv_ u_ h1_ h2_ => RET pc_ lv_ u_ h1_ h2_))
end
section
abbrev R_X3_comeToRest : Room := { frames := 2, cells := 0, slots := 0, locals := 36 }
def j_X3_comeToRest_17_g (x : Int32) (y : Int32) (S : SS) : Nat → Int32 := if (r_X3_tellsSomething S) = 0 then S.1 else (upd S.1 16 ((S.1 16) + 1))
def c_X3_comeToRest_at17 (x : Int32) (y : Int32) (S : SS) : SS := if 0 < ((j_X3_comeToRest_17_g x y S) 13) then (upd (j_X3_comeToRest_17_g x y S) 20 (((j_X3_comeToRest_17_g x y S) 20) + 1), S.2) else (upd (upd (c_X3_fitZone (r_X3_farthestOff x y ((j_X3_comeToRest_17_g x y S), S.2)) ((j_X3_comeToRest_17_g x y S), S.2)).1 7 (((c_X3_fitZone (r_X3_farthestOff x y ((j_X3_comeToRest_17_g x y S), S.2)) ((j_X3_comeToRest_17_g x y S), S.2)).1 7) + (r_X4_quotient ((16 * x) - ((c_X3_fitZone (r_X3_farthestOff x y ((j_X3_comeToRest_17_g x y S), S.2)) ((j_X3_comeToRest_17_g x y S), S.2)).1 7)) ((c_X3_fitZone (r_X3_farthestOff x y ((j_X3_comeToRest_17_g x y S), S.2)) ((j_X3_comeToRest_17_g x y S), S.2)).2.1 0)))) 8 (((c_X3_fitZone (r_X3_farthestOff x y ((j_X3_comeToRest_17_g x y S), S.2)) ((j_X3_comeToRest_17_g x y S), S.2)).1 8) + (r_X4_quotient ((16 * y) - ((c_X3_fitZone (r_X3_farthestOff x y ((j_X3_comeToRest_17_g x y S), S.2)) ((j_X3_comeToRest_17_g x y S), S.2)).1 8)) ((c_X3_fitZone (r_X3_farthestOff x y ((j_X3_comeToRest_17_g x y S), S.2)) ((j_X3_comeToRest_17_g x y S), S.2)).2.1 0))), (c_X3_fitZone (r_X3_farthestOff x y ((j_X3_comeToRest_17_g x y S), S.2)) ((j_X3_comeToRest_17_g x y S), S.2)).2)
def c_X3_comeToRest (x : Int32) (y : Int32) (S : SS) : SS := c_X3_comeToRest_at17 x y S
set_option maxHeartbeats 400000 in
set_option maxRecDepth 100000 in
theorem s_X3_comeToRest_17 (d : gD) (a : Nat → Nat) (x : Int32) (y : Int32) (S : SS)   {X : gX} (E : gE d X RX3 cX3_comeToRest 3 R_X3_comeToRest) (RET : ∀ (pc_ : Nat) (lv_ : List (Nat × Value)) (u_ : va_W), decode cX3_comeToRest pc_ = .ok (.return_, 1) → u_ = SK d a (c_X3_comeToRest_at17 x y S) → G d X u_ R_X3_comeToRest.cells R_X3_comeToRest.slots pc_ lv_ []) : G d X (SK d a ((j_X3_comeToRest_17_g x y S), S.2)) 0 0 17 [(0, .ref (a 0)), (1, .int x), (2, .int y)] [] := by
  obtain ⟨J2_, hJ2_⟩ : ∃ z, z = j_X3_comeToRest_17_g x y S := ⟨_, rfl⟩
  rw [← hJ2_]
  refine g_aload_n E 0 dX3_comeToRest_17 rfl rfl ?_
  refine g_get E (ci := 3) inlX3 4 rfl rfl 10 (by decide) fl_X3_65 rfl (.int (J2_ 13)) rfl dX3_comeToRest_18 ?_
  refine g_ifle E 35 dX3_comeToRest_21 (by decide) (fun c_21 => ?_) (fun c_21 => ?_)
  · skip
    refine g_aload_n E 0 dX3_comeToRest_35 rfl rfl ?_
    refine g_aload_n E 0 dX3_comeToRest_36 rfl rfl ?_
    refine g_iload_n E 1 dX3_comeToRest_37 rfl rfl ?_
    refine g_iload_n E 2 dX3_comeToRest_38 rfl rfl ?_
    refine g_callVi0 E gc_X3_farthestOff ml_X3_114 (t_X3_farthestOff d a x y (J2_, S.2) ) rfl rfl (ci := 3) 4 rfl rfl rfl rfl (ok_le rfl) ⟨ok_le rfl, ok_le rfl, ok_le rfl, ok_le rfl⟩ rfl rfl dX3_comeToRest_39 ?_
    refine g_nm (fun v3_ hv3_ => ?_)
    refine g_callVv0 E gc_X3_fitZone ml_X3_161 (t_X3_fitZone d a v3_ (J2_, S.2) ) rfl rfl (ci := 3) 4 rfl rfl rfl rfl (ok_le rfl) ⟨ok_le rfl, ok_le rfl, ok_le rfl, ok_le rfl⟩ rfl rfl dX3_comeToRest_42 ?_
    obtain ⟨S4_, hS4_⟩ : ∃ z, z = c_X3_fitZone v3_ (J2_, S.2) := ⟨_, rfl⟩
    rw [← hS4_]
    refine g_aload_n E 0 dX3_comeToRest_45 rfl rfl ?_
    refine g_dup E dX3_comeToRest_46 rfl ?_
    refine g_get E (ci := 3) inlX3 4 rfl rfl 2 (by decide) fl_X3_30 rfl (.int (S4_.1 7)) rfl dX3_comeToRest_47 ?_
    refine g_bipush E 16 dX3_comeToRest_50 (by decide) ?_
    refine g_iload_n E 1 dX3_comeToRest_52 rfl rfl ?_
    refine g_imul E dX3_comeToRest_53 ?_
    refine g_aload_n E 0 dX3_comeToRest_54 rfl rfl ?_
    refine g_get E (ci := 3) inlX3 4 rfl rfl 2 (by decide) fl_X3_30 rfl (.int (S4_.1 7)) rfl dX3_comeToRest_55 ?_
    refine g_isub E dX3_comeToRest_58 ?_
    refine g_aload_n E 0 dX3_comeToRest_59 rfl rfl ?_
    refine g_get E (ci := 3) inlX3 4 rfl rfl 0 (by decide) fl_X3_18 rfl (.ref (a 1)) rfl dX3_comeToRest_60 ?_
    refine g_iconst E 0 dX3_comeToRest_63 (by decide) ?_
    refine g_iald E 5 rfl rfl 0 rfl (by decide) (by decide) dX3_comeToRest_64 ?_
    refine g_callSNp E gc_X4_quotient (List.mem_of_getElem? (i := 12) rfl) (t_X4_quotient d ((16 * x) - (S4_.1 7)) (S4_.2.1 0) ) rfl rfl rfl (ok_le rfl) ⟨ok_le rfl, ok_le rfl, ok_le rfl, ok_le rfl⟩ rfl rfl dX3_comeToRest_65 ?_
    refine g_nm (fun v5_ hv5_ => ?_)
    refine g_iadd E dX3_comeToRest_68 ?_
    refine g_put E (ci := 3) inlX3 4 rfl rfl 2 (by decide) tyX3 tyX3_ok nmX3 fl_X3_30 rfl rfl rfl rfl (ok_lt rfl) (ws' := SK d a (upd S4_.1 7 ((S4_.1 7) + v5_), S4_.2)) rfl dX3_comeToRest_69 ?_
    refine g_aload_n E 0 dX3_comeToRest_72 rfl rfl ?_
    refine g_dup E dX3_comeToRest_73 rfl ?_
    refine g_get E (ci := 3) inlX3 4 rfl rfl 3 (by decide) fl_X3_34 rfl (.int (S4_.1 8)) rfl dX3_comeToRest_74 ?_
    refine g_bipush E 16 dX3_comeToRest_77 (by decide) ?_
    refine g_iload_n E 2 dX3_comeToRest_79 rfl rfl ?_
    refine g_imul E dX3_comeToRest_80 ?_
    refine g_aload_n E 0 dX3_comeToRest_81 rfl rfl ?_
    refine g_get E (ci := 3) inlX3 4 rfl rfl 3 (by decide) fl_X3_34 rfl (.int (S4_.1 8)) rfl dX3_comeToRest_82 ?_
    refine g_isub E dX3_comeToRest_85 ?_
    refine g_aload_n E 0 dX3_comeToRest_86 rfl rfl ?_
    refine g_get E (ci := 3) inlX3 4 rfl rfl 0 (by decide) fl_X3_18 rfl (.ref (a 1)) rfl dX3_comeToRest_87 ?_
    refine g_iconst E 0 dX3_comeToRest_90 (by decide) ?_
    refine g_iald E 5 rfl rfl 0 rfl (by decide) (by decide) dX3_comeToRest_91 ?_
    refine g_callSNp E gc_X4_quotient (List.mem_of_getElem? (i := 12) rfl) (t_X4_quotient d ((16 * y) - (S4_.1 8)) (S4_.2.1 0) ) rfl rfl rfl (ok_le rfl) ⟨ok_le rfl, ok_le rfl, ok_le rfl, ok_le rfl⟩ rfl rfl dX3_comeToRest_92 ?_
    refine g_nm (fun v6_ hv6_ => ?_)
    refine g_iadd E dX3_comeToRest_95 ?_
    refine g_put E (ci := 3) inlX3 4 rfl rfl 3 (by decide) tyX3 tyX3_ok nmX3 fl_X3_34 rfl rfl rfl rfl (ok_lt rfl) (ws' := SK d a (upd (upd S4_.1 7 ((S4_.1 7) + v5_)) 8 ((S4_.1 8) + v6_), S4_.2)) rfl dX3_comeToRest_96 ?_
    subst hv6_
    subst hv5_
    subst hS4_
    subst hv3_
    subst hJ2_
    exact RET 99 _ _ dX3_comeToRest_99 (by rw [c_X3_comeToRest_at17, if_neg c_21])
  · skip
    refine g_aload_n E 0 dX3_comeToRest_24 rfl rfl ?_
    refine g_dup E dX3_comeToRest_25 rfl ?_
    refine g_get E (ci := 3) inlX3 4 rfl rfl 16 (by decide) fl_X3_83 rfl (.int (J2_ 20)) rfl dX3_comeToRest_26 ?_
    refine g_iconst E 1 dX3_comeToRest_29 (by decide) ?_
    refine g_iadd E dX3_comeToRest_30 ?_
    refine g_put E (ci := 3) inlX3 4 rfl rfl 16 (by decide) tyX3 tyX3_ok nmX3 fl_X3_83 rfl rfl rfl rfl (ok_lt rfl) (ws' := SK d a (upd J2_ 20 ((J2_ 20) + 1), S.2)) rfl dX3_comeToRest_31 ?_
    subst hJ2_
    exact RET 34 _ _ dX3_comeToRest_34 (by rw [c_X3_comeToRest_at17, if_pos c_21])
set_option maxHeartbeats 400000 in
set_option maxRecDepth 100000 in
theorem s_X3_comeToRest_0 (d : gD) (a : Nat → Nat) (x : Int32) (y : Int32) (S : SS)   {X : gX} (E : gE d X RX3 cX3_comeToRest 3 R_X3_comeToRest) (RET : ∀ (pc_ : Nat) (lv_ : List (Nat × Value)) (u_ : va_W), decode cX3_comeToRest pc_ = .ok (.return_, 1) → u_ = SK d a (c_X3_comeToRest x y S) → G d X u_ R_X3_comeToRest.cells R_X3_comeToRest.slots pc_ lv_ []) : G d X (SK d a S) 0 0 0 [(0, .ref (a 0)), (1, .int x), (2, .int y)] [] := by
  refine g_aload_n E 0 dX3_comeToRest_0 rfl rfl ?_
  refine g_callVi0 E gc_X3_tellsSomething ml_X3_149 (t_X3_tellsSomething d a S ) rfl rfl (ci := 3) 4 rfl rfl rfl rfl (ok_le rfl) ⟨ok_le rfl, ok_le rfl, ok_le rfl, ok_le rfl⟩ rfl rfl dX3_comeToRest_1 ?_
  refine g_nm (fun v1_ hv1_ => ?_)
  refine g_ifeq E 17 dX3_comeToRest_4 (by decide) (fun c_4 => ?_) (fun c_4 => ?_)
  · skip
    subst hv1_
    have J := s_X3_comeToRest_17 d a x y S   E (fun pc_ lv_ u_ h1_ h2_ => RET pc_ lv_ u_ h1_ (h2_.trans (by rw [c_X3_comeToRest])))
    rw [j_X3_comeToRest_17_g, if_pos c_4] at J
    exact J
  · skip
    refine g_aload_n E 0 dX3_comeToRest_7 rfl rfl ?_
    refine g_dup E dX3_comeToRest_8 rfl ?_
    refine g_get E (ci := 3) inlX3 4 rfl rfl 12 (by decide) fl_X3_71 rfl (.int (S.1 16)) rfl dX3_comeToRest_9 ?_
    refine g_iconst E 1 dX3_comeToRest_12 (by decide) ?_
    refine g_iadd E dX3_comeToRest_13 ?_
    refine g_put E (ci := 3) inlX3 4 rfl rfl 12 (by decide) tyX3 tyX3_ok nmX3 fl_X3_71 rfl rfl rfl rfl (ok_lt rfl) (ws' := SK d a (upd S.1 16 ((S.1 16) + 1), S.2)) rfl dX3_comeToRest_14 ?_
    subst hv1_
    have J := s_X3_comeToRest_17 d a x y S   E (fun pc_ lv_ u_ h1_ h2_ => RET pc_ lv_ u_ h1_ (h2_.trans (by rw [c_X3_comeToRest])))
    rw [j_X3_comeToRest_17_g, if_neg c_4] at J
    exact J
set_option maxHeartbeats 400000 in
set_option maxRecDepth 100000 in
theorem t_X3_comeToRest (d : gD) (a : Nat → Nat) (x : Int32) (y : Int32) (S : SS)  : gMv d yX3_comeToRest cX3_comeToRest 3 R_X3_comeToRest [.ref (a 0), .int x, .int y] (SK d a S) (fun u_ => u_ = SK d a (c_X3_comeToRest x y S)) :=
  g_met_v RX3 rfl (by decide +kernel) (Nat.le_of_ble_eq_true rfl) [(0, .ref (a 0)), (1, .int x), (2, .int y)] rfl (fun X E _ RET => s_X3_comeToRest_0 d a x y S  E (fun pc_ lv_ u_ h1_ h2_ => RET pc_ lv_ u_ h1_ h2_))
end
section
abbrev R_X3_tell : Room := { frames := 2, cells := 0, slots := 0, locals := 38 }
def j_X3_tell_41_g (telling : Int32) (S : SS) : Nat → Int32 := if (r_X3_tellsSomething (upd (upd S.1 14 ((telling / 1000) - 100)) 15 ((telling - telling / 1000 * 1000) - 100), S.2)) = 0 then (upd (upd S.1 14 ((telling / 1000) - 100)) 15 ((telling - telling / 1000 * 1000) - 100)) else (upd (upd (upd S.1 14 ((telling / 1000) - 100)) 15 ((telling - telling / 1000 * 1000) - 100)) 19 ((S.1 19) + 1))
def c_X3_tell_at41 (telling : Int32) (S : SS) : SS := ((j_X3_tell_41_g telling S), S.2.1, (c_X0_note (r_J6_compare_7cf53 ((j_X3_tell_41_g telling S) 14) 0) (r_J6_compare_7cf53 ((j_X3_tell_41_g telling S) 15) 0) S.2.2))
def c_X3_tell (telling : Int32) (S : SS) : SS := c_X3_tell_at41 telling S
set_option maxHeartbeats 400000 in
set_option maxRecDepth 100000 in
theorem s_X3_tell_41 (d : gD) (a : Nat → Nat) (telling : Int32) (S : SS) (hu : ¬ S.2.2.1 0 < 0)  {X : gX} (E : gE d X RX3 cX3_tell 2 R_X3_tell) (RET : ∀ (pc_ : Nat) (lv_ : List (Nat × Value)) (u_ : va_W), decode cX3_tell pc_ = .ok (.return_, 1) → u_ = SK d a (c_X3_tell_at41 telling S) → G d X u_ R_X3_tell.cells R_X3_tell.slots pc_ lv_ []) : G d X (SK d a ((j_X3_tell_41_g telling S), S.2)) 0 0 41 [(0, .ref (a 0)), (1, .int telling)] [] := by
  obtain ⟨J2_, hJ2_⟩ : ∃ z, z = j_X3_tell_41_g telling S := ⟨_, rfl⟩
  rw [← hJ2_]
  refine g_aload_n E 0 dX3_tell_41 rfl rfl ?_
  refine g_get E (ci := 3) inlX3 4 rfl rfl 1 (by decide) fl_X3_26 rfl (.ref (a 2)) rfl dX3_tell_42 ?_
  refine g_aload_n E 0 dX3_tell_45 rfl rfl ?_
  refine g_get E (ci := 3) inlX3 4 rfl rfl 5 (by decide) fl_X3_50 rfl (.int (J2_ 14)) rfl dX3_tell_46 ?_
  refine g_iconst E 0 dX3_tell_49 (by decide) ?_
  refine g_callSp E gc_J6_compare_7cf53 ml_X3_153 (t_J6_compare_7cf53 d (J2_ 14) 0 ) rfl rfl rfl (ok_le rfl) ⟨ok_le rfl, ok_le rfl, ok_le rfl, ok_le rfl⟩ rfl rfl dX3_tell_50 ?_
  refine g_nm (fun v3_ hv3_ => ?_)
  refine g_aload_n E 0 dX3_tell_53 rfl rfl ?_
  refine g_get E (ci := 3) inlX3 4 rfl rfl 6 (by decide) fl_X3_53 rfl (.int (J2_ 15)) rfl dX3_tell_54 ?_
  refine g_iconst E 0 dX3_tell_57 (by decide) ?_
  refine g_callSp E gc_J6_compare_7cf53 ml_X3_153 (t_J6_compare_7cf53 d (J2_ 15) 0 ) rfl rfl rfl (ok_le rfl) ⟨ok_le rfl, ok_le rfl, ok_le rfl, ok_le rfl⟩ rfl rfl dX3_tell_58 ?_
  refine g_nm (fun v4_ hv4_ => ?_)
  refine g_callVvD E gc_X0_note ml_X3_158 (t_X0_note d a v3_ v4_ S.2.2 (by assumption)) rfl (wr := SO d a J2_ S.2.1) rfl (ci := 0) 0 rfl rfl rfl rfl (ok_le rfl) ⟨ok_le rfl, ok_le rfl, ok_le rfl, ok_le rfl⟩ rfl rfl dX3_tell_61 ?_
  refine g_eq (ws' := SK d a (J2_, S.2.1, (c_X0_note v3_ v4_ S.2.2))) (SK_mk d a J2_ S.2.1 (c_X0_note v3_ v4_ S.2.2)) ?_
  obtain ⟨S5_, hS5_⟩ : ∃ z, z = c_X0_note v3_ v4_ S.2.2 := ⟨_, rfl⟩
  rw [← hS5_]
  subst hS5_
  subst hv4_
  subst hv3_
  subst hJ2_
  exact RET 64 _ _ dX3_tell_64 (by rw [c_X3_tell_at41])
set_option maxHeartbeats 400000 in
set_option maxRecDepth 100000 in
theorem s_X3_tell_0 (d : gD) (a : Nat → Nat) (telling : Int32) (S : SS) (hu : ¬ S.2.2.1 0 < 0)  {X : gX} (E : gE d X RX3 cX3_tell 2 R_X3_tell) (RET : ∀ (pc_ : Nat) (lv_ : List (Nat × Value)) (u_ : va_W), decode cX3_tell pc_ = .ok (.return_, 1) → u_ = SK d a (c_X3_tell telling S) → G d X u_ R_X3_tell.cells R_X3_tell.slots pc_ lv_ []) : G d X (SK d a S) 0 0 0 [(0, .ref (a 0)), (1, .int telling)] [] := by
  refine g_aload_n E 0 dX3_tell_0 rfl rfl ?_
  refine g_iload_n E 1 dX3_tell_1 rfl rfl ?_
  refine g_sipush E 1000 dX3_tell_2 (by decide) ?_
  refine g_idiv E dX3_tell_5 (by decide) ?_
  refine g_bipush E 100 dX3_tell_6 (by decide) ?_
  refine g_isub E dX3_tell_8 ?_
  refine g_put E (ci := 3) inlX3 4 rfl rfl 5 (by decide) tyX3 tyX3_ok nmX3 fl_X3_50 rfl rfl rfl rfl (ok_lt rfl) (ws' := SK d a (upd S.1 14 ((telling / 1000) - 100), S.2)) rfl dX3_tell_9 ?_
  refine g_aload_n E 0 dX3_tell_12 rfl rfl ?_
  refine g_iload_n E 1 dX3_tell_13 rfl rfl ?_
  refine g_sipush E 1000 dX3_tell_14 (by decide) ?_
  refine g_irem E dX3_tell_17 (by decide) ?_
  refine g_bipush E 100 dX3_tell_18 (by decide) ?_
  refine g_isub E dX3_tell_20 ?_
  refine g_put E (ci := 3) inlX3 4 rfl rfl 6 (by decide) tyX3 tyX3_ok nmX3 fl_X3_53 rfl rfl rfl rfl (ok_lt rfl) (ws' := SK d a (upd (upd S.1 14 ((telling / 1000) - 100)) 15 ((telling - telling / 1000 * 1000) - 100), S.2)) rfl dX3_tell_21 ?_
  refine g_aload_n E 0 dX3_tell_24 rfl rfl ?_
  refine g_callVi0 E gc_X3_tellsSomething ml_X3_149 (t_X3_tellsSomething d a (upd (upd S.1 14 ((telling / 1000) - 100)) 15 ((telling - telling / 1000 * 1000) - 100), S.2) ) rfl rfl (ci := 3) 4 rfl rfl rfl rfl (ok_le rfl) ⟨ok_le rfl, ok_le rfl, ok_le rfl, ok_le rfl⟩ rfl rfl dX3_tell_25 ?_
  refine g_nm (fun v1_ hv1_ => ?_)
  refine g_ifeq E 41 dX3_tell_28 (by decide) (fun c_28 => ?_) (fun c_28 => ?_)
  · skip
    subst hv1_
    have J := s_X3_tell_41 d a telling S hu  E (fun pc_ lv_ u_ h1_ h2_ => RET pc_ lv_ u_ h1_ (h2_.trans (by rw [c_X3_tell])))
    rw [j_X3_tell_41_g, if_pos c_28] at J
    exact J
  · skip
    refine g_aload_n E 0 dX3_tell_31 rfl rfl ?_
    refine g_dup E dX3_tell_32 rfl ?_
    refine g_get E (ci := 3) inlX3 4 rfl rfl 15 (by decide) fl_X3_80 rfl (.int (S.1 19)) rfl dX3_tell_33 ?_
    refine g_iconst E 1 dX3_tell_36 (by decide) ?_
    refine g_iadd E dX3_tell_37 ?_
    refine g_put E (ci := 3) inlX3 4 rfl rfl 15 (by decide) tyX3 tyX3_ok nmX3 fl_X3_80 rfl rfl rfl rfl (ok_lt rfl) (ws' := SK d a (upd (upd (upd S.1 14 ((telling / 1000) - 100)) 15 ((telling - telling / 1000 * 1000) - 100)) 19 ((S.1 19) + 1), S.2)) rfl dX3_tell_38 ?_
    subst hv1_
    have J := s_X3_tell_41 d a telling S hu  E (fun pc_ lv_ u_ h1_ h2_ => RET pc_ lv_ u_ h1_ (h2_.trans (by rw [c_X3_tell])))
    rw [j_X3_tell_41_g, if_neg c_28] at J
    exact J
set_option maxHeartbeats 400000 in
set_option maxRecDepth 100000 in
theorem t_X3_tell (d : gD) (a : Nat → Nat) (telling : Int32) (S : SS) (hu : ¬ S.2.2.1 0 < 0) : gMv d yX3_tell cX3_tell 2 R_X3_tell [.ref (a 0), .int telling] (SK d a S) (fun u_ => u_ = SK d a (c_X3_tell telling S)) :=
  g_met_v RX3 rfl (by decide +kernel) (Nat.le_of_ble_eq_true rfl) [(0, .ref (a 0)), (1, .int telling)] rfl (fun X E _ RET => s_X3_tell_0 d a telling S hu E (fun pc_ lv_ u_ h1_ h2_ => RET pc_ lv_ u_ h1_ h2_))
end
section
abbrev R_X3_take : Room := { frames := 4, cells := 0, slots := 0, locals := 85 }
def j_X3_take_25_s0 (x : Int32) (y : Int32) (S : SS) : Int32 := if (S.1 9) < (r_X3_farthestOff x y S) then 0 else 1
def j_X3_take_80_g (x : Int32) (y : Int32) (S : SS) : Nat → Int32 := if (j_X3_take_25_s0 x y S) = 0 then (if (r_X3_wouldDrift x y S) = 0 then (upd (upd (upd S.1 12 (r_X3_stillWith x y S)) 10 x) 11 y) else (c_X3_driftTo x y (upd (upd (upd S.1 12 (r_X3_stillWith x y S)) 10 x) 11 y, S.2)).1) else (c_X3_comeToRest x y (upd (upd (upd S.1 12 (r_X3_stillWith x y S)) 10 x) 11 y, S.2)).1
def j_X3_take_80_st (x : Int32) (y : Int32) (S : SS) : Nat → Int32 := if (j_X3_take_25_s0 x y S) = 0 then (if (r_X3_wouldDrift x y S) = 0 then S.2.1 else (c_X3_driftTo x y (upd (upd (upd S.1 12 (r_X3_stillWith x y S)) 10 x) 11 y, S.2)).2.1) else (c_X3_comeToRest x y (upd (upd (upd S.1 12 (r_X3_stillWith x y S)) 10 x) 11 y, S.2)).2.1
def j_X3_take_80_D (x : Int32) (y : Int32) (S : SS) : DD := if (j_X3_take_25_s0 x y S) = 0 then (if (r_X3_wouldDrift x y S) = 0 then S.2.2 else (c_X3_driftTo x y (upd (upd (upd S.1 12 (r_X3_stillWith x y S)) 10 x) 11 y, S.2)).2.2) else (c_X3_comeToRest x y (upd (upd (upd S.1 12 (r_X3_stillWith x y S)) 10 x) 11 y, S.2)).2.2
def j_X3_take_102_g (x : Int32) (y : Int32) (S : SS) : Nat → Int32 := if 0 < ((c_X3_tell (r_X3_tellingAt x y S) ((j_X3_take_80_g x y S), (j_X3_take_80_st x y S), (j_X3_take_80_D x y S))).1 13) then (upd (c_X3_tell (r_X3_tellingAt x y S) ((j_X3_take_80_g x y S), (j_X3_take_80_st x y S), (j_X3_take_80_D x y S))).1 13 (((c_X3_tell (r_X3_tellingAt x y S) ((j_X3_take_80_g x y S), (j_X3_take_80_st x y S), (j_X3_take_80_D x y S))).1 13) - 1)) else (c_X3_tell (r_X3_tellingAt x y S) ((j_X3_take_80_g x y S), (j_X3_take_80_st x y S), (j_X3_take_80_D x y S))).1
def c_X3_take_at102 (x : Int32) (y : Int32) (S : SS) : SS := (upd (j_X3_take_102_g x y S) 21 (((j_X3_take_102_g x y S) 21) + 1), (c_X3_tell (r_X3_tellingAt x y S) ((j_X3_take_80_g x y S), (j_X3_take_80_st x y S), (j_X3_take_80_D x y S))).2)
def c_X3_take_at80 (x : Int32) (y : Int32) (S : SS) : SS := c_X3_take_at102 x y S
def c_X3_take_at25 (x : Int32) (y : Int32) (S : SS) : SS := c_X3_take_at80 x y S
def c_X3_take (x : Int32) (y : Int32) (S : SS) : SS := c_X3_take_at25 x y S
theorem fitZone_2 (off : Int32) (S : SS) : (c_X3_fitZone off S).2 = S.2 := by
  unfold c_X3_fitZone
  split
  · rfl
  · split <;> rfl
theorem comeToRest_2 (x y : Int32) (S : SS) : (c_X3_comeToRest x y S).2 = S.2 := by
  unfold c_X3_comeToRest c_X3_comeToRest_at17
  split
  · rfl
  · exact fitZone_2 _ _
theorem j80D (x y : Int32) (S : SS) : j_X3_take_80_D x y S = S.2.2 := by
  unfold j_X3_take_80_D
  split
  · split <;> rfl
  · exact congrArg (fun q => q.2) (comeToRest_2 _ _ _)
set_option maxHeartbeats 400000 in
set_option maxRecDepth 100000 in
theorem s_X3_take_102 (d : gD) (a : Nat → Nat) (x : Int32) (y : Int32) (S : SS) (hu : ¬ S.2.2.1 0 < 0)  {X : gX} (E : gE d X RX3 cX3_take 6 R_X3_take) (RET : ∀ (pc_ : Nat) (lv_ : List (Nat × Value)) (u_ : va_W), decode cX3_take pc_ = .ok (.return_, 1) → u_ = SK d a (c_X3_take_at102 x y S) → G d X u_ R_X3_take.cells R_X3_take.slots pc_ lv_ []) : G d X (SK d a ((j_X3_take_102_g x y S), (c_X3_tell (r_X3_tellingAt x y S) ((j_X3_take_80_g x y S), (j_X3_take_80_st x y S), (j_X3_take_80_D x y S))).2)) 0 0 102 [(0, .ref (a 0)), (1, .int x), (2, .int y), (3, .int (r_X3_tellingAt x y S)), (4, .int (j_X3_take_25_s0 x y S)), (5, .int (r_X3_wouldDrift x y S))] [] := by
  obtain ⟨v1_, hv1_⟩ : ∃ z, z = r_X3_tellingAt x y S := ⟨_, rfl⟩
  rw [← hv1_]
  obtain ⟨J3_, hJ3_⟩ : ∃ z, z = j_X3_take_25_s0 x y S := ⟨_, rfl⟩
  rw [← hJ3_]
  obtain ⟨v4_, hv4_⟩ : ∃ z, z = r_X3_wouldDrift x y S := ⟨_, rfl⟩
  rw [← hv4_]
  obtain ⟨J8_, hJ8_⟩ : ∃ z, z = j_X3_take_80_g x y S := ⟨_, rfl⟩
  rw [← hJ8_]
  obtain ⟨J9_, hJ9_⟩ : ∃ z, z = j_X3_take_80_st x y S := ⟨_, rfl⟩
  rw [← hJ9_]
  obtain ⟨J10_, hJ10_⟩ : ∃ z, z = j_X3_take_80_D x y S := ⟨_, rfl⟩
  rw [← hJ10_]
  obtain ⟨S11_, hS11_⟩ : ∃ z, z = c_X3_tell v1_ (J8_, J9_, J10_) := ⟨_, rfl⟩
  rw [← hS11_]
  obtain ⟨J12_, hJ12_⟩ : ∃ z, z = j_X3_take_102_g x y S := ⟨_, rfl⟩
  rw [← hJ12_]
  refine g_aload_n E 0 dX3_take_102 rfl rfl ?_
  refine g_dup E dX3_take_103 rfl ?_
  refine g_get E (ci := 3) inlX3 4 rfl rfl 11 (by decide) fl_X3_68 rfl (.int (J12_ 21)) rfl dX3_take_104 ?_
  refine g_iconst E 1 dX3_take_107 (by decide) ?_
  refine g_iadd E dX3_take_108 ?_
  refine g_put E (ci := 3) inlX3 4 rfl rfl 11 (by decide) tyX3 tyX3_ok nmX3 fl_X3_68 rfl rfl rfl rfl (ok_lt rfl) (ws' := SK d a (upd J12_ 21 ((J12_ 21) + 1), S11_.2)) rfl dX3_take_109 ?_
  subst hJ12_
  subst hS11_
  subst hJ10_
  subst hJ9_
  subst hJ8_
  subst hv4_
  subst hJ3_
  subst hv1_
  exact RET 112 _ _ dX3_take_112 (by rw [c_X3_take_at102])
set_option maxHeartbeats 400000 in
set_option maxRecDepth 100000 in
theorem s_X3_take_80 (d : gD) (a : Nat → Nat) (x : Int32) (y : Int32) (S : SS) (hu : ¬ S.2.2.1 0 < 0)  {X : gX} (E : gE d X RX3 cX3_take 6 R_X3_take) (RET : ∀ (pc_ : Nat) (lv_ : List (Nat × Value)) (u_ : va_W), decode cX3_take pc_ = .ok (.return_, 1) → u_ = SK d a (c_X3_take_at80 x y S) → G d X u_ R_X3_take.cells R_X3_take.slots pc_ lv_ []) : G d X (SK d a ((j_X3_take_80_g x y S), (j_X3_take_80_st x y S), (j_X3_take_80_D x y S))) 0 0 80 [(0, .ref (a 0)), (1, .int x), (2, .int y), (3, .int (r_X3_tellingAt x y S)), (4, .int (j_X3_take_25_s0 x y S)), (5, .int (r_X3_wouldDrift x y S))] [] := by
  obtain ⟨v1_, hv1_⟩ : ∃ z, z = r_X3_tellingAt x y S := ⟨_, rfl⟩
  rw [← hv1_]
  obtain ⟨J3_, hJ3_⟩ : ∃ z, z = j_X3_take_25_s0 x y S := ⟨_, rfl⟩
  rw [← hJ3_]
  obtain ⟨v4_, hv4_⟩ : ∃ z, z = r_X3_wouldDrift x y S := ⟨_, rfl⟩
  rw [← hv4_]
  obtain ⟨J8_, hJ8_⟩ : ∃ z, z = j_X3_take_80_g x y S := ⟨_, rfl⟩
  rw [← hJ8_]
  obtain ⟨J9_, hJ9_⟩ : ∃ z, z = j_X3_take_80_st x y S := ⟨_, rfl⟩
  rw [← hJ9_]
  obtain ⟨J10_, hJ10_⟩ : ∃ z, z = j_X3_take_80_D x y S := ⟨_, rfl⟩
  rw [← hJ10_]
  refine g_aload_n E 0 dX3_take_80 rfl rfl ?_
  refine g_iload_n E 3 dX3_take_81 rfl rfl ?_
  refine g_callVv0 E gc_X3_tell ml_X3_145 (t_X3_tell d a v1_ (J8_, J9_, J10_) (by subst_vars; show ¬ (j_X3_take_80_D x y S).1 0 < 0; rw [j80D]; exact hu)) rfl rfl (ci := 3) 4 rfl rfl rfl rfl (ok_le rfl) ⟨ok_le rfl, ok_le rfl, ok_le rfl, ok_le rfl⟩ rfl rfl dX3_take_82 ?_
  obtain ⟨S11_, hS11_⟩ : ∃ z, z = c_X3_tell v1_ (J8_, J9_, J10_) := ⟨_, rfl⟩
  rw [← hS11_]
  refine g_aload_n E 0 dX3_take_85 rfl rfl ?_
  refine g_get E (ci := 3) inlX3 4 rfl rfl 10 (by decide) fl_X3_65 rfl (.int (S11_.1 13)) rfl dX3_take_86 ?_
  refine g_ifle E 102 dX3_take_89 (by decide) (fun c_89 => ?_) (fun c_89 => ?_)
  · skip
    subst hS11_
    subst hJ10_
    subst hJ9_
    subst hJ8_
    subst hv4_
    subst hJ3_
    subst hv1_
    have J := s_X3_take_102 d a x y S hu  E (fun pc_ lv_ u_ h1_ h2_ => RET pc_ lv_ u_ h1_ (h2_.trans (by rw [c_X3_take_at80])))
    rw [j_X3_take_102_g, if_neg c_89] at J
    exact J
  · skip
    refine g_aload_n E 0 dX3_take_92 rfl rfl ?_
    refine g_dup E dX3_take_93 rfl ?_
    refine g_get E (ci := 3) inlX3 4 rfl rfl 10 (by decide) fl_X3_65 rfl (.int (S11_.1 13)) rfl dX3_take_94 ?_
    refine g_iconst E 1 dX3_take_97 (by decide) ?_
    refine g_isub E dX3_take_98 ?_
    refine g_put E (ci := 3) inlX3 4 rfl rfl 10 (by decide) tyX3 tyX3_ok nmX3 fl_X3_65 rfl rfl rfl rfl (ok_lt rfl) (ws' := SK d a (upd S11_.1 13 ((S11_.1 13) - 1), S11_.2)) rfl dX3_take_99 ?_
    subst hS11_
    subst hJ10_
    subst hJ9_
    subst hJ8_
    subst hv4_
    subst hJ3_
    subst hv1_
    have J := s_X3_take_102 d a x y S hu  E (fun pc_ lv_ u_ h1_ h2_ => RET pc_ lv_ u_ h1_ (h2_.trans (by rw [c_X3_take_at80])))
    rw [j_X3_take_102_g, if_pos c_89] at J
    exact J
set_option maxHeartbeats 400000 in
set_option maxRecDepth 100000 in
theorem s_X3_take_25 (d : gD) (a : Nat → Nat) (x : Int32) (y : Int32) (S : SS) (hu : ¬ S.2.2.1 0 < 0)  {X : gX} (E : gE d X RX3 cX3_take 6 R_X3_take) (RET : ∀ (pc_ : Nat) (lv_ : List (Nat × Value)) (u_ : va_W), decode cX3_take pc_ = .ok (.return_, 1) → u_ = SK d a (c_X3_take_at25 x y S) → G d X u_ R_X3_take.cells R_X3_take.slots pc_ lv_ []) : G d X (SK d a S) 0 0 25 [(0, .ref (a 0)), (1, .int x), (2, .int y), (3, .int (r_X3_tellingAt x y S))] [.int (j_X3_take_25_s0 x y S)] := by
  obtain ⟨v1_, hv1_⟩ : ∃ z, z = r_X3_tellingAt x y S := ⟨_, rfl⟩
  rw [← hv1_]
  obtain ⟨J3_, hJ3_⟩ : ∃ z, z = j_X3_take_25_s0 x y S := ⟨_, rfl⟩
  rw [← hJ3_]
  refine g_istore E (lv' := [(4, .int J3_), (0, .ref (a 0)), (1, .int x), (2, .int y), (3, .int v1_)]) dX3_take_25 (by decide) rfl ?_
  refine g_aload_n E 1 dX3_take_27 rfl rfl ?_
  refine g_iload_n E 2 dX3_take_28 rfl rfl ?_
  refine g_iload_n E 3 dX3_take_29 rfl rfl ?_
  refine g_callVi0 E gc_X3_wouldDrift ml_X3_120 (t_X3_wouldDrift d a x y S ) rfl rfl (ci := 3) 4 rfl rfl rfl rfl (ok_le rfl) ⟨ok_le rfl, ok_le rfl, ok_le rfl, ok_le rfl⟩ rfl rfl dX3_take_30 ?_
  refine g_nm (fun v4_ hv4_ => ?_)
  refine g_istore E (lv' := [(5, .int v4_), (4, .int J3_), (0, .ref (a 0)), (1, .int x), (2, .int y), (3, .int v1_)]) dX3_take_33 (by decide) rfl ?_
  refine g_aload_n E 2 dX3_take_35 rfl rfl ?_
  refine g_aload_n E 2 dX3_take_36 rfl rfl ?_
  refine g_iload_n E 3 dX3_take_37 rfl rfl ?_
  refine g_iload_n E 4 dX3_take_38 rfl rfl ?_
  refine g_callVi0 E gc_X3_stillWith ml_X3_117 (t_X3_stillWith d a x y S ) rfl rfl (ci := 3) 4 rfl rfl rfl rfl (ok_le rfl) ⟨ok_le rfl, ok_le rfl, ok_le rfl, ok_le rfl⟩ rfl rfl dX3_take_39 ?_
  refine g_nm (fun v5_ hv5_ => ?_)
  refine g_put E (ci := 3) inlX3 4 rfl rfl 9 (by decide) tyX3 tyX3_ok nmX3 fl_X3_62 rfl rfl rfl rfl (ok_lt rfl) (ws' := SK d a (upd S.1 12 v5_, S.2)) rfl dX3_take_42 ?_
  refine g_aload_n E 2 dX3_take_45 rfl rfl ?_
  refine g_iload_n E 3 dX3_take_46 rfl rfl ?_
  refine g_put E (ci := 3) inlX3 4 rfl rfl 7 (by decide) tyX3 tyX3_ok nmX3 fl_X3_56 rfl rfl rfl rfl (ok_lt rfl) (ws' := SK d a (upd (upd S.1 12 v5_) 10 x, S.2)) rfl dX3_take_47 ?_
  refine g_aload_n E 2 dX3_take_50 rfl rfl ?_
  refine g_iload_n E 4 dX3_take_51 rfl rfl ?_
  refine g_put E (ci := 3) inlX3 4 rfl rfl 8 (by decide) tyX3 tyX3_ok nmX3 fl_X3_59 rfl rfl rfl rfl (ok_lt rfl) (ws' := SK d a (upd (upd (upd S.1 12 v5_) 10 x) 11 y, S.2)) rfl dX3_take_52 ?_
  refine g_iload E 1 dX3_take_55 rfl ?_
  refine g_ifeq E 69 dX3_take_57 (by decide) (fun c_57 => ?_) (fun c_57 => ?_)
  · skip
    refine g_iload E 0 dX3_take_69 rfl ?_
    refine g_ifeq E 80 dX3_take_71 (by decide) (fun c_71 => ?_) (fun c_71 => ?_)
    · skip
      refine g_lvs (lv' := [(0, .ref (a 0)), (1, .int x), (2, .int y), (3, .int v1_), (4, .int J3_), (5, .int v4_)]) [2, 3, 4, 5, 1, 0] rfl ?_
      subst hv5_
      subst hv4_
      subst hJ3_
      subst hv1_
      have J := s_X3_take_80 d a x y S hu  E (fun pc_ lv_ u_ h1_ h2_ => RET pc_ lv_ u_ h1_ (h2_.trans (by rw [c_X3_take_at25])))
      rw [j_X3_take_80_g, if_pos c_57, if_pos c_71, j_X3_take_80_st, if_pos c_57, if_pos c_71, j_X3_take_80_D, if_pos c_57, if_pos c_71] at J
      exact J
    · skip
      refine g_aload_n E 2 dX3_take_74 rfl rfl ?_
      refine g_iload_n E 3 dX3_take_75 rfl rfl ?_
      refine g_iload_n E 4 dX3_take_76 rfl rfl ?_
      refine g_callVv0 E gc_X3_driftTo ml_X3_142 (t_X3_driftTo d a x y (upd (upd (upd S.1 12 v5_) 10 x) 11 y, S.2) ) rfl rfl (ci := 3) 4 rfl rfl rfl rfl (ok_le rfl) ⟨ok_le rfl, ok_le rfl, ok_le rfl, ok_le rfl⟩ rfl rfl dX3_take_77 ?_
      obtain ⟨S6_, hS6_⟩ : ∃ z, z = c_X3_driftTo x y (upd (upd (upd S.1 12 v5_) 10 x) 11 y, S.2) := ⟨_, rfl⟩
      rw [← hS6_]
      refine g_lvs (lv' := [(0, .ref (a 0)), (1, .int x), (2, .int y), (3, .int v1_), (4, .int J3_), (5, .int v4_)]) [2, 3, 4, 5, 1, 0] rfl ?_
      subst hS6_
      subst hv5_
      subst hv4_
      subst hJ3_
      subst hv1_
      have J := s_X3_take_80 d a x y S hu  E (fun pc_ lv_ u_ h1_ h2_ => RET pc_ lv_ u_ h1_ (h2_.trans (by rw [c_X3_take_at25])))
      rw [j_X3_take_80_g, if_pos c_57, if_neg c_71, j_X3_take_80_st, if_pos c_57, if_neg c_71, j_X3_take_80_D, if_pos c_57, if_neg c_71] at J
      exact J
  · skip
    refine g_aload_n E 2 dX3_take_60 rfl rfl ?_
    refine g_iload_n E 3 dX3_take_61 rfl rfl ?_
    refine g_iload_n E 4 dX3_take_62 rfl rfl ?_
    refine g_callVv0 E gc_X3_comeToRest ml_X3_138 (t_X3_comeToRest d a x y (upd (upd (upd S.1 12 v5_) 10 x) 11 y, S.2) ) rfl rfl (ci := 3) 4 rfl rfl rfl rfl (ok_le rfl) ⟨ok_le rfl, ok_le rfl, ok_le rfl, ok_le rfl⟩ rfl rfl dX3_take_63 ?_
    obtain ⟨S7_, hS7_⟩ : ∃ z, z = c_X3_comeToRest x y (upd (upd (upd S.1 12 v5_) 10 x) 11 y, S.2) := ⟨_, rfl⟩
    rw [← hS7_]
    refine g_goto E 80 dX3_take_66 (by decide) ?_
    refine g_lvs (lv' := [(0, .ref (a 0)), (1, .int x), (2, .int y), (3, .int v1_), (4, .int J3_), (5, .int v4_)]) [2, 3, 4, 5, 1, 0] rfl ?_
    subst hS7_
    subst hv5_
    subst hv4_
    subst hJ3_
    subst hv1_
    have J := s_X3_take_80 d a x y S hu  E (fun pc_ lv_ u_ h1_ h2_ => RET pc_ lv_ u_ h1_ (h2_.trans (by rw [c_X3_take_at25])))
    rw [j_X3_take_80_g, if_neg c_57, j_X3_take_80_st, if_neg c_57, j_X3_take_80_D, if_neg c_57] at J
    exact J
set_option maxHeartbeats 400000 in
set_option maxRecDepth 100000 in
theorem s_X3_take_0 (d : gD) (a : Nat → Nat) (x : Int32) (y : Int32) (S : SS) (hu : ¬ S.2.2.1 0 < 0)  {X : gX} (E : gE d X RX3 cX3_take 6 R_X3_take) (RET : ∀ (pc_ : Nat) (lv_ : List (Nat × Value)) (u_ : va_W), decode cX3_take pc_ = .ok (.return_, 1) → u_ = SK d a (c_X3_take x y S) → G d X u_ R_X3_take.cells R_X3_take.slots pc_ lv_ []) : G d X (SK d a S) 0 0 0 [(0, .ref (a 0)), (1, .int x), (2, .int y)] [] := by
  refine g_aload_n E 0 dX3_take_0 rfl rfl ?_
  refine g_iload_n E 1 dX3_take_1 rfl rfl ?_
  refine g_iload_n E 2 dX3_take_2 rfl rfl ?_
  refine g_callVi0 E gc_X3_tellingAt ml_X3_135 (t_X3_tellingAt d a x y S ) rfl rfl (ci := 3) 4 rfl rfl rfl rfl (ok_le rfl) ⟨ok_le rfl, ok_le rfl, ok_le rfl, ok_le rfl⟩ rfl rfl dX3_take_3 ?_
  refine g_nm (fun v1_ hv1_ => ?_)
  refine g_istore_n E (lv' := [(3, .int v1_), (0, .ref (a 0)), (1, .int x), (2, .int y)]) dX3_take_6 rfl (by decide) rfl ?_
  refine g_aload_n E 1 dX3_take_7 rfl rfl ?_
  refine g_iload_n E 2 dX3_take_8 rfl rfl ?_
  refine g_iload_n E 3 dX3_take_9 rfl rfl ?_
  refine g_callVi0 E gc_X3_farthestOff ml_X3_114 (t_X3_farthestOff d a x y S ) rfl rfl (ci := 3) 4 rfl rfl rfl rfl (ok_le rfl) ⟨ok_le rfl, ok_le rfl, ok_le rfl, ok_le rfl⟩ rfl rfl dX3_take_10 ?_
  refine g_nm (fun v2_ hv2_ => ?_)
  refine g_aload_n E 1 dX3_take_13 rfl rfl ?_
  refine g_get E (ci := 3) inlX3 4 rfl rfl 4 (by decide) fl_X3_37 rfl (.int (S.1 9)) rfl dX3_take_14 ?_
  refine g_icmpgt E 24 dX3_take_17 (by decide) (fun c_17 => ?_) (fun c_17 => ?_)
  · skip
    refine g_iconst E 0 dX3_take_24 (by decide) ?_
    refine g_lvs (lv' := [(0, .ref (a 0)), (1, .int x), (2, .int y), (3, .int v1_)]) [1, 2, 3, 0] rfl ?_
    subst hv2_
    subst hv1_
    have J := s_X3_take_25 d a x y S hu  E (fun pc_ lv_ u_ h1_ h2_ => RET pc_ lv_ u_ h1_ (h2_.trans (by rw [c_X3_take])))
    rw [j_X3_take_25_s0, if_pos c_17] at J
    exact J
  · skip
    refine g_iconst E 1 dX3_take_20 (by decide) ?_
    refine g_goto E 25 dX3_take_21 (by decide) ?_
    refine g_lvs (lv' := [(0, .ref (a 0)), (1, .int x), (2, .int y), (3, .int v1_)]) [1, 2, 3, 0] rfl ?_
    subst hv2_
    subst hv1_
    have J := s_X3_take_25 d a x y S hu  E (fun pc_ lv_ u_ h1_ h2_ => RET pc_ lv_ u_ h1_ (h2_.trans (by rw [c_X3_take])))
    rw [j_X3_take_25_s0, if_neg c_17] at J
    exact J
set_option maxHeartbeats 400000 in
set_option maxRecDepth 100000 in
theorem t_X3_take (d : gD) (a : Nat → Nat) (x : Int32) (y : Int32) (S : SS) (hu : ¬ S.2.2.1 0 < 0) : gMv d yX3_take cX3_take 6 R_X3_take [.ref (a 0), .int x, .int y] (SK d a S) (fun u_ => u_ = SK d a (c_X3_take x y S)) :=
  g_met_v RX3 rfl (by decide +kernel) (Nat.le_of_ble_eq_true rfl) [(0, .ref (a 0)), (1, .int x), (2, .int y)] rfl (fun X E _ RET => s_X3_take_0 d a x y S hu E (fun pc_ lv_ u_ h1_ h2_ => RET pc_ lv_ u_ h1_ h2_))
end
section
abbrev R_X3_about : Room := { frames := 0, cells := 0, slots := 0, locals := 0 }
def r_X3_about (what : Int32) (rest : Int32) (tells : Int32) (latest : Int32) (S : SS) : Int32 := if what = 0 then rest else (if what = 1 then (tells + 100) else (if what = 2 then (if (S.1 21) = 0 then (-6) else latest) else (if what = 3 then (if (S.1 21) = 0 then (-6) else ((latest - (rest / 16)) + 1000)) else (-2))))
set_option maxHeartbeats 400000 in
set_option maxRecDepth 100000 in
theorem s_X3_about_0 (d : gD) (a : Nat → Nat) (what : Int32) (rest : Int32) (tells : Int32) (latest : Int32) (S : SS)   {X : gX} (E : gE d X RX3 cX3_about 5 R_X3_about) (RET : ∀ (pc_ : Nat) (lv_ : List (Nat × Value)) (v_ : Int32) (u_ : va_W), decode cX3_about pc_ = .ok (.ireturn, 1) → narrow .int (.int v_) = .int v_ → v_ = r_X3_about what rest tells latest S → u_ = SK d a S → G d X u_ R_X3_about.cells R_X3_about.slots pc_ lv_ [.int v_]) : G d X (SK d a S) 0 0 0 [(0, .ref (a 0)), (1, .int what), (2, .int rest), (3, .int tells), (4, .int latest)] [] := by
  refine g_iload_n E 1 dX3_about_0 rfl rfl ?_
  by_cases w_1_0 : what = 0
  · skip
    refine g_tableIn E 32 dX3_about_1 (by rw [w_1_0]; decide) (by rw [w_1_0]; decide) (by rw [w_1_0]; rfl) (by decide) ?_
    refine g_iload_n E 2 dX3_about_32 rfl rfl ?_
    exact RET 33 _ rest _ dX3_about_33 rfl (by rw [r_X3_about, if_pos w_1_0]) rfl
  · skip
    by_cases w_1_1 : what = 1
    · skip
      refine g_tableIn E 34 dX3_about_1 (by rw [w_1_1]; decide) (by rw [w_1_1]; decide) (by rw [w_1_1]; rfl) (by decide) ?_
      refine g_iload_n E 3 dX3_about_34 rfl rfl ?_
      refine g_bipush E 100 dX3_about_35 (by decide) ?_
      refine g_iadd E dX3_about_37 ?_
      exact RET 38 _ (tells + 100) _ dX3_about_38 rfl (by rw [r_X3_about, if_neg w_1_0, if_pos w_1_1]) rfl
    · skip
      by_cases w_1_2 : what = 2
      · skip
        refine g_tableIn E 39 dX3_about_1 (by rw [w_1_2]; decide) (by rw [w_1_2]; decide) (by rw [w_1_2]; rfl) (by decide) ?_
        refine g_aload_n E 0 dX3_about_39 rfl rfl ?_
        refine g_get E (ci := 3) inlX3 4 rfl rfl 11 (by decide) fl_X3_68 rfl (.int (S.1 21)) rfl dX3_about_40 ?_
        refine g_ifne E 51 dX3_about_43 (by decide) (fun c_43 => ?_) (fun c_43 => ?_)
        · skip
          refine g_iload E 4 dX3_about_51 rfl ?_
          exact RET 53 _ latest _ dX3_about_53 rfl (by rw [r_X3_about, if_neg w_1_0, if_neg w_1_1, if_pos w_1_2, if_neg c_43]) rfl
        · skip
          refine g_bipush E (-6) dX3_about_46 (by decide) ?_
          refine g_goto E 53 dX3_about_48 (by decide) ?_
          exact RET 53 _ (-6) _ dX3_about_53 rfl (by rw [r_X3_about, if_neg w_1_0, if_neg w_1_1, if_pos w_1_2, if_pos c_43]) rfl
      · skip
        by_cases w_1_3 : what = 3
        · skip
          refine g_tableIn E 54 dX3_about_1 (by rw [w_1_3]; decide) (by rw [w_1_3]; decide) (by rw [w_1_3]; rfl) (by decide) ?_
          refine g_aload_n E 0 dX3_about_54 rfl rfl ?_
          refine g_get E (ci := 3) inlX3 4 rfl rfl 11 (by decide) fl_X3_68 rfl (.int (S.1 21)) rfl dX3_about_55 ?_
          refine g_ifne E 66 dX3_about_58 (by decide) (fun c_58 => ?_) (fun c_58 => ?_)
          · skip
            refine g_iload E 4 dX3_about_66 rfl ?_
            refine g_iload_n E 2 dX3_about_68 rfl rfl ?_
            refine g_bipush E 16 dX3_about_69 (by decide) ?_
            refine g_idiv E dX3_about_71 (by decide) ?_
            refine g_isub E dX3_about_72 ?_
            refine g_sipush E 1000 dX3_about_73 (by decide) ?_
            refine g_iadd E dX3_about_76 ?_
            exact RET 77 _ ((latest - (rest / 16)) + 1000) _ dX3_about_77 rfl (by rw [r_X3_about, if_neg w_1_0, if_neg w_1_1, if_neg w_1_2, if_pos w_1_3, if_neg c_58]) rfl
          · skip
            refine g_bipush E (-6) dX3_about_61 (by decide) ?_
            refine g_goto E 77 dX3_about_63 (by decide) ?_
            exact RET 77 _ (-6) _ dX3_about_77 rfl (by rw [r_X3_about, if_neg w_1_0, if_neg w_1_1, if_neg w_1_2, if_pos w_1_3, if_pos c_58]) rfl
        · skip
          refine g_tableOut E 78 dX3_about_1 (by have z0 := lv_neT (x := what) (k := 0) (a := 0) w_1_0 (by decide); have z1 := lv_neT (x := what) (k := 1) (a := 1) w_1_1 (by decide); have z2 := lv_neT (x := what) (k := 2) (a := 2) w_1_2 (by decide); have z3 := lv_neT (x := what) (k := 3) (a := 3) w_1_3 (by decide); omega) (by decide) ?_
          refine g_bipush E (-2) dX3_about_78 (by decide) ?_
          exact RET 80 _ (-2) _ dX3_about_80 rfl (by rw [r_X3_about, if_neg w_1_0, if_neg w_1_1, if_neg w_1_2, if_neg w_1_3]) rfl
set_option maxHeartbeats 400000 in
set_option maxRecDepth 100000 in
theorem t_X3_about (d : gD) (a : Nat → Nat) (what : Int32) (rest : Int32) (tells : Int32) (latest : Int32) (S : SS)  : gMi d yX3_about cX3_about 5 (some .int) R_X3_about [.ref (a 0), .int what, .int rest, .int tells, .int latest] (SK d a S) (fun r_ u_ => r_ = r_X3_about what rest tells latest S ∧ u_ = SK d a S) :=
  g_met_i RX3 rfl (by decide +kernel) (Nat.le_of_ble_eq_true rfl) [(0, .ref (a 0)), (1, .int what), (2, .int rest), (3, .int tells), (4, .int latest)] rfl (fun X E RET => s_X3_about_0 d a what rest tells latest S  E (fun pc_ lv_ v_ u_ h1_ h2_ h3_ h4_ => RET pc_ lv_ v_ u_ h1_ h2_ ⟨h3_, h4_⟩))
abbrev R_X3_aboutX : Room := { frames := 1, cells := 0, slots := 0, locals := 24 }
def r_X3_aboutX (what : Int32) (S : SS) : Int32 := (r_X3_about what (S.1 7) (S.1 14) (S.1 10) S)
set_option maxHeartbeats 400000 in
set_option maxRecDepth 100000 in
theorem s_X3_aboutX_0 (d : gD) (a : Nat → Nat) (what : Int32) (S : SS)   {X : gX} (E : gE d X RX3 cX3_aboutX 2 R_X3_aboutX) (RET : ∀ (pc_ : Nat) (lv_ : List (Nat × Value)) (v_ : Int32) (u_ : va_W), decode cX3_aboutX pc_ = .ok (.ireturn, 1) → narrow .int (.int v_) = .int v_ → v_ = r_X3_aboutX what S → u_ = SK d a S → G d X u_ R_X3_aboutX.cells R_X3_aboutX.slots pc_ lv_ [.int v_]) : G d X (SK d a S) 0 0 0 [(0, .ref (a 0)), (1, .int what)] [] := by
  refine g_aload_n E 0 dX3_aboutX_0 rfl rfl ?_
  refine g_iload_n E 1 dX3_aboutX_1 rfl rfl ?_
  refine g_aload_n E 0 dX3_aboutX_2 rfl rfl ?_
  refine g_get E (ci := 3) inlX3 4 rfl rfl 2 (by decide) fl_X3_30 rfl (.int (S.1 7)) rfl dX3_aboutX_3 ?_
  refine g_aload_n E 0 dX3_aboutX_6 rfl rfl ?_
  refine g_get E (ci := 3) inlX3 4 rfl rfl 5 (by decide) fl_X3_50 rfl (.int (S.1 14)) rfl dX3_aboutX_7 ?_
  refine g_aload_n E 0 dX3_aboutX_10 rfl rfl ?_
  refine g_get E (ci := 3) inlX3 4 rfl rfl 7 (by decide) fl_X3_56 rfl (.int (S.1 10)) rfl dX3_aboutX_11 ?_
  refine g_callVi0 E gc_X3_about ml_X3_164 (t_X3_about d a what (S.1 7) (S.1 14) (S.1 10) S ) rfl rfl (ci := 3) 4 rfl rfl rfl rfl (ok_le rfl) ⟨ok_le rfl, ok_le rfl, ok_le rfl, ok_le rfl⟩ rfl rfl dX3_aboutX_14 ?_
  refine g_nm (fun v1_ hv1_ => ?_)
  subst hv1_
  exact RET 17 _ (r_X3_about what (S.1 7) (S.1 14) (S.1 10) S) _ dX3_aboutX_17 rfl (by rw [r_X3_aboutX]) rfl
set_option maxHeartbeats 400000 in
set_option maxRecDepth 100000 in
theorem t_X3_aboutX (d : gD) (a : Nat → Nat) (what : Int32) (S : SS)  : gMi d yX3_aboutX cX3_aboutX 2 (some .int) R_X3_aboutX [.ref (a 0), .int what] (SK d a S) (fun r_ u_ => r_ = r_X3_aboutX what S ∧ u_ = SK d a S) :=
  g_met_i RX3 rfl (by decide +kernel) (Nat.le_of_ble_eq_true rfl) [(0, .ref (a 0)), (1, .int what)] rfl (fun X E RET => s_X3_aboutX_0 d a what S  E (fun pc_ lv_ v_ u_ h1_ h2_ h3_ h4_ => RET pc_ lv_ v_ u_ h1_ h2_ ⟨h3_, h4_⟩))
abbrev R_X3_aboutY : Room := { frames := 1, cells := 0, slots := 0, locals := 24 }
def r_X3_aboutY (what : Int32) (S : SS) : Int32 := (r_X3_about what (S.1 8) (S.1 15) (S.1 11) S)
set_option maxHeartbeats 400000 in
set_option maxRecDepth 100000 in
theorem s_X3_aboutY_0 (d : gD) (a : Nat → Nat) (what : Int32) (S : SS)   {X : gX} (E : gE d X RX3 cX3_aboutY 2 R_X3_aboutY) (RET : ∀ (pc_ : Nat) (lv_ : List (Nat × Value)) (v_ : Int32) (u_ : va_W), decode cX3_aboutY pc_ = .ok (.ireturn, 1) → narrow .int (.int v_) = .int v_ → v_ = r_X3_aboutY what S → u_ = SK d a S → G d X u_ R_X3_aboutY.cells R_X3_aboutY.slots pc_ lv_ [.int v_]) : G d X (SK d a S) 0 0 0 [(0, .ref (a 0)), (1, .int what)] [] := by
  refine g_aload_n E 0 dX3_aboutY_0 rfl rfl ?_
  refine g_iload_n E 1 dX3_aboutY_1 rfl rfl ?_
  refine g_aload_n E 0 dX3_aboutY_2 rfl rfl ?_
  refine g_get E (ci := 3) inlX3 4 rfl rfl 3 (by decide) fl_X3_34 rfl (.int (S.1 8)) rfl dX3_aboutY_3 ?_
  refine g_aload_n E 0 dX3_aboutY_6 rfl rfl ?_
  refine g_get E (ci := 3) inlX3 4 rfl rfl 6 (by decide) fl_X3_53 rfl (.int (S.1 15)) rfl dX3_aboutY_7 ?_
  refine g_aload_n E 0 dX3_aboutY_10 rfl rfl ?_
  refine g_get E (ci := 3) inlX3 4 rfl rfl 8 (by decide) fl_X3_59 rfl (.int (S.1 11)) rfl dX3_aboutY_11 ?_
  refine g_callVi0 E gc_X3_about ml_X3_164 (t_X3_about d a what (S.1 8) (S.1 15) (S.1 11) S ) rfl rfl (ci := 3) 4 rfl rfl rfl rfl (ok_le rfl) ⟨ok_le rfl, ok_le rfl, ok_le rfl, ok_le rfl⟩ rfl rfl dX3_aboutY_14 ?_
  refine g_nm (fun v1_ hv1_ => ?_)
  subst hv1_
  exact RET 17 _ (r_X3_about what (S.1 8) (S.1 15) (S.1 11) S) _ dX3_aboutY_17 rfl (by rw [r_X3_aboutY]) rfl
set_option maxHeartbeats 400000 in
set_option maxRecDepth 100000 in
theorem t_X3_aboutY (d : gD) (a : Nat → Nat) (what : Int32) (S : SS)  : gMi d yX3_aboutY cX3_aboutY 2 (some .int) R_X3_aboutY [.ref (a 0), .int what] (SK d a S) (fun r_ u_ => r_ = r_X3_aboutY what S ∧ u_ = SK d a S) :=
  g_met_i RX3 rfl (by decide +kernel) (Nat.le_of_ble_eq_true rfl) [(0, .ref (a 0)), (1, .int what)] rfl (fun X E RET => s_X3_aboutY_0 d a what S  E (fun pc_ lv_ v_ u_ h1_ h2_ h3_ h4_ => RET pc_ lv_ v_ u_ h1_ h2_ ⟨h3_, h4_⟩))
abbrev R_X3_number : Room := { frames := 0, cells := 0, slots := 0, locals := 0 }
def r_X3_number (what : Int32) (S : SS) : Int32 := if what < 10 then (if what = 0 then (S.1 21) else (if what = 1 then (S.1 9) else (if what = 2 then (S.1 12) else (if what = 3 then (S.1 13) else (if what = 4 then (S.1 16) else (if what = 5 then (S.1 17) else (if what = 6 then (S.1 18) else (if what = 7 then (S.1 19) else (if what = 8 then (S.2.2.1 0) else (if what = 9 then (S.1 20) else (-2))))))))))) else (if (what - 10) < 7 then (S.2.1 ((what - 10).toNatClampNeg)) else (if what = 0 then (S.1 21) else (if what = 1 then (S.1 9) else (if what = 2 then (S.1 12) else (if what = 3 then (S.1 13) else (if what = 4 then (S.1 16) else (if what = 5 then (S.1 17) else (if what = 6 then (S.1 18) else (if what = 7 then (S.1 19) else (if what = 8 then (S.2.2.1 0) else (if what = 9 then (S.1 20) else (-2))))))))))))
set_option maxHeartbeats 400000 in
set_option maxRecDepth 100000 in
theorem s_X3_number_0 (d : gD) (a : Nat → Nat) (what : Int32) (S : SS)   {X : gX} (E : gE d X RX3 cX3_number 2 R_X3_number) (RET : ∀ (pc_ : Nat) (lv_ : List (Nat × Value)) (v_ : Int32) (u_ : va_W), decode cX3_number pc_ = .ok (.ireturn, 1) → narrow .int (.int v_) = .int v_ → v_ = r_X3_number what S → u_ = SK d a S → G d X u_ R_X3_number.cells R_X3_number.slots pc_ lv_ [.int v_]) : G d X (SK d a S) 0 0 0 [(0, .ref (a 0)), (1, .int what)] [] := by
  refine g_iload_n E 1 dX3_number_0 rfl rfl ?_
  refine g_bipush E 10 dX3_number_1 (by decide) ?_
  refine g_icmplt E 25 dX3_number_3 (by decide) (fun c_3 => ?_) (fun c_3 => ?_)
  · skip
    refine g_iload_n E 1 dX3_number_25 rfl rfl ?_
    by_cases w_26_0 : what = 0
    · skip
      refine g_tableIn E 80 dX3_number_26 (by rw [w_26_0]; decide) (by rw [w_26_0]; decide) (by rw [w_26_0]; rfl) (by decide) ?_
      refine g_aload_n E 0 dX3_number_80 rfl rfl ?_
      refine g_get E (ci := 3) inlX3 4 rfl rfl 11 (by decide) fl_X3_68 rfl (.int (S.1 21)) rfl dX3_number_81 ?_
      exact RET 84 _ (S.1 21) _ dX3_number_84 rfl (by rw [r_X3_number, if_pos c_3, if_pos w_26_0]) rfl
    · skip
      by_cases w_26_1 : what = 1
      · skip
        refine g_tableIn E 85 dX3_number_26 (by rw [w_26_1]; decide) (by rw [w_26_1]; decide) (by rw [w_26_1]; rfl) (by decide) ?_
        refine g_aload_n E 0 dX3_number_85 rfl rfl ?_
        refine g_get E (ci := 3) inlX3 4 rfl rfl 4 (by decide) fl_X3_37 rfl (.int (S.1 9)) rfl dX3_number_86 ?_
        exact RET 89 _ (S.1 9) _ dX3_number_89 rfl (by rw [r_X3_number, if_pos c_3, if_neg w_26_0, if_pos w_26_1]) rfl
      · skip
        by_cases w_26_2 : what = 2
        · skip
          refine g_tableIn E 90 dX3_number_26 (by rw [w_26_2]; decide) (by rw [w_26_2]; decide) (by rw [w_26_2]; rfl) (by decide) ?_
          refine g_aload_n E 0 dX3_number_90 rfl rfl ?_
          refine g_get E (ci := 3) inlX3 4 rfl rfl 9 (by decide) fl_X3_62 rfl (.int (S.1 12)) rfl dX3_number_91 ?_
          exact RET 94 _ (S.1 12) _ dX3_number_94 rfl (by rw [r_X3_number, if_pos c_3, if_neg w_26_0, if_neg w_26_1, if_pos w_26_2]) rfl
        · skip
          by_cases w_26_3 : what = 3
          · skip
            refine g_tableIn E 95 dX3_number_26 (by rw [w_26_3]; decide) (by rw [w_26_3]; decide) (by rw [w_26_3]; rfl) (by decide) ?_
            refine g_aload_n E 0 dX3_number_95 rfl rfl ?_
            refine g_get E (ci := 3) inlX3 4 rfl rfl 10 (by decide) fl_X3_65 rfl (.int (S.1 13)) rfl dX3_number_96 ?_
            exact RET 99 _ (S.1 13) _ dX3_number_99 rfl (by rw [r_X3_number, if_pos c_3, if_neg w_26_0, if_neg w_26_1, if_neg w_26_2, if_pos w_26_3]) rfl
          · skip
            by_cases w_26_4 : what = 4
            · skip
              refine g_tableIn E 100 dX3_number_26 (by rw [w_26_4]; decide) (by rw [w_26_4]; decide) (by rw [w_26_4]; rfl) (by decide) ?_
              refine g_aload_n E 0 dX3_number_100 rfl rfl ?_
              refine g_get E (ci := 3) inlX3 4 rfl rfl 12 (by decide) fl_X3_71 rfl (.int (S.1 16)) rfl dX3_number_101 ?_
              exact RET 104 _ (S.1 16) _ dX3_number_104 rfl (by rw [r_X3_number, if_pos c_3, if_neg w_26_0, if_neg w_26_1, if_neg w_26_2, if_neg w_26_3, if_pos w_26_4]) rfl
            · skip
              by_cases w_26_5 : what = 5
              · skip
                refine g_tableIn E 105 dX3_number_26 (by rw [w_26_5]; decide) (by rw [w_26_5]; decide) (by rw [w_26_5]; rfl) (by decide) ?_
                refine g_aload_n E 0 dX3_number_105 rfl rfl ?_
                refine g_get E (ci := 3) inlX3 4 rfl rfl 13 (by decide) fl_X3_74 rfl (.int (S.1 17)) rfl dX3_number_106 ?_
                exact RET 109 _ (S.1 17) _ dX3_number_109 rfl (by rw [r_X3_number, if_pos c_3, if_neg w_26_0, if_neg w_26_1, if_neg w_26_2, if_neg w_26_3, if_neg w_26_4, if_pos w_26_5]) rfl
              · skip
                by_cases w_26_6 : what = 6
                · skip
                  refine g_tableIn E 110 dX3_number_26 (by rw [w_26_6]; decide) (by rw [w_26_6]; decide) (by rw [w_26_6]; rfl) (by decide) ?_
                  refine g_aload_n E 0 dX3_number_110 rfl rfl ?_
                  refine g_get E (ci := 3) inlX3 4 rfl rfl 14 (by decide) fl_X3_77 rfl (.int (S.1 18)) rfl dX3_number_111 ?_
                  exact RET 114 _ (S.1 18) _ dX3_number_114 rfl (by rw [r_X3_number, if_pos c_3, if_neg w_26_0, if_neg w_26_1, if_neg w_26_2, if_neg w_26_3, if_neg w_26_4, if_neg w_26_5, if_pos w_26_6]) rfl
                · skip
                  by_cases w_26_7 : what = 7
                  · skip
                    refine g_tableIn E 115 dX3_number_26 (by rw [w_26_7]; decide) (by rw [w_26_7]; decide) (by rw [w_26_7]; rfl) (by decide) ?_
                    refine g_aload_n E 0 dX3_number_115 rfl rfl ?_
                    refine g_get E (ci := 3) inlX3 4 rfl rfl 15 (by decide) fl_X3_80 rfl (.int (S.1 19)) rfl dX3_number_116 ?_
                    exact RET 119 _ (S.1 19) _ dX3_number_119 rfl (by rw [r_X3_number, if_pos c_3, if_neg w_26_0, if_neg w_26_1, if_neg w_26_2, if_neg w_26_3, if_neg w_26_4, if_neg w_26_5, if_neg w_26_6, if_pos w_26_7]) rfl
                  · skip
                    by_cases w_26_8 : what = 8
                    · skip
                      refine g_tableIn E 120 dX3_number_26 (by rw [w_26_8]; decide) (by rw [w_26_8]; decide) (by rw [w_26_8]; rfl) (by decide) ?_
                      refine g_aload_n E 0 dX3_number_120 rfl rfl ?_
                      refine g_get E (ci := 3) inlX3 4 rfl rfl 1 (by decide) fl_X3_26 rfl (.ref (a 2)) rfl dX3_number_121 ?_
                      refine g_getN E (ci := 0) inlX0 0 rfl rfl 3 (by decide) (List.mem_of_getElem? (i := 1) rfl) rfl (.int (S.2.2.1 0)) rfl dX3_number_124 ?_
                      exact RET 127 _ (S.2.2.1 0) _ dX3_number_127 rfl (by rw [r_X3_number, if_pos c_3, if_neg w_26_0, if_neg w_26_1, if_neg w_26_2, if_neg w_26_3, if_neg w_26_4, if_neg w_26_5, if_neg w_26_6, if_neg w_26_7, if_pos w_26_8]) rfl
                    · skip
                      by_cases w_26_9 : what = 9
                      · skip
                        refine g_tableIn E 128 dX3_number_26 (by rw [w_26_9]; decide) (by rw [w_26_9]; decide) (by rw [w_26_9]; rfl) (by decide) ?_
                        refine g_aload_n E 0 dX3_number_128 rfl rfl ?_
                        refine g_get E (ci := 3) inlX3 4 rfl rfl 16 (by decide) fl_X3_83 rfl (.int (S.1 20)) rfl dX3_number_129 ?_
                        exact RET 132 _ (S.1 20) _ dX3_number_132 rfl (by rw [r_X3_number, if_pos c_3, if_neg w_26_0, if_neg w_26_1, if_neg w_26_2, if_neg w_26_3, if_neg w_26_4, if_neg w_26_5, if_neg w_26_6, if_neg w_26_7, if_neg w_26_8, if_pos w_26_9]) rfl
                      · skip
                        refine g_tableOut E 133 dX3_number_26 (by have z0 := lv_neT (x := what) (k := 0) (a := 0) w_26_0 (by decide); have z1 := lv_neT (x := what) (k := 1) (a := 1) w_26_1 (by decide); have z2 := lv_neT (x := what) (k := 2) (a := 2) w_26_2 (by decide); have z3 := lv_neT (x := what) (k := 3) (a := 3) w_26_3 (by decide); have z4 := lv_neT (x := what) (k := 4) (a := 4) w_26_4 (by decide); have z5 := lv_neT (x := what) (k := 5) (a := 5) w_26_5 (by decide); have z6 := lv_neT (x := what) (k := 6) (a := 6) w_26_6 (by decide); have z7 := lv_neT (x := what) (k := 7) (a := 7) w_26_7 (by decide); have z8 := lv_neT (x := what) (k := 8) (a := 8) w_26_8 (by decide); have z9 := lv_neT (x := what) (k := 9) (a := 9) w_26_9 (by decide); omega) (by decide) ?_
                        refine g_bipush E (-2) dX3_number_133 (by decide) ?_
                        exact RET 135 _ (-2) _ dX3_number_135 rfl (by rw [r_X3_number, if_pos c_3, if_neg w_26_0, if_neg w_26_1, if_neg w_26_2, if_neg w_26_3, if_neg w_26_4, if_neg w_26_5, if_neg w_26_6, if_neg w_26_7, if_neg w_26_8, if_neg w_26_9]) rfl
  · skip
    refine g_iload_n E 1 dX3_number_6 rfl rfl ?_
    refine g_bipush E 10 dX3_number_7 (by decide) ?_
    refine g_isub E dX3_number_9 ?_
    refine g_bipush E 7 dX3_number_10 (by decide) ?_
    refine g_icmpge E 25 dX3_number_12 (by decide) (fun c_12 => ?_) (fun c_12 => ?_)
    · skip
      refine g_iload_n E 1 dX3_number_25 rfl rfl ?_
      by_cases w_26_0 : what = 0
      · skip
        refine g_tableIn E 80 dX3_number_26 (by rw [w_26_0]; decide) (by rw [w_26_0]; decide) (by rw [w_26_0]; rfl) (by decide) ?_
        refine g_aload_n E 0 dX3_number_80 rfl rfl ?_
        refine g_get E (ci := 3) inlX3 4 rfl rfl 11 (by decide) fl_X3_68 rfl (.int (S.1 21)) rfl dX3_number_81 ?_
        exact RET 84 _ (S.1 21) _ dX3_number_84 rfl (by rw [r_X3_number, if_neg c_3, if_neg c_12, if_pos w_26_0]) rfl
      · skip
        by_cases w_26_1 : what = 1
        · skip
          refine g_tableIn E 85 dX3_number_26 (by rw [w_26_1]; decide) (by rw [w_26_1]; decide) (by rw [w_26_1]; rfl) (by decide) ?_
          refine g_aload_n E 0 dX3_number_85 rfl rfl ?_
          refine g_get E (ci := 3) inlX3 4 rfl rfl 4 (by decide) fl_X3_37 rfl (.int (S.1 9)) rfl dX3_number_86 ?_
          exact RET 89 _ (S.1 9) _ dX3_number_89 rfl (by rw [r_X3_number, if_neg c_3, if_neg c_12, if_neg w_26_0, if_pos w_26_1]) rfl
        · skip
          by_cases w_26_2 : what = 2
          · skip
            refine g_tableIn E 90 dX3_number_26 (by rw [w_26_2]; decide) (by rw [w_26_2]; decide) (by rw [w_26_2]; rfl) (by decide) ?_
            refine g_aload_n E 0 dX3_number_90 rfl rfl ?_
            refine g_get E (ci := 3) inlX3 4 rfl rfl 9 (by decide) fl_X3_62 rfl (.int (S.1 12)) rfl dX3_number_91 ?_
            exact RET 94 _ (S.1 12) _ dX3_number_94 rfl (by rw [r_X3_number, if_neg c_3, if_neg c_12, if_neg w_26_0, if_neg w_26_1, if_pos w_26_2]) rfl
          · skip
            by_cases w_26_3 : what = 3
            · skip
              refine g_tableIn E 95 dX3_number_26 (by rw [w_26_3]; decide) (by rw [w_26_3]; decide) (by rw [w_26_3]; rfl) (by decide) ?_
              refine g_aload_n E 0 dX3_number_95 rfl rfl ?_
              refine g_get E (ci := 3) inlX3 4 rfl rfl 10 (by decide) fl_X3_65 rfl (.int (S.1 13)) rfl dX3_number_96 ?_
              exact RET 99 _ (S.1 13) _ dX3_number_99 rfl (by rw [r_X3_number, if_neg c_3, if_neg c_12, if_neg w_26_0, if_neg w_26_1, if_neg w_26_2, if_pos w_26_3]) rfl
            · skip
              by_cases w_26_4 : what = 4
              · skip
                refine g_tableIn E 100 dX3_number_26 (by rw [w_26_4]; decide) (by rw [w_26_4]; decide) (by rw [w_26_4]; rfl) (by decide) ?_
                refine g_aload_n E 0 dX3_number_100 rfl rfl ?_
                refine g_get E (ci := 3) inlX3 4 rfl rfl 12 (by decide) fl_X3_71 rfl (.int (S.1 16)) rfl dX3_number_101 ?_
                exact RET 104 _ (S.1 16) _ dX3_number_104 rfl (by rw [r_X3_number, if_neg c_3, if_neg c_12, if_neg w_26_0, if_neg w_26_1, if_neg w_26_2, if_neg w_26_3, if_pos w_26_4]) rfl
              · skip
                by_cases w_26_5 : what = 5
                · skip
                  refine g_tableIn E 105 dX3_number_26 (by rw [w_26_5]; decide) (by rw [w_26_5]; decide) (by rw [w_26_5]; rfl) (by decide) ?_
                  refine g_aload_n E 0 dX3_number_105 rfl rfl ?_
                  refine g_get E (ci := 3) inlX3 4 rfl rfl 13 (by decide) fl_X3_74 rfl (.int (S.1 17)) rfl dX3_number_106 ?_
                  exact RET 109 _ (S.1 17) _ dX3_number_109 rfl (by rw [r_X3_number, if_neg c_3, if_neg c_12, if_neg w_26_0, if_neg w_26_1, if_neg w_26_2, if_neg w_26_3, if_neg w_26_4, if_pos w_26_5]) rfl
                · skip
                  by_cases w_26_6 : what = 6
                  · skip
                    refine g_tableIn E 110 dX3_number_26 (by rw [w_26_6]; decide) (by rw [w_26_6]; decide) (by rw [w_26_6]; rfl) (by decide) ?_
                    refine g_aload_n E 0 dX3_number_110 rfl rfl ?_
                    refine g_get E (ci := 3) inlX3 4 rfl rfl 14 (by decide) fl_X3_77 rfl (.int (S.1 18)) rfl dX3_number_111 ?_
                    exact RET 114 _ (S.1 18) _ dX3_number_114 rfl (by rw [r_X3_number, if_neg c_3, if_neg c_12, if_neg w_26_0, if_neg w_26_1, if_neg w_26_2, if_neg w_26_3, if_neg w_26_4, if_neg w_26_5, if_pos w_26_6]) rfl
                  · skip
                    by_cases w_26_7 : what = 7
                    · skip
                      refine g_tableIn E 115 dX3_number_26 (by rw [w_26_7]; decide) (by rw [w_26_7]; decide) (by rw [w_26_7]; rfl) (by decide) ?_
                      refine g_aload_n E 0 dX3_number_115 rfl rfl ?_
                      refine g_get E (ci := 3) inlX3 4 rfl rfl 15 (by decide) fl_X3_80 rfl (.int (S.1 19)) rfl dX3_number_116 ?_
                      exact RET 119 _ (S.1 19) _ dX3_number_119 rfl (by rw [r_X3_number, if_neg c_3, if_neg c_12, if_neg w_26_0, if_neg w_26_1, if_neg w_26_2, if_neg w_26_3, if_neg w_26_4, if_neg w_26_5, if_neg w_26_6, if_pos w_26_7]) rfl
                    · skip
                      by_cases w_26_8 : what = 8
                      · skip
                        refine g_tableIn E 120 dX3_number_26 (by rw [w_26_8]; decide) (by rw [w_26_8]; decide) (by rw [w_26_8]; rfl) (by decide) ?_
                        refine g_aload_n E 0 dX3_number_120 rfl rfl ?_
                        refine g_get E (ci := 3) inlX3 4 rfl rfl 1 (by decide) fl_X3_26 rfl (.ref (a 2)) rfl dX3_number_121 ?_
                        refine g_getN E (ci := 0) inlX0 0 rfl rfl 3 (by decide) (List.mem_of_getElem? (i := 1) rfl) rfl (.int (S.2.2.1 0)) rfl dX3_number_124 ?_
                        exact RET 127 _ (S.2.2.1 0) _ dX3_number_127 rfl (by rw [r_X3_number, if_neg c_3, if_neg c_12, if_neg w_26_0, if_neg w_26_1, if_neg w_26_2, if_neg w_26_3, if_neg w_26_4, if_neg w_26_5, if_neg w_26_6, if_neg w_26_7, if_pos w_26_8]) rfl
                      · skip
                        by_cases w_26_9 : what = 9
                        · skip
                          refine g_tableIn E 128 dX3_number_26 (by rw [w_26_9]; decide) (by rw [w_26_9]; decide) (by rw [w_26_9]; rfl) (by decide) ?_
                          refine g_aload_n E 0 dX3_number_128 rfl rfl ?_
                          refine g_get E (ci := 3) inlX3 4 rfl rfl 16 (by decide) fl_X3_83 rfl (.int (S.1 20)) rfl dX3_number_129 ?_
                          exact RET 132 _ (S.1 20) _ dX3_number_132 rfl (by rw [r_X3_number, if_neg c_3, if_neg c_12, if_neg w_26_0, if_neg w_26_1, if_neg w_26_2, if_neg w_26_3, if_neg w_26_4, if_neg w_26_5, if_neg w_26_6, if_neg w_26_7, if_neg w_26_8, if_pos w_26_9]) rfl
                        · skip
                          refine g_tableOut E 133 dX3_number_26 (by have z0 := lv_neT (x := what) (k := 0) (a := 0) w_26_0 (by decide); have z1 := lv_neT (x := what) (k := 1) (a := 1) w_26_1 (by decide); have z2 := lv_neT (x := what) (k := 2) (a := 2) w_26_2 (by decide); have z3 := lv_neT (x := what) (k := 3) (a := 3) w_26_3 (by decide); have z4 := lv_neT (x := what) (k := 4) (a := 4) w_26_4 (by decide); have z5 := lv_neT (x := what) (k := 5) (a := 5) w_26_5 (by decide); have z6 := lv_neT (x := what) (k := 6) (a := 6) w_26_6 (by decide); have z7 := lv_neT (x := what) (k := 7) (a := 7) w_26_7 (by decide); have z8 := lv_neT (x := what) (k := 8) (a := 8) w_26_8 (by decide); have z9 := lv_neT (x := what) (k := 9) (a := 9) w_26_9 (by decide); omega) (by decide) ?_
                          refine g_bipush E (-2) dX3_number_133 (by decide) ?_
                          exact RET 135 _ (-2) _ dX3_number_135 rfl (by rw [r_X3_number, if_neg c_3, if_neg c_12, if_neg w_26_0, if_neg w_26_1, if_neg w_26_2, if_neg w_26_3, if_neg w_26_4, if_neg w_26_5, if_neg w_26_6, if_neg w_26_7, if_neg w_26_8, if_neg w_26_9]) rfl
    · skip
      refine g_aload_n E 0 dX3_number_15 rfl rfl ?_
      refine g_get E (ci := 3) inlX3 4 rfl rfl 0 (by decide) fl_X3_18 rfl (.ref (a 1)) rfl dX3_number_16 ?_
      refine g_iload_n E 1 dX3_number_19 rfl rfl ?_
      refine g_bipush E 10 dX3_number_20 (by decide) ?_
      refine g_isub E dX3_number_22 ?_
      refine g_iald E 5 rfl rfl ((what - 10).toNatClampNeg) (ix_eq (ix_sub10 c_3 c_12)) (ix_lt (N := 7) (ix_sub10 c_3 c_12) c_12) (by decide) dX3_number_23 ?_
      exact RET 24 _ (S.2.1 ((what - 10).toNatClampNeg)) _ dX3_number_24 rfl (by rw [r_X3_number, if_neg c_3, if_pos c_12]) rfl
set_option maxHeartbeats 400000 in
set_option maxRecDepth 100000 in
theorem t_X3_number (d : gD) (a : Nat → Nat) (what : Int32) (S : SS)  : gMi d yX3_number cX3_number 2 (some .int) R_X3_number [.ref (a 0), .int what] (SK d a S) (fun r_ u_ => r_ = r_X3_number what S ∧ u_ = SK d a S) :=
  g_met_i RX3 rfl (by decide +kernel) (Nat.le_of_ble_eq_true rfl) [(0, .ref (a 0)), (1, .int what)] rfl (fun X E RET => s_X3_number_0 d a what S  E (fun pc_ lv_ v_ u_ h1_ h2_ h3_ h4_ => RET pc_ lv_ v_ u_ h1_ h2_ ⟨h3_, h4_⟩))
abbrev R_X3_changeSetting : Room := { frames := 0, cells := 0, slots := 0, locals := 0 }
def j_X3_changeSetting_47_g (setting : Int32) (value : Int32) (S : SS) : Nat → Int32 := if setting < 0 then (upd S.1 9 ((upd S.2.1 ((setting).toNatClampNeg) value) 1)) else (if setting < 7 then (if setting = 1 then (upd S.1 9 ((upd S.2.1 ((setting).toNatClampNeg) value) 1)) else (if setting = 2 then (upd S.1 9 ((upd S.2.1 ((setting).toNatClampNeg) value) 1)) else S.1)) else (upd S.1 9 ((upd S.2.1 ((setting).toNatClampNeg) value) 1)))
def r_X3_changeSetting_at47 (setting : Int32) (value : Int32) (S : SS) : Int32 := (S.2.1 ((setting).toNatClampNeg))
def c_X3_changeSetting_at47 (setting : Int32) (value : Int32) (S : SS) : SS := ((j_X3_changeSetting_47_g setting value S), upd S.2.1 ((setting).toNatClampNeg) value, S.2.2)
def r_X3_changeSetting (setting : Int32) (value : Int32) (S : SS) : Int32 := if setting < 0 then (-2) else (if setting < 7 then (r_X3_changeSetting_at47 setting value S) else (-2))
def c_X3_changeSetting (setting : Int32) (value : Int32) (S : SS) : SS := if setting < 0 then S else (if setting < 7 then (c_X3_changeSetting_at47 setting value S) else S)
set_option maxHeartbeats 400000 in
set_option maxRecDepth 100000 in
theorem s_X3_changeSetting_47 (d : gD) (a : Nat → Nat) (setting : Int32) (value : Int32) (S : SS)   {X : gX} (E : gE d X RX3 cX3_changeSetting 4 R_X3_changeSetting) (RET : ∀ (pc_ : Nat) (lv_ : List (Nat × Value)) (v_ : Int32) (u_ : va_W), decode cX3_changeSetting pc_ = .ok (.ireturn, 1) → narrow .int (.int v_) = .int v_ → v_ = r_X3_changeSetting_at47 setting value S → u_ = SK d a (c_X3_changeSetting_at47 setting value S) → G d X u_ R_X3_changeSetting.cells R_X3_changeSetting.slots pc_ lv_ [.int v_]) : G d X (SK d a ((j_X3_changeSetting_47_g setting value S), upd S.2.1 ((setting).toNatClampNeg) value, S.2.2)) 0 0 47 [(0, .ref (a 0)), (1, .int setting), (2, .int value), (3, .int (S.2.1 ((setting).toNatClampNeg)))] [] := by
  obtain ⟨J1_, hJ1_⟩ : ∃ z, z = j_X3_changeSetting_47_g setting value S := ⟨_, rfl⟩
  rw [← hJ1_]
  refine g_iload_n E 3 dX3_changeSetting_47 rfl rfl ?_
  subst hJ1_
  exact RET 48 _ (S.2.1 ((setting).toNatClampNeg)) _ dX3_changeSetting_48 rfl (by rw [r_X3_changeSetting_at47]) (by rw [c_X3_changeSetting_at47])
set_option maxHeartbeats 400000 in
set_option maxRecDepth 100000 in
theorem s_X3_changeSetting_0 (d : gD) (a : Nat → Nat) (setting : Int32) (value : Int32) (S : SS)   {X : gX} (E : gE d X RX3 cX3_changeSetting 4 R_X3_changeSetting) (RET : ∀ (pc_ : Nat) (lv_ : List (Nat × Value)) (v_ : Int32) (u_ : va_W), decode cX3_changeSetting pc_ = .ok (.ireturn, 1) → narrow .int (.int v_) = .int v_ → v_ = r_X3_changeSetting setting value S → u_ = SK d a (c_X3_changeSetting setting value S) → G d X u_ R_X3_changeSetting.cells R_X3_changeSetting.slots pc_ lv_ [.int v_]) : G d X (SK d a S) 0 0 0 [(0, .ref (a 0)), (1, .int setting), (2, .int value)] [] := by
  refine g_iload_n E 1 dX3_changeSetting_0 rfl rfl ?_
  refine g_iflt E 10 dX3_changeSetting_1 (by decide) (fun c_1 => ?_) (fun c_1 => ?_)
  · skip
    refine g_bipush E (-2) dX3_changeSetting_10 (by decide) ?_
    exact RET 12 _ (-2) _ dX3_changeSetting_12 rfl (by rw [r_X3_changeSetting, if_pos c_1]) (by rw [c_X3_changeSetting, if_pos c_1])
  · skip
    refine g_iload_n E 1 dX3_changeSetting_4 rfl rfl ?_
    refine g_bipush E 7 dX3_changeSetting_5 (by decide) ?_
    refine g_icmplt E 13 dX3_changeSetting_7 (by decide) (fun c_7 => ?_) (fun c_7 => ?_)
    · skip
      refine g_aload_n E 0 dX3_changeSetting_13 rfl rfl ?_
      refine g_get E (ci := 3) inlX3 4 rfl rfl 0 (by decide) fl_X3_18 rfl (.ref (a 1)) rfl dX3_changeSetting_14 ?_
      refine g_iload_n E 1 dX3_changeSetting_17 rfl rfl ?_
      refine g_iald E 5 rfl rfl ((setting).toNatClampNeg) (ix_eq c_1) (ix_lt (N := 7) c_1 c_7) (by decide) dX3_changeSetting_18 ?_
      refine g_istore_n E (lv' := [(3, .int (S.2.1 ((setting).toNatClampNeg))), (0, .ref (a 0)), (1, .int setting), (2, .int value)]) dX3_changeSetting_19 rfl (by decide) rfl ?_
      refine g_aload_n E 1 dX3_changeSetting_20 rfl rfl ?_
      refine g_get E (ci := 3) inlX3 4 rfl rfl 0 (by decide) fl_X3_18 rfl (.ref (a 1)) rfl dX3_changeSetting_21 ?_
      refine g_iload_n E 2 dX3_changeSetting_24 rfl rfl ?_
      refine g_iload_n E 3 dX3_changeSetting_25 rfl rfl ?_
      refine g_iast E 5 rfl rfl ((setting).toNatClampNeg) (ix_eq c_1) (ix_lt (N := 7) c_1 c_7) (by decide) (ws' := SK d a (S.1, upd S.2.1 ((setting).toNatClampNeg) value, S.2.2)) rfl dX3_changeSetting_26 ?_
      refine g_iload_n E 2 dX3_changeSetting_27 rfl rfl ?_
      refine g_iconst E 1 dX3_changeSetting_28 (by decide) ?_
      refine g_icmpeq E 37 dX3_changeSetting_29 (by decide) (fun c_29 => ?_) (fun c_29 => ?_)
      · skip
        refine g_aload_n E 1 dX3_changeSetting_37 rfl rfl ?_
        refine g_aload_n E 1 dX3_changeSetting_38 rfl rfl ?_
        refine g_get E (ci := 3) inlX3 4 rfl rfl 0 (by decide) fl_X3_18 rfl (.ref (a 1)) rfl dX3_changeSetting_39 ?_
        refine g_iconst E 1 dX3_changeSetting_42 (by decide) ?_
        refine g_iald E 5 rfl rfl 1 rfl (by decide) (by decide) dX3_changeSetting_43 ?_
        refine g_top (b := (upd S.2.1 ((setting).toNatClampNeg) value) 1) rfl ?_
        refine g_put E (ci := 3) inlX3 4 rfl rfl 4 (by decide) tyX3 tyX3_ok nmX3 fl_X3_37 rfl rfl rfl rfl (ok_lt rfl) (ws' := SK d a (upd S.1 9 ((upd S.2.1 ((setting).toNatClampNeg) value) 1), upd S.2.1 ((setting).toNatClampNeg) value, S.2.2)) rfl dX3_changeSetting_44 ?_
        refine g_lvs (lv' := [(0, .ref (a 0)), (1, .int setting), (2, .int value), (3, .int (S.2.1 ((setting).toNatClampNeg)))]) [1, 2, 3, 0] rfl ?_
        have J := s_X3_changeSetting_47 d a setting value S   E (fun pc_ lv_ v_ u_ h1_ h2_ h3_ h4_ => RET pc_ lv_ v_ u_ h1_ h2_ (h3_.trans (by rw [r_X3_changeSetting, if_neg c_1, if_pos c_7])) (h4_.trans (by rw [c_X3_changeSetting, if_neg c_1, if_pos c_7])))
        rw [j_X3_changeSetting_47_g, if_neg c_1, if_pos c_7, if_pos c_29] at J
        exact J
      · skip
        refine g_iload_n E 2 dX3_changeSetting_32 rfl rfl ?_
        refine g_iconst E 2 dX3_changeSetting_33 (by decide) ?_
        refine g_icmpne E 47 dX3_changeSetting_34 (by decide) (fun c_34 => ?_) (fun c_34 => ?_)
        · skip
          refine g_lvs (lv' := [(0, .ref (a 0)), (1, .int setting), (2, .int value), (3, .int (S.2.1 ((setting).toNatClampNeg)))]) [1, 2, 3, 0] rfl ?_
          have J := s_X3_changeSetting_47 d a setting value S   E (fun pc_ lv_ v_ u_ h1_ h2_ h3_ h4_ => RET pc_ lv_ v_ u_ h1_ h2_ (h3_.trans (by rw [r_X3_changeSetting, if_neg c_1, if_pos c_7])) (h4_.trans (by rw [c_X3_changeSetting, if_neg c_1, if_pos c_7])))
          rw [j_X3_changeSetting_47_g, if_neg c_1, if_pos c_7, if_neg c_29, if_neg c_34] at J
          exact J
        · skip
          refine g_aload_n E 1 dX3_changeSetting_37 rfl rfl ?_
          refine g_aload_n E 1 dX3_changeSetting_38 rfl rfl ?_
          refine g_get E (ci := 3) inlX3 4 rfl rfl 0 (by decide) fl_X3_18 rfl (.ref (a 1)) rfl dX3_changeSetting_39 ?_
          refine g_iconst E 1 dX3_changeSetting_42 (by decide) ?_
          refine g_iald E 5 rfl rfl 1 rfl (by decide) (by decide) dX3_changeSetting_43 ?_
          refine g_top (b := (upd S.2.1 ((setting).toNatClampNeg) value) 1) rfl ?_
          refine g_put E (ci := 3) inlX3 4 rfl rfl 4 (by decide) tyX3 tyX3_ok nmX3 fl_X3_37 rfl rfl rfl rfl (ok_lt rfl) (ws' := SK d a (upd S.1 9 ((upd S.2.1 ((setting).toNatClampNeg) value) 1), upd S.2.1 ((setting).toNatClampNeg) value, S.2.2)) rfl dX3_changeSetting_44 ?_
          refine g_lvs (lv' := [(0, .ref (a 0)), (1, .int setting), (2, .int value), (3, .int (S.2.1 ((setting).toNatClampNeg)))]) [1, 2, 3, 0] rfl ?_
          have J := s_X3_changeSetting_47 d a setting value S   E (fun pc_ lv_ v_ u_ h1_ h2_ h3_ h4_ => RET pc_ lv_ v_ u_ h1_ h2_ (h3_.trans (by rw [r_X3_changeSetting, if_neg c_1, if_pos c_7])) (h4_.trans (by rw [c_X3_changeSetting, if_neg c_1, if_pos c_7])))
          rw [j_X3_changeSetting_47_g, if_neg c_1, if_pos c_7, if_neg c_29, if_pos c_34] at J
          exact J
    · skip
      refine g_bipush E (-2) dX3_changeSetting_10 (by decide) ?_
      exact RET 12 _ (-2) _ dX3_changeSetting_12 rfl (by rw [r_X3_changeSetting, if_neg c_1, if_neg c_7]) (by rw [c_X3_changeSetting, if_neg c_1, if_neg c_7])
set_option maxHeartbeats 400000 in
set_option maxRecDepth 100000 in
theorem t_X3_changeSetting (d : gD) (a : Nat → Nat) (setting : Int32) (value : Int32) (S : SS)  : gMi d yX3_changeSetting cX3_changeSetting 4 (some .int) R_X3_changeSetting [.ref (a 0), .int setting, .int value] (SK d a S) (fun r_ u_ => r_ = r_X3_changeSetting setting value S ∧ u_ = SK d a (c_X3_changeSetting setting value S)) :=
  g_met_i RX3 rfl (by decide +kernel) (Nat.le_of_ble_eq_true rfl) [(0, .ref (a 0)), (1, .int setting), (2, .int value)] rfl (fun X E RET => s_X3_changeSetting_0 d a setting value S  E (fun pc_ lv_ v_ u_ h1_ h2_ h3_ h4_ => RET pc_ lv_ v_ u_ h1_ h2_ ⟨h3_, h4_⟩))
abbrev R_X3_toMiddle : Room := { frames := 1, cells := 0, slots := 0, locals := 14 }
def r_X3_toMiddle (S : SS) : Int32 := ((iabs ((S.1 7) - 2048)) + (iabs ((S.1 8) - 2048)))
def c_X3_toMiddle (S : SS) : SS := (upd (upd (upd (upd S.1 7 2048) 8 2048) 9 (S.2.1 1)) 12 0, S.2)
set_option maxHeartbeats 400000 in
set_option maxRecDepth 100000 in
theorem s_X3_toMiddle_0 (d : gD) (a : Nat → Nat) (S : SS)   {X : gX} (E : gE d X RX3 cX3_toMiddle 2 R_X3_toMiddle) (RET : ∀ (pc_ : Nat) (lv_ : List (Nat × Value)) (v_ : Int32) (u_ : va_W), decode cX3_toMiddle pc_ = .ok (.ireturn, 1) → narrow .int (.int v_) = .int v_ → v_ = r_X3_toMiddle S → u_ = SK d a (c_X3_toMiddle S) → G d X u_ R_X3_toMiddle.cells R_X3_toMiddle.slots pc_ lv_ [.int v_]) : G d X (SK d a S) 0 0 0 [(0, .ref (a 0))] [] := by
  refine g_aload_n E 0 dX3_toMiddle_0 rfl rfl ?_
  refine g_get E (ci := 3) inlX3 4 rfl rfl 2 (by decide) fl_X3_30 rfl (.int (S.1 7)) rfl dX3_toMiddle_1 ?_
  refine g_sipush E 2048 dX3_toMiddle_4 (by decide) ?_
  refine g_isub E dX3_toMiddle_7 ?_
  refine g_abs E ml_X3_86 (ok_le rfl) (ok_le rfl) (ok_le rfl) (ok_le rfl) dX3_toMiddle_8 ?_
  refine g_top (b := iabs ((S.1 7) - 2048)) rfl ?_
  refine g_aload_n E 0 dX3_toMiddle_11 rfl rfl ?_
  refine g_get E (ci := 3) inlX3 4 rfl rfl 3 (by decide) fl_X3_34 rfl (.int (S.1 8)) rfl dX3_toMiddle_12 ?_
  refine g_sipush E 2048 dX3_toMiddle_15 (by decide) ?_
  refine g_isub E dX3_toMiddle_18 ?_
  refine g_abs E ml_X3_86 (ok_le rfl) (ok_le rfl) (ok_le rfl) (ok_le rfl) dX3_toMiddle_19 ?_
  refine g_top (b := iabs ((S.1 8) - 2048)) rfl ?_
  refine g_iadd E dX3_toMiddle_22 ?_
  refine g_istore_n E (lv' := [(1, .int ((iabs ((S.1 7) - 2048)) + (iabs ((S.1 8) - 2048)))), (0, .ref (a 0))]) dX3_toMiddle_23 rfl (by decide) rfl ?_
  refine g_aload_n E 1 dX3_toMiddle_24 rfl rfl ?_
  refine g_sipush E 2048 dX3_toMiddle_25 (by decide) ?_
  refine g_put E (ci := 3) inlX3 4 rfl rfl 2 (by decide) tyX3 tyX3_ok nmX3 fl_X3_30 rfl rfl rfl rfl (ok_lt rfl) (ws' := SK d a (upd S.1 7 2048, S.2)) rfl dX3_toMiddle_28 ?_
  refine g_aload_n E 1 dX3_toMiddle_31 rfl rfl ?_
  refine g_sipush E 2048 dX3_toMiddle_32 (by decide) ?_
  refine g_put E (ci := 3) inlX3 4 rfl rfl 3 (by decide) tyX3 tyX3_ok nmX3 fl_X3_34 rfl rfl rfl rfl (ok_lt rfl) (ws' := SK d a (upd (upd S.1 7 2048) 8 2048, S.2)) rfl dX3_toMiddle_35 ?_
  refine g_aload_n E 1 dX3_toMiddle_38 rfl rfl ?_
  refine g_aload_n E 1 dX3_toMiddle_39 rfl rfl ?_
  refine g_get E (ci := 3) inlX3 4 rfl rfl 0 (by decide) fl_X3_18 rfl (.ref (a 1)) rfl dX3_toMiddle_40 ?_
  refine g_iconst E 1 dX3_toMiddle_43 (by decide) ?_
  refine g_iald E 5 rfl rfl 1 rfl (by decide) (by decide) dX3_toMiddle_44 ?_
  refine g_put E (ci := 3) inlX3 4 rfl rfl 4 (by decide) tyX3 tyX3_ok nmX3 fl_X3_37 rfl rfl rfl rfl (ok_lt rfl) (ws' := SK d a (upd (upd (upd S.1 7 2048) 8 2048) 9 (S.2.1 1), S.2)) rfl dX3_toMiddle_45 ?_
  refine g_aload_n E 1 dX3_toMiddle_48 rfl rfl ?_
  refine g_iconst E 0 dX3_toMiddle_49 (by decide) ?_
  refine g_put E (ci := 3) inlX3 4 rfl rfl 9 (by decide) tyX3 tyX3_ok nmX3 fl_X3_62 rfl rfl rfl rfl (ok_lt rfl) (ws' := SK d a (upd (upd (upd (upd S.1 7 2048) 8 2048) 9 (S.2.1 1)) 12 0, S.2)) rfl dX3_toMiddle_50 ?_
  refine g_iload_n E 0 dX3_toMiddle_53 rfl rfl ?_
  exact RET 54 _ ((iabs ((S.1 7) - 2048)) + (iabs ((S.1 8) - 2048))) _ dX3_toMiddle_54 rfl (by rw [r_X3_toMiddle]) (by rw [c_X3_toMiddle])
set_option maxHeartbeats 400000 in
set_option maxRecDepth 100000 in
theorem t_X3_toMiddle (d : gD) (a : Nat → Nat) (S : SS)  : gMi d yX3_toMiddle cX3_toMiddle 2 (some .int) R_X3_toMiddle [.ref (a 0)] (SK d a S) (fun r_ u_ => r_ = r_X3_toMiddle S ∧ u_ = SK d a (c_X3_toMiddle S)) :=
  g_met_i RX3 rfl (by decide +kernel) (Nat.le_of_ble_eq_true rfl) [(0, .ref (a 0))] rfl (fun X E RET => s_X3_toMiddle_0 d a S  E (fun pc_ lv_ v_ u_ h1_ h2_ h3_ h4_ => RET pc_ lv_ v_ u_ h1_ h2_ ⟨h3_, h4_⟩))
end
section
abbrev R_X3_becomeLike : Room := { frames := 2, cells := 0, slots := 0, locals := 40 }
def c_X3_becomeLike_0 (S : SS) (T : SS) : SS := (upd (upd (upd (upd (upd (upd (upd (upd (upd (upd (upd (upd (upd (upd (upd S.1 7 (T.1 7)) 8 (T.1 8)) 9 (T.1 9)) 14 (T.1 14)) 15 (T.1 15)) 10 (T.1 10)) 11 (T.1 11)) 12 (T.1 12)) 13 (T.1 13)) 21 (T.1 21)) 16 (T.1 16)) 17 (T.1 17)) 18 (T.1 18)) 19 (T.1 19)) 20 (T.1 20), T.2.1, T.2.2)
set_option maxHeartbeats 400000 in
set_option maxRecDepth 100000 in
theorem s_X3_becomeLike_0 (d : gD) (a : Nat → Nat) (b : Nat → Nat) (S : SS) (T : SS)   {X : gX} (E : gE d X RX3 cX3_becomeLike 2 R_X3_becomeLike) (RET : ∀ (pc_ : Nat) (lv_ : List (Nat × Value)) (u_ : va_W), decode cX3_becomeLike pc_ = .ok (.return_, 1) → u_ = SK d a (c_X3_becomeLike_0 S T) ++ (SK d b T) → G d X u_ R_X3_becomeLike.cells R_X3_becomeLike.slots pc_ lv_ []) : G d X (SK d a S ++ (SK d b T)) 0 0 0 [(0, .ref (a 0)), (1, .ref (b 0))] [] := by
  refine g_aload_n E 1 dX3_becomeLike_0 rfl rfl ?_
  refine g_get E (ci := 3) inlX3 10 rfl rfl 0 (by decide) fl_X3_18 rfl (.ref (b 1)) rfl dX3_becomeLike_1 ?_
  refine g_iconst E 0 dX3_becomeLike_4 (by decide) ?_
  refine g_aload_n E 0 dX3_becomeLike_5 rfl rfl ?_
  refine g_get E (ci := 3) inlX3 4 rfl rfl 0 (by decide) fl_X3_18 rfl (.ref (a 1)) rfl dX3_becomeLike_6 ?_
  refine g_iconst E 0 dX3_becomeLike_9 (by decide) ?_
  refine g_bipush E 7 dX3_becomeLike_10 (by decide) ?_
  refine g_copyAll E 11 5 rfl rfl rfl rfl rfl (by decide) ml_X3_40 (ok_le rfl) (ok_le rfl) (ws' := SK d a (S.1, T.2.1, S.2.2) ++ (SK d b T)) rfl dX3_becomeLike_12 ?_
  refine g_aload_n E 0 dX3_becomeLike_15 rfl rfl ?_
  refine g_get E (ci := 3) inlX3 4 rfl rfl 1 (by decide) fl_X3_26 rfl (.ref (a 2)) rfl dX3_becomeLike_16 ?_
  refine g_aload_n E 1 dX3_becomeLike_19 rfl rfl ?_
  refine g_get E (ci := 3) inlX3 10 rfl rfl 1 (by decide) fl_X3_26 rfl (.ref (b 2)) rfl dX3_becomeLike_20 ?_
  refine g_perm (ws' := (DK d a S.2.2 ++ DK d b T.2.2) ++ (SO d a S.1 T.2.1 ++ SO d b T.1 T.2.1)) (perm4 _ _ _ _) ?_
  refine g_callVvD E gc_X0_becomeLike ml_X3_46 (t2_X0_becomeLike d a b S.2.2 T.2.2 ) rfl (wr := SO d a S.1 T.2.1 ++ SO d b T.1 T.2.1) rfl (ci := 0) 0 rfl rfl rfl rfl (ok_le rfl) ⟨ok_le rfl, ok_le rfl, ok_le rfl, ok_le rfl⟩ rfl rfl dX3_becomeLike_23 ?_
  refine g_perm (ws' := (DK d a T.2.2 ++ SO d a S.1 T.2.1) ++ (DK d b T.2.2 ++ SO d b T.1 T.2.1)) (perm4 _ _ _ _) ?_
  refine g_eq (ws' := SK d a (S.1, T.2.1, T.2.2) ++ (SK d b T)) (SK_mk2 d a S.1 T.2.1 T.2.2 b T.1 T.2.1 T.2.2) ?_
  refine g_aload_n E 0 dX3_becomeLike_26 rfl rfl ?_
  refine g_aload_n E 1 dX3_becomeLike_27 rfl rfl ?_
  refine g_get E (ci := 3) inlX3 10 rfl rfl 2 (by decide) fl_X3_30 rfl (.int (T.1 7)) rfl dX3_becomeLike_28 ?_
  refine g_put E (ci := 3) inlX3 4 rfl rfl 2 (by decide) tyX3 tyX3_ok nmX3 fl_X3_30 rfl rfl rfl rfl (ok_lt rfl) (ws' := SK d a (upd S.1 7 (T.1 7), T.2.1, T.2.2) ++ (SK d b T)) rfl dX3_becomeLike_31 ?_
  refine g_aload_n E 0 dX3_becomeLike_34 rfl rfl ?_
  refine g_aload_n E 1 dX3_becomeLike_35 rfl rfl ?_
  refine g_get E (ci := 3) inlX3 10 rfl rfl 3 (by decide) fl_X3_34 rfl (.int (T.1 8)) rfl dX3_becomeLike_36 ?_
  refine g_put E (ci := 3) inlX3 4 rfl rfl 3 (by decide) tyX3 tyX3_ok nmX3 fl_X3_34 rfl rfl rfl rfl (ok_lt rfl) (ws' := SK d a (upd (upd S.1 7 (T.1 7)) 8 (T.1 8), T.2.1, T.2.2) ++ (SK d b T)) rfl dX3_becomeLike_39 ?_
  refine g_aload_n E 0 dX3_becomeLike_42 rfl rfl ?_
  refine g_aload_n E 1 dX3_becomeLike_43 rfl rfl ?_
  refine g_get E (ci := 3) inlX3 10 rfl rfl 4 (by decide) fl_X3_37 rfl (.int (T.1 9)) rfl dX3_becomeLike_44 ?_
  refine g_put E (ci := 3) inlX3 4 rfl rfl 4 (by decide) tyX3 tyX3_ok nmX3 fl_X3_37 rfl rfl rfl rfl (ok_lt rfl) (ws' := SK d a (upd (upd (upd S.1 7 (T.1 7)) 8 (T.1 8)) 9 (T.1 9), T.2.1, T.2.2) ++ (SK d b T)) rfl dX3_becomeLike_47 ?_
  refine g_aload_n E 0 dX3_becomeLike_50 rfl rfl ?_
  refine g_aload_n E 1 dX3_becomeLike_51 rfl rfl ?_
  refine g_get E (ci := 3) inlX3 10 rfl rfl 5 (by decide) fl_X3_50 rfl (.int (T.1 14)) rfl dX3_becomeLike_52 ?_
  refine g_put E (ci := 3) inlX3 4 rfl rfl 5 (by decide) tyX3 tyX3_ok nmX3 fl_X3_50 rfl rfl rfl rfl (ok_lt rfl) (ws' := SK d a (upd (upd (upd (upd S.1 7 (T.1 7)) 8 (T.1 8)) 9 (T.1 9)) 14 (T.1 14), T.2.1, T.2.2) ++ (SK d b T)) rfl dX3_becomeLike_55 ?_
  refine g_aload_n E 0 dX3_becomeLike_58 rfl rfl ?_
  refine g_aload_n E 1 dX3_becomeLike_59 rfl rfl ?_
  refine g_get E (ci := 3) inlX3 10 rfl rfl 6 (by decide) fl_X3_53 rfl (.int (T.1 15)) rfl dX3_becomeLike_60 ?_
  refine g_put E (ci := 3) inlX3 4 rfl rfl 6 (by decide) tyX3 tyX3_ok nmX3 fl_X3_53 rfl rfl rfl rfl (ok_lt rfl) (ws' := SK d a (upd (upd (upd (upd (upd S.1 7 (T.1 7)) 8 (T.1 8)) 9 (T.1 9)) 14 (T.1 14)) 15 (T.1 15), T.2.1, T.2.2) ++ (SK d b T)) rfl dX3_becomeLike_63 ?_
  refine g_aload_n E 0 dX3_becomeLike_66 rfl rfl ?_
  refine g_aload_n E 1 dX3_becomeLike_67 rfl rfl ?_
  refine g_get E (ci := 3) inlX3 10 rfl rfl 7 (by decide) fl_X3_56 rfl (.int (T.1 10)) rfl dX3_becomeLike_68 ?_
  refine g_put E (ci := 3) inlX3 4 rfl rfl 7 (by decide) tyX3 tyX3_ok nmX3 fl_X3_56 rfl rfl rfl rfl (ok_lt rfl) (ws' := SK d a (upd (upd (upd (upd (upd (upd S.1 7 (T.1 7)) 8 (T.1 8)) 9 (T.1 9)) 14 (T.1 14)) 15 (T.1 15)) 10 (T.1 10), T.2.1, T.2.2) ++ (SK d b T)) rfl dX3_becomeLike_71 ?_
  refine g_aload_n E 0 dX3_becomeLike_74 rfl rfl ?_
  refine g_aload_n E 1 dX3_becomeLike_75 rfl rfl ?_
  refine g_get E (ci := 3) inlX3 10 rfl rfl 8 (by decide) fl_X3_59 rfl (.int (T.1 11)) rfl dX3_becomeLike_76 ?_
  refine g_put E (ci := 3) inlX3 4 rfl rfl 8 (by decide) tyX3 tyX3_ok nmX3 fl_X3_59 rfl rfl rfl rfl (ok_lt rfl) (ws' := SK d a (upd (upd (upd (upd (upd (upd (upd S.1 7 (T.1 7)) 8 (T.1 8)) 9 (T.1 9)) 14 (T.1 14)) 15 (T.1 15)) 10 (T.1 10)) 11 (T.1 11), T.2.1, T.2.2) ++ (SK d b T)) rfl dX3_becomeLike_79 ?_
  refine g_aload_n E 0 dX3_becomeLike_82 rfl rfl ?_
  refine g_aload_n E 1 dX3_becomeLike_83 rfl rfl ?_
  refine g_get E (ci := 3) inlX3 10 rfl rfl 9 (by decide) fl_X3_62 rfl (.int (T.1 12)) rfl dX3_becomeLike_84 ?_
  refine g_put E (ci := 3) inlX3 4 rfl rfl 9 (by decide) tyX3 tyX3_ok nmX3 fl_X3_62 rfl rfl rfl rfl (ok_lt rfl) (ws' := SK d a (upd (upd (upd (upd (upd (upd (upd (upd S.1 7 (T.1 7)) 8 (T.1 8)) 9 (T.1 9)) 14 (T.1 14)) 15 (T.1 15)) 10 (T.1 10)) 11 (T.1 11)) 12 (T.1 12), T.2.1, T.2.2) ++ (SK d b T)) rfl dX3_becomeLike_87 ?_
  refine g_aload_n E 0 dX3_becomeLike_90 rfl rfl ?_
  refine g_aload_n E 1 dX3_becomeLike_91 rfl rfl ?_
  refine g_get E (ci := 3) inlX3 10 rfl rfl 10 (by decide) fl_X3_65 rfl (.int (T.1 13)) rfl dX3_becomeLike_92 ?_
  refine g_put E (ci := 3) inlX3 4 rfl rfl 10 (by decide) tyX3 tyX3_ok nmX3 fl_X3_65 rfl rfl rfl rfl (ok_lt rfl) (ws' := SK d a (upd (upd (upd (upd (upd (upd (upd (upd (upd S.1 7 (T.1 7)) 8 (T.1 8)) 9 (T.1 9)) 14 (T.1 14)) 15 (T.1 15)) 10 (T.1 10)) 11 (T.1 11)) 12 (T.1 12)) 13 (T.1 13), T.2.1, T.2.2) ++ (SK d b T)) rfl dX3_becomeLike_95 ?_
  refine g_aload_n E 0 dX3_becomeLike_98 rfl rfl ?_
  refine g_aload_n E 1 dX3_becomeLike_99 rfl rfl ?_
  refine g_get E (ci := 3) inlX3 10 rfl rfl 11 (by decide) fl_X3_68 rfl (.int (T.1 21)) rfl dX3_becomeLike_100 ?_
  refine g_put E (ci := 3) inlX3 4 rfl rfl 11 (by decide) tyX3 tyX3_ok nmX3 fl_X3_68 rfl rfl rfl rfl (ok_lt rfl) (ws' := SK d a (upd (upd (upd (upd (upd (upd (upd (upd (upd (upd S.1 7 (T.1 7)) 8 (T.1 8)) 9 (T.1 9)) 14 (T.1 14)) 15 (T.1 15)) 10 (T.1 10)) 11 (T.1 11)) 12 (T.1 12)) 13 (T.1 13)) 21 (T.1 21), T.2.1, T.2.2) ++ (SK d b T)) rfl dX3_becomeLike_103 ?_
  refine g_aload_n E 0 dX3_becomeLike_106 rfl rfl ?_
  refine g_aload_n E 1 dX3_becomeLike_107 rfl rfl ?_
  refine g_get E (ci := 3) inlX3 10 rfl rfl 12 (by decide) fl_X3_71 rfl (.int (T.1 16)) rfl dX3_becomeLike_108 ?_
  refine g_put E (ci := 3) inlX3 4 rfl rfl 12 (by decide) tyX3 tyX3_ok nmX3 fl_X3_71 rfl rfl rfl rfl (ok_lt rfl) (ws' := SK d a (upd (upd (upd (upd (upd (upd (upd (upd (upd (upd (upd S.1 7 (T.1 7)) 8 (T.1 8)) 9 (T.1 9)) 14 (T.1 14)) 15 (T.1 15)) 10 (T.1 10)) 11 (T.1 11)) 12 (T.1 12)) 13 (T.1 13)) 21 (T.1 21)) 16 (T.1 16), T.2.1, T.2.2) ++ (SK d b T)) rfl dX3_becomeLike_111 ?_
  refine g_aload_n E 0 dX3_becomeLike_114 rfl rfl ?_
  refine g_aload_n E 1 dX3_becomeLike_115 rfl rfl ?_
  refine g_get E (ci := 3) inlX3 10 rfl rfl 13 (by decide) fl_X3_74 rfl (.int (T.1 17)) rfl dX3_becomeLike_116 ?_
  refine g_put E (ci := 3) inlX3 4 rfl rfl 13 (by decide) tyX3 tyX3_ok nmX3 fl_X3_74 rfl rfl rfl rfl (ok_lt rfl) (ws' := SK d a (upd (upd (upd (upd (upd (upd (upd (upd (upd (upd (upd (upd S.1 7 (T.1 7)) 8 (T.1 8)) 9 (T.1 9)) 14 (T.1 14)) 15 (T.1 15)) 10 (T.1 10)) 11 (T.1 11)) 12 (T.1 12)) 13 (T.1 13)) 21 (T.1 21)) 16 (T.1 16)) 17 (T.1 17), T.2.1, T.2.2) ++ (SK d b T)) rfl dX3_becomeLike_119 ?_
  refine g_aload_n E 0 dX3_becomeLike_122 rfl rfl ?_
  refine g_aload_n E 1 dX3_becomeLike_123 rfl rfl ?_
  refine g_get E (ci := 3) inlX3 10 rfl rfl 14 (by decide) fl_X3_77 rfl (.int (T.1 18)) rfl dX3_becomeLike_124 ?_
  refine g_put E (ci := 3) inlX3 4 rfl rfl 14 (by decide) tyX3 tyX3_ok nmX3 fl_X3_77 rfl rfl rfl rfl (ok_lt rfl) (ws' := SK d a (upd (upd (upd (upd (upd (upd (upd (upd (upd (upd (upd (upd (upd S.1 7 (T.1 7)) 8 (T.1 8)) 9 (T.1 9)) 14 (T.1 14)) 15 (T.1 15)) 10 (T.1 10)) 11 (T.1 11)) 12 (T.1 12)) 13 (T.1 13)) 21 (T.1 21)) 16 (T.1 16)) 17 (T.1 17)) 18 (T.1 18), T.2.1, T.2.2) ++ (SK d b T)) rfl dX3_becomeLike_127 ?_
  refine g_aload_n E 0 dX3_becomeLike_130 rfl rfl ?_
  refine g_aload_n E 1 dX3_becomeLike_131 rfl rfl ?_
  refine g_get E (ci := 3) inlX3 10 rfl rfl 15 (by decide) fl_X3_80 rfl (.int (T.1 19)) rfl dX3_becomeLike_132 ?_
  refine g_put E (ci := 3) inlX3 4 rfl rfl 15 (by decide) tyX3 tyX3_ok nmX3 fl_X3_80 rfl rfl rfl rfl (ok_lt rfl) (ws' := SK d a (upd (upd (upd (upd (upd (upd (upd (upd (upd (upd (upd (upd (upd (upd S.1 7 (T.1 7)) 8 (T.1 8)) 9 (T.1 9)) 14 (T.1 14)) 15 (T.1 15)) 10 (T.1 10)) 11 (T.1 11)) 12 (T.1 12)) 13 (T.1 13)) 21 (T.1 21)) 16 (T.1 16)) 17 (T.1 17)) 18 (T.1 18)) 19 (T.1 19), T.2.1, T.2.2) ++ (SK d b T)) rfl dX3_becomeLike_135 ?_
  refine g_aload_n E 0 dX3_becomeLike_138 rfl rfl ?_
  refine g_aload_n E 1 dX3_becomeLike_139 rfl rfl ?_
  refine g_get E (ci := 3) inlX3 10 rfl rfl 16 (by decide) fl_X3_83 rfl (.int (T.1 20)) rfl dX3_becomeLike_140 ?_
  refine g_put E (ci := 3) inlX3 4 rfl rfl 16 (by decide) tyX3 tyX3_ok nmX3 fl_X3_83 rfl rfl rfl rfl (ok_lt rfl) (ws' := SK d a (upd (upd (upd (upd (upd (upd (upd (upd (upd (upd (upd (upd (upd (upd (upd S.1 7 (T.1 7)) 8 (T.1 8)) 9 (T.1 9)) 14 (T.1 14)) 15 (T.1 15)) 10 (T.1 10)) 11 (T.1 11)) 12 (T.1 12)) 13 (T.1 13)) 21 (T.1 21)) 16 (T.1 16)) 17 (T.1 17)) 18 (T.1 18)) 19 (T.1 19)) 20 (T.1 20), T.2.1, T.2.2) ++ (SK d b T)) rfl dX3_becomeLike_143 ?_
  exact RET 146 _ _ dX3_becomeLike_146 (by rw [c_X3_becomeLike_0])
set_option maxHeartbeats 400000 in
set_option maxRecDepth 100000 in
theorem t_X3_becomeLike (d : gD) (a : Nat → Nat) (b : Nat → Nat) (S : SS) (T : SS)  : gMv d yX3_becomeLike cX3_becomeLike 2 R_X3_becomeLike [.ref (a 0), .ref (b 0)] (SK d a S ++ (SK d b T)) (fun u_ => u_ = SK d a (c_X3_becomeLike_0 S T) ++ (SK d b T)) :=
  g_met_v RX3 rfl (by decide +kernel) (Nat.le_of_ble_eq_true rfl) [(0, .ref (a 0)), (1, .ref (b 0))] rfl (fun X E _ RET => s_X3_becomeLike_0 d a b S T  E (fun pc_ lv_ u_ h1_ h2_ => RET pc_ lv_ u_ h1_ h2_))
theorem t2_X3_becomeLike (d : gD) (a : Nat → Nat) (b : Nat → Nat) (S : SS) (T : SS) : gMv d yX3_becomeLike cX3_becomeLike 2 R_X3_becomeLike [.ref (a 0), .ref (b 0)] (SK d a S ++ (SK d b T)) (fun u_ => u_ = SK d a T ++ (SK d b T)) := t_X3_becomeLike d a b S T
end
section
abbrev R_X2_charactersIn : Room := { frames := 0, cells := 0, slots := 0, locals := 0 }
def r_X2_charactersIn_at4 (w : Int64) : Nat → (Nat) → (Int64) → Int32
  | 0, _, _ => 0
  | n + 1, k, z => if (lg_cmp z 0) = 0 then (nI k) else (if (nI k) < 8 then (if (lg_cmp (z &&& 255) 33) < 0 then 0 else (if 0 < (lg_cmp (z &&& 255) 126) then 0 else (r_X2_charactersIn_at4 w n (k + 1) ((z.toUInt64 >>> ((8 : Int32).toInt64.toUInt64 &&& Int64.toUInt64 63)).toInt64)))) else (nI k))
def r_X2_charactersIn (w : Int64) : Int32 := r_X2_charactersIn_at4 w 9 0 w
set_option maxHeartbeats 400000 in
set_option maxRecDepth 100000 in
theorem s_X2_charactersIn_4 (d : gD) (w : Int64)  {X : gX} (E : gE d X RX2 cX2_charactersIn 7 R_X2_charactersIn) : ∀ (n : Nat) (k : Nat) (z : Int64) (hk : k ≤ 8) (hm : 8 - k < n) (RET : ∀ (pc_ : Nat) (lv_ : List (Nat × Value)) (v_ : Int32) (u_ : va_W), decode cX2_charactersIn pc_ = .ok (.ireturn, 1) → narrow .int (.int v_) = .int v_ → v_ = r_X2_charactersIn_at4 w n k z → u_ = [] → G d X u_ R_X2_charactersIn.cells R_X2_charactersIn.slots pc_ lv_ [.int v_]), G d X ([]) 0 0 4 [(0, .long w), (2, .int (nI k)), (3, .long z)] [] := by
  intro n
  induction n with
  | zero => intro k z hk hm; omega
  | succ n ih =>
    intro k z hk hm RET
    refine g_lload_n E 2 dX2_charactersIn_4 rfl rfl ?_
    refine g_lconst E 0 dX2_charactersIn_5 (by decide) ?_
    refine g_lcmp E dX2_charactersIn_6 ?_
    refine g_ifeq E 54 dX2_charactersIn_7 (by decide) (fun c_7 => ?_) (fun c_7 => ?_)
    · skip
      refine g_iload_n E 1 dX2_charactersIn_54 rfl rfl ?_
      exact RET 55 _ (nI k) _ dX2_charactersIn_55 rfl (by rw [r_X2_charactersIn_at4, if_pos c_7]) rfl
    · skip
      refine g_iload_n E 1 dX2_charactersIn_10 rfl rfl ?_
      refine g_bipush E 8 dX2_charactersIn_11 (by decide) ?_
      refine g_icmpge E 54 dX2_charactersIn_13 (by decide) (fun c_13 => ?_) (fun c_13 => ?_)
      · skip
        refine g_iload_n E 1 dX2_charactersIn_54 rfl rfl ?_
        exact RET 55 _ (nI k) _ dX2_charactersIn_55 rfl (by rw [r_X2_charactersIn_at4, if_neg c_7, if_neg c_13]) rfl
      · skip
        have k13 : k < 8 := (nI_ltI (a := k) (b := 8) (by omega) (by omega)).mp c_13
        refine g_lload_n E 2 dX2_charactersIn_16 rfl rfl ?_
        refine g_ldc2 E kl_X2_23 dX2_charactersIn_17 ?_
        refine g_land E dX2_charactersIn_20 ?_
        refine g_lstore E (lv' := [(5, .long (z &&& 255)), (0, .long w), (2, .int (nI k)), (3, .long z)]) dX2_charactersIn_21 (by decide) rfl ?_
        refine g_lload E 0 dX2_charactersIn_23 rfl ?_
        refine g_ldc2 E kl_X2_25 dX2_charactersIn_25 ?_
        refine g_lcmp E dX2_charactersIn_28 ?_
        refine g_iflt E 41 dX2_charactersIn_29 (by decide) (fun c_29 => ?_) (fun c_29 => ?_)
        · skip
          refine g_iconst E 0 dX2_charactersIn_41 (by decide) ?_
          exact RET 42 _ 0 _ dX2_charactersIn_42 rfl (by rw [r_X2_charactersIn_at4, if_neg c_7, if_pos c_13, if_pos c_29]) rfl
        · skip
          refine g_lload E 0 dX2_charactersIn_32 rfl ?_
          refine g_ldc2 E kl_X2_27 dX2_charactersIn_34 ?_
          refine g_lcmp E dX2_charactersIn_37 ?_
          refine g_ifle E 43 dX2_charactersIn_38 (by decide) (fun c_38 => ?_) (fun c_38 => ?_)
          · skip
            refine g_iinc E (j := 2) (v := (nI (k + 1))) (lv' := [(2, .int (nI (k + 1))), (5, .long (z &&& 255)), (0, .long w), (3, .long z)]) dX2_charactersIn_43 rfl (nI_1 _) (by decide) rfl ?_
            refine g_lload_n E 3 dX2_charactersIn_46 rfl rfl ?_
            refine g_bipush E 8 dX2_charactersIn_47 (by decide) ?_
            refine g_lushr E dX2_charactersIn_49 ?_
            refine g_lstore_n E (lv' := [(3, .long ((z.toUInt64 >>> ((8 : Int32).toInt64.toUInt64 &&& Int64.toUInt64 63)).toInt64)), (2, .int (nI (k + 1))), (5, .long (z &&& 255)), (0, .long w)]) dX2_charactersIn_50 rfl (by decide) rfl ?_
            refine g_goto E 4 dX2_charactersIn_51 (by decide) ?_
            refine g_lvs (lv' := [(0, .long w), (2, .int (nI (k + 1))), (3, .long ((z.toUInt64 >>> ((8 : Int32).toInt64.toUInt64 &&& Int64.toUInt64 63)).toInt64))]) [3, 1, 0] rfl ?_
            exact ih (k + 1) ((z.toUInt64 >>> ((8 : Int32).toInt64.toUInt64 &&& Int64.toUInt64 63)).toInt64) (by omega) (by omega) (fun pc_ lv_ v_ u_ h1_ h2_ h3_ h4_ => RET pc_ lv_ v_ u_ h1_ h2_ (h3_.trans (by rw [r_X2_charactersIn_at4, if_neg c_7, if_pos c_13, if_neg c_29, if_neg c_38])) h4_)
          · skip
            refine g_iconst E 0 dX2_charactersIn_41 (by decide) ?_
            exact RET 42 _ 0 _ dX2_charactersIn_42 rfl (by rw [r_X2_charactersIn_at4, if_neg c_7, if_pos c_13, if_neg c_29, if_pos c_38]) rfl
set_option maxHeartbeats 400000 in
set_option maxRecDepth 100000 in
theorem s_X2_charactersIn_0 (d : gD) (w : Int64)   {X : gX} (E : gE d X RX2 cX2_charactersIn 7 R_X2_charactersIn) (RET : ∀ (pc_ : Nat) (lv_ : List (Nat × Value)) (v_ : Int32) (u_ : va_W), decode cX2_charactersIn pc_ = .ok (.ireturn, 1) → narrow .int (.int v_) = .int v_ → v_ = r_X2_charactersIn w → u_ = [] → G d X u_ R_X2_charactersIn.cells R_X2_charactersIn.slots pc_ lv_ [.int v_]) : G d X ([]) 0 0 0 [(0, .long w)] [] := by
  refine g_iconst E 0 dX2_charactersIn_0 (by decide) ?_
  refine g_istore_n E (lv' := [(2, .int 0), (0, .long w)]) dX2_charactersIn_1 rfl (by decide) rfl ?_
  refine g_lload_n E 1 dX2_charactersIn_2 rfl rfl ?_
  refine g_lstore_n E (lv' := [(3, .long w), (2, .int 0), (0, .long w)]) dX2_charactersIn_3 rfl (by decide) rfl ?_
  refine g_lvs (lv' := [(0, .long w), (2, .int 0), (3, .long w)]) [2, 1, 0] rfl ?_
  exact s_X2_charactersIn_4 d w  E 9 0 w (by omega) (by omega) (fun pc_ lv_ v_ u_ h1_ h2_ h3_ h4_ => RET pc_ lv_ v_ u_ h1_ h2_ (h3_.trans (by rw [r_X2_charactersIn])) h4_)
set_option maxHeartbeats 400000 in
set_option maxRecDepth 100000 in
theorem t_X2_charactersIn (d : gD) (w : Int64)  : gMi d yX2_charactersIn cX2_charactersIn 7 (some .int) R_X2_charactersIn [.long w] ([]) (fun r_ u_ => r_ = r_X2_charactersIn w ∧ u_ = []) :=
  g_met_i RX2 rfl (by decide +kernel) (Nat.le_of_ble_eq_true rfl) [(0, .long w)] rfl (fun X E RET => s_X2_charactersIn_0 d w  E (fun pc_ lv_ v_ u_ h1_ h2_ h3_ h4_ => RET pc_ lv_ v_ u_ h1_ h2_ ⟨h3_, h4_⟩))
abbrev R_X2_next : Room := { frames := 0, cells := 0, slots := 0, locals := 0 }
def r_X2_next (h : Nat → Int32) (t : Nat → Int32) : Int32 := if (h 1) < 0 then 0 else (if (h 1) < (h 0) then (if (h 1) < 80 then (t ((h 1).toNatClampNeg)) else 0) else 0)
set_option maxHeartbeats 400000 in
set_option maxRecDepth 100000 in
theorem s_X2_next_0 (d : gD) (a : Nat → Nat) (h : Nat → Int32) (t : Nat → Int32) (hT : chT t)  {X : gX} (E : gE d X RX2 cX2_next 1 R_X2_next) (RET : ∀ (pc_ : Nat) (lv_ : List (Nat × Value)) (v_ : Int32) (u_ : va_W), decode cX2_next pc_ = .ok (.ireturn, 1) → narrow .char (.int v_) = .int v_ → v_ = r_X2_next h t → u_ = PK d a h t → G d X u_ R_X2_next.cells R_X2_next.slots pc_ lv_ [.int v_]) : G d X (PK d a h t) 0 0 0 [(0, .ref (a 0))] [] := by
  refine g_aload_n E 0 dX2_next_0 rfl rfl ?_
  refine g_get E (ci := 2) inlX2 0 rfl rfl 2 (by decide) fl_X2_36 rfl (.int (h 1)) rfl dX2_next_1 ?_
  refine g_iflt E 42 dX2_next_4 (by decide) (fun c_4 => ?_) (fun c_4 => ?_)
  · skip
    refine g_iconst E 0 dX2_next_42 (by decide) ?_
    exact RET 43 _ 0 _ dX2_next_43 rfl (by rw [r_X2_next, if_pos c_4]) rfl
  · skip
    refine g_aload_n E 0 dX2_next_7 rfl rfl ?_
    refine g_get E (ci := 2) inlX2 0 rfl rfl 2 (by decide) fl_X2_36 rfl (.int (h 1)) rfl dX2_next_8 ?_
    refine g_aload_n E 0 dX2_next_11 rfl rfl ?_
    refine g_get E (ci := 2) inlX2 0 rfl rfl 1 (by decide) fl_X2_19 rfl (.int (h 0)) rfl dX2_next_12 ?_
    refine g_icmpge E 42 dX2_next_15 (by decide) (fun c_15 => ?_) (fun c_15 => ?_)
    · skip
      refine g_iconst E 0 dX2_next_42 (by decide) ?_
      exact RET 43 _ 0 _ dX2_next_43 rfl (by rw [r_X2_next, if_neg c_4, if_neg c_15]) rfl
    · skip
      refine g_aload_n E 0 dX2_next_18 rfl rfl ?_
      refine g_get E (ci := 2) inlX2 0 rfl rfl 2 (by decide) fl_X2_36 rfl (.int (h 1)) rfl dX2_next_19 ?_
      refine g_aload_n E 0 dX2_next_22 rfl rfl ?_
      refine g_get E (ci := 2) inlX2 0 rfl rfl 0 (by decide) fl_X2_9 rfl (.ref (a 1)) rfl dX2_next_23 ?_
      refine g_alen E 1 1 rfl rfl 80 rfl dX2_next_26 ?_
      refine g_icmpge E 42 dX2_next_27 (by decide) (fun c_27 => ?_) (fun c_27 => ?_)
      · skip
        refine g_iconst E 0 dX2_next_42 (by decide) ?_
        exact RET 43 _ 0 _ dX2_next_43 rfl (by rw [r_X2_next, if_neg c_4, if_pos c_15, if_neg c_27]) rfl
      · skip
        refine g_aload_n E 0 dX2_next_30 rfl rfl ?_
        refine g_get E (ci := 2) inlX2 0 rfl rfl 0 (by decide) fl_X2_9 rfl (.ref (a 1)) rfl dX2_next_31 ?_
        refine g_aload_n E 0 dX2_next_34 rfl rfl ?_
        refine g_get E (ci := 2) inlX2 0 rfl rfl 2 (by decide) fl_X2_36 rfl (.int (h 1)) rfl dX2_next_35 ?_
        refine g_cald E 1 rfl rfl ((h 1).toNatClampNeg) (ix_eq c_4) (ix_lt (N := 80) c_4 c_27) (by decide) dX2_next_38 ?_
        refine g_goto E 43 dX2_next_39 (by decide) ?_
        exact RET 43 _ (t ((h 1).toNatClampNeg)) _ dX2_next_43 (hT _).1 (by rw [r_X2_next, if_neg c_4, if_pos c_15, if_pos c_27]) rfl
set_option maxHeartbeats 400000 in
set_option maxRecDepth 100000 in
theorem t_X2_next (d : gD) (a : Nat → Nat) (h : Nat → Int32) (t : Nat → Int32) (hT : chT t) : gMi d yX2_next cX2_next 1 (some .char) R_X2_next [.ref (a 0)] (PK d a h t) (fun r_ u_ => r_ = r_X2_next h t ∧ u_ = PK d a h t) :=
  g_met_i RX2 rfl (by decide +kernel) (Nat.le_of_ble_eq_true rfl) [(0, .ref (a 0))] rfl (fun X E RET => s_X2_next_0 d a h t hT E (fun pc_ lv_ v_ u_ h1_ h2_ h3_ h4_ => RET pc_ lv_ v_ u_ h1_ h2_ ⟨h3_, h4_⟩))
theorem next_ch {h t : Nat → Int32} (hT : chT t) : narrow .char (.int (r_X2_next h t)) = .int (r_X2_next h t) ∧ fits .char (.int (r_X2_next h t)) = true := by
  unfold r_X2_next
  split
  · exact ⟨rfl, rfl⟩
  · split
    · split
      · exact hT _
      · exact ⟨rfl, rfl⟩
    · exact ⟨rfl, rfl⟩
abbrev R_X2_empty : Room := { frames := 0, cells := 0, slots := 0, locals := 0 }
def r_X2_empty (h : Nat → Int32) (t : Nat → Int32) : Int32 := (h 0)
def c_X2_empty_h (h : Nat → Int32) (t : Nat → Int32) : Nat → Int32 := upd h 0 0
set_option maxHeartbeats 400000 in
set_option maxRecDepth 100000 in
theorem s_X2_empty_0 (d : gD) (a : Nat → Nat) (h : Nat → Int32) (t : Nat → Int32)   {X : gX} (E : gE d X RX2 cX2_empty 2 R_X2_empty) (RET : ∀ (pc_ : Nat) (lv_ : List (Nat × Value)) (v_ : Int32) (u_ : va_W), decode cX2_empty pc_ = .ok (.ireturn, 1) → narrow .int (.int v_) = .int v_ → v_ = r_X2_empty h t → u_ = PK d a (c_X2_empty_h h t) t → G d X u_ R_X2_empty.cells R_X2_empty.slots pc_ lv_ [.int v_]) : G d X (PK d a h t) 0 0 0 [(0, .ref (a 0))] [] := by
  refine g_aload_n E 0 dX2_empty_0 rfl rfl ?_
  refine g_get E (ci := 2) inlX2 0 rfl rfl 1 (by decide) fl_X2_19 rfl (.int (h 0)) rfl dX2_empty_1 ?_
  refine g_istore_n E (lv' := [(1, .int (h 0)), (0, .ref (a 0))]) dX2_empty_4 rfl (by decide) rfl ?_
  refine g_aload_n E 1 dX2_empty_5 rfl rfl ?_
  refine g_iconst E 0 dX2_empty_6 (by decide) ?_
  refine g_put E (ci := 2) inlX2 0 rfl rfl 1 (by decide) tyX2 tyX2_ok nmX2 fl_X2_19 rfl rfl rfl rfl (ok_lt rfl) (ws' := PK d a (upd h 0 0) t) rfl dX2_empty_7 ?_
  refine g_iload_n E 0 dX2_empty_10 rfl rfl ?_
  exact RET 11 _ (h 0) _ dX2_empty_11 rfl (by rw [r_X2_empty]) (by rw [c_X2_empty_h])
set_option maxHeartbeats 400000 in
set_option maxRecDepth 100000 in
theorem t_X2_empty (d : gD) (a : Nat → Nat) (h : Nat → Int32) (t : Nat → Int32)  : gMi d yX2_empty cX2_empty 2 (some .int) R_X2_empty [.ref (a 0)] (PK d a h t) (fun r_ u_ => r_ = r_X2_empty h t ∧ u_ = PK d a (c_X2_empty_h h t) t) :=
  g_met_i RX2 rfl (by decide +kernel) (Nat.le_of_ble_eq_true rfl) [(0, .ref (a 0))] rfl (fun X E RET => s_X2_empty_0 d a h t  E (fun pc_ lv_ v_ u_ h1_ h2_ h3_ h4_ => RET pc_ lv_ v_ u_ h1_ h2_ ⟨h3_, h4_⟩))
abbrev R_X2_goToStart : Room := { frames := 0, cells := 0, slots := 0, locals := 0 }
def c_X2_goToStart_h (h : Nat → Int32) (t : Nat → Int32) : Nat → Int32 := upd h 1 0
set_option maxHeartbeats 400000 in
set_option maxRecDepth 100000 in
theorem s_X2_goToStart_0 (d : gD) (a : Nat → Nat) (h : Nat → Int32) (t : Nat → Int32)   {X : gX} (E : gE d X RX2 cX2_goToStart 1 R_X2_goToStart) (RET : ∀ (pc_ : Nat) (lv_ : List (Nat × Value)) (u_ : va_W), decode cX2_goToStart pc_ = .ok (.return_, 1) → u_ = PK d a (c_X2_goToStart_h h t) t → G d X u_ R_X2_goToStart.cells R_X2_goToStart.slots pc_ lv_ []) : G d X (PK d a h t) 0 0 0 [(0, .ref (a 0))] [] := by
  refine g_aload_n E 0 dX2_goToStart_0 rfl rfl ?_
  refine g_iconst E 0 dX2_goToStart_1 (by decide) ?_
  refine g_put E (ci := 2) inlX2 0 rfl rfl 2 (by decide) tyX2 tyX2_ok nmX2 fl_X2_36 rfl rfl rfl rfl (ok_lt rfl) (ws' := PK d a (upd h 1 0) t) rfl dX2_goToStart_2 ?_
  exact RET 5 _ _ dX2_goToStart_5 (by rw [c_X2_goToStart_h])
set_option maxHeartbeats 400000 in
set_option maxRecDepth 100000 in
theorem t_X2_goToStart (d : gD) (a : Nat → Nat) (h : Nat → Int32) (t : Nat → Int32)  : gMv d yX2_goToStart cX2_goToStart 1 R_X2_goToStart [.ref (a 0)] (PK d a h t) (fun u_ => u_ = PK d a (c_X2_goToStart_h h t) t) :=
  g_met_v RX2 rfl (by decide +kernel) (Nat.le_of_ble_eq_true rfl) [(0, .ref (a 0))] rfl (fun X E _ RET => s_X2_goToStart_0 d a h t  E (fun pc_ lv_ u_ h1_ h2_ => RET pc_ lv_ u_ h1_ h2_))
abbrev R_X2_skip : Room := { frames := 1, cells := 0, slots := 0, locals := 20 }
def r_X2_skip (wanted : Int32) (h : Nat → Int32) (t : Nat → Int32) : Int32 := if (r_X2_next h t) = wanted then 1 else 0
def c_X2_skip_h (wanted : Int32) (h : Nat → Int32) (t : Nat → Int32) : Nat → Int32 := if (r_X2_next h t) = wanted then (upd h 1 ((h 1) + 1)) else h
set_option maxHeartbeats 400000 in
set_option maxRecDepth 100000 in
theorem s_X2_skip_0 (d : gD) (a : Nat → Nat) (wanted : Int32) (h : Nat → Int32) (t : Nat → Int32) (hT : chT t)  {X : gX} (E : gE d X RX2 cX2_skip 2 R_X2_skip) (RET : ∀ (pc_ : Nat) (lv_ : List (Nat × Value)) (v_ : Int32) (u_ : va_W), decode cX2_skip pc_ = .ok (.ireturn, 1) → narrow .boolean (.int v_) = .int v_ → v_ = r_X2_skip wanted h t → u_ = PK d a (c_X2_skip_h wanted h t) t → G d X u_ R_X2_skip.cells R_X2_skip.slots pc_ lv_ [.int v_]) : G d X (PK d a h t) 0 0 0 [(0, .ref (a 0)), (1, .int wanted)] [] := by
  refine g_aload_n E 0 dX2_skip_0 rfl rfl ?_
  refine g_callVi0 E gc_X2_next ml_X2_43 (t_X2_next d a h t (by assumption)) rfl rfl (ci := 2) 0 rfl rfl rfl rfl (ok_le rfl) ⟨ok_le rfl, ok_le rfl, ok_le rfl, ok_le rfl⟩ rfl rfl dX2_skip_1 ?_
  refine g_nm (fun v1_ hv1_ => ?_)
  refine g_iload_n E 1 dX2_skip_4 rfl rfl ?_
  refine g_icmpeq E 10 dX2_skip_5 (by decide) (fun c_5 => ?_) (fun c_5 => ?_)
  · skip
    refine g_aload_n E 0 dX2_skip_10 rfl rfl ?_
    refine g_dup E dX2_skip_11 rfl ?_
    refine g_get E (ci := 2) inlX2 0 rfl rfl 2 (by decide) fl_X2_36 rfl (.int (h 1)) rfl dX2_skip_12 ?_
    refine g_iconst E 1 dX2_skip_15 (by decide) ?_
    refine g_iadd E dX2_skip_16 ?_
    refine g_put E (ci := 2) inlX2 0 rfl rfl 2 (by decide) tyX2 tyX2_ok nmX2 fl_X2_36 rfl rfl rfl rfl (ok_lt rfl) (ws' := PK d a (upd h 1 ((h 1) + 1)) t) rfl dX2_skip_17 ?_
    refine g_iconst E 1 dX2_skip_20 (by decide) ?_
    subst hv1_
    exact RET 21 _ 1 _ dX2_skip_21 rfl (by rw [r_X2_skip, if_pos c_5]) (by rw [c_X2_skip_h, if_pos c_5])
  · skip
    refine g_iconst E 0 dX2_skip_8 (by decide) ?_
    subst hv1_
    exact RET 9 _ 0 _ dX2_skip_9 rfl (by rw [r_X2_skip, if_neg c_5]) (by rw [c_X2_skip_h, if_neg c_5])
set_option maxHeartbeats 400000 in
set_option maxRecDepth 100000 in
theorem t_X2_skip (d : gD) (a : Nat → Nat) (wanted : Int32) (h : Nat → Int32) (t : Nat → Int32) (hT : chT t) : gMi d yX2_skip cX2_skip 2 (some .boolean) R_X2_skip [.ref (a 0), .int wanted] (PK d a h t) (fun r_ u_ => r_ = r_X2_skip wanted h t ∧ u_ = PK d a (c_X2_skip_h wanted h t) t) :=
  g_met_i RX2 rfl (by decide +kernel) (Nat.le_of_ble_eq_true rfl) [(0, .ref (a 0)), (1, .int wanted)] rfl (fun X E RET => s_X2_skip_0 d a wanted h t hT E (fun pc_ lv_ v_ u_ h1_ h2_ h3_ h4_ => RET pc_ lv_ v_ u_ h1_ h2_ ⟨h3_, h4_⟩))
abbrev R_X2_readDigit : Room := { frames := 1, cells := 0, slots := 0, locals := 20 }
def r_X2_readDigit (h : Nat → Int32) (t : Nat → Int32) : Int32 := if (r_X2_next h t) < 48 then (-6) else (if 57 < (r_X2_next h t) then (-6) else ((r_X2_next h t) - 48))
def c_X2_readDigit_h (h : Nat → Int32) (t : Nat → Int32) : Nat → Int32 := if (r_X2_next h t) < 48 then h else (if 57 < (r_X2_next h t) then h else (upd h 1 ((h 1) + 1)))
set_option maxHeartbeats 400000 in
set_option maxRecDepth 100000 in
theorem s_X2_readDigit_0 (d : gD) (a : Nat → Nat) (h : Nat → Int32) (t : Nat → Int32) (hT : chT t)  {X : gX} (E : gE d X RX2 cX2_readDigit 2 R_X2_readDigit) (RET : ∀ (pc_ : Nat) (lv_ : List (Nat × Value)) (v_ : Int32) (u_ : va_W), decode cX2_readDigit pc_ = .ok (.ireturn, 1) → narrow .int (.int v_) = .int v_ → v_ = r_X2_readDigit h t → u_ = PK d a (c_X2_readDigit_h h t) t → G d X u_ R_X2_readDigit.cells R_X2_readDigit.slots pc_ lv_ [.int v_]) : G d X (PK d a h t) 0 0 0 [(0, .ref (a 0))] [] := by
  refine g_aload_n E 0 dX2_readDigit_0 rfl rfl ?_
  refine g_callVi0 E gc_X2_next ml_X2_43 (t_X2_next d a h t (by assumption)) rfl rfl (ci := 2) 0 rfl rfl rfl rfl (ok_le rfl) ⟨ok_le rfl, ok_le rfl, ok_le rfl, ok_le rfl⟩ rfl rfl dX2_readDigit_1 ?_
  refine g_nm (fun v1_ hv1_ => ?_)
  refine g_istore_n E (lv' := [(1, .int v1_), (0, .ref (a 0))]) dX2_readDigit_4 rfl (by decide) rfl ?_
  refine g_iload_n E 0 dX2_readDigit_5 rfl rfl ?_
  refine g_bipush E 48 dX2_readDigit_6 (by decide) ?_
  refine g_icmplt E 17 dX2_readDigit_8 (by decide) (fun c_8 => ?_) (fun c_8 => ?_)
  · skip
    refine g_bipush E (-6) dX2_readDigit_17 (by decide) ?_
    subst hv1_
    exact RET 19 _ (-6) _ dX2_readDigit_19 rfl (by rw [r_X2_readDigit, if_pos c_8]) (by rw [c_X2_readDigit_h, if_pos c_8])
  · skip
    refine g_iload_n E 0 dX2_readDigit_11 rfl rfl ?_
    refine g_bipush E 57 dX2_readDigit_12 (by decide) ?_
    refine g_icmple E 20 dX2_readDigit_14 (by decide) (fun c_14 => ?_) (fun c_14 => ?_)
    · skip
      refine g_aload_n E 1 dX2_readDigit_20 rfl rfl ?_
      refine g_dup E dX2_readDigit_21 rfl ?_
      refine g_get E (ci := 2) inlX2 0 rfl rfl 2 (by decide) fl_X2_36 rfl (.int (h 1)) rfl dX2_readDigit_22 ?_
      refine g_iconst E 1 dX2_readDigit_25 (by decide) ?_
      refine g_iadd E dX2_readDigit_26 ?_
      refine g_put E (ci := 2) inlX2 0 rfl rfl 2 (by decide) tyX2 tyX2_ok nmX2 fl_X2_36 rfl rfl rfl rfl (ok_lt rfl) (ws' := PK d a (upd h 1 ((h 1) + 1)) t) rfl dX2_readDigit_27 ?_
      refine g_iload_n E 0 dX2_readDigit_30 rfl rfl ?_
      refine g_bipush E 48 dX2_readDigit_31 (by decide) ?_
      refine g_isub E dX2_readDigit_33 ?_
      subst hv1_
      exact RET 34 _ ((r_X2_next h t) - 48) _ dX2_readDigit_34 rfl (by rw [r_X2_readDigit, if_neg c_8, if_neg c_14]) (by rw [c_X2_readDigit_h, if_neg c_8, if_neg c_14])
    · skip
      refine g_bipush E (-6) dX2_readDigit_17 (by decide) ?_
      subst hv1_
      exact RET 19 _ (-6) _ dX2_readDigit_19 rfl (by rw [r_X2_readDigit, if_neg c_8, if_pos c_14]) (by rw [c_X2_readDigit_h, if_neg c_8, if_pos c_14])
set_option maxHeartbeats 400000 in
set_option maxRecDepth 100000 in
theorem t_X2_readDigit (d : gD) (a : Nat → Nat) (h : Nat → Int32) (t : Nat → Int32) (hT : chT t) : gMi d yX2_readDigit cX2_readDigit 2 (some .int) R_X2_readDigit [.ref (a 0)] (PK d a h t) (fun r_ u_ => r_ = r_X2_readDigit h t ∧ u_ = PK d a (c_X2_readDigit_h h t) t) :=
  g_met_i RX2 rfl (by decide +kernel) (Nat.le_of_ble_eq_true rfl) [(0, .ref (a 0))] rfl (fun X E RET => s_X2_readDigit_0 d a h t hT E (fun pc_ lv_ v_ u_ h1_ h2_ h3_ h4_ => RET pc_ lv_ v_ u_ h1_ h2_ ⟨h3_, h4_⟩))
abbrev R_X2_readNumber : Room := { frames := 2, cells := 0, slots := 0, locals := 41 }
def r_X2_readNumber_at13 (h : Nat → Int32) (t : Nat → Int32) : Nat → (Int32) → (Nat) → (Nat → Int32) → Int32
  | 0, _, _, _ => 0
  | n + 1, w, k, h1 => if (nI k) < 3 then (if (r_X2_readDigit h1 t) < 0 then w else (r_X2_readNumber_at13 h t n ((10 * w) + (r_X2_readDigit h1 t)) (k + 1) (c_X2_readDigit_h h1 t))) else w
def c_X2_readNumber_h_at13 (h : Nat → Int32) (t : Nat → Int32) : Nat → (Int32) → (Nat) → (Nat → Int32) → Nat → Int32
  | 0, _, _, h1 => h1
  | n + 1, w, k, h1 => if (nI k) < 3 then (if (r_X2_readDigit h1 t) < 0 then (c_X2_readDigit_h h1 t) else (c_X2_readNumber_h_at13 h t n ((10 * w) + (r_X2_readDigit h1 t)) (k + 1) (c_X2_readDigit_h h1 t))) else h1
def r_X2_readNumber (h : Nat → Int32) (t : Nat → Int32) : Int32 := if 0 < (r_X2_readDigit h t) then (r_X2_readNumber_at13 h t 4 (r_X2_readDigit h t) 1 (c_X2_readDigit_h h t)) else (r_X2_readDigit h t)
def c_X2_readNumber_h (h : Nat → Int32) (t : Nat → Int32) : Nat → Int32 := if 0 < (r_X2_readDigit h t) then (c_X2_readNumber_h_at13 h t 4 (r_X2_readDigit h t) 1 (c_X2_readDigit_h h t)) else (c_X2_readDigit_h h t)
set_option maxHeartbeats 400000 in
set_option maxRecDepth 100000 in
theorem s_X2_readNumber_13 (d : gD) (a : Nat → Nat) (h : Nat → Int32) (t : Nat → Int32) (hT : chT t) {X : gX} (E : gE d X RX2 cX2_readNumber 4 R_X2_readNumber) : ∀ (n : Nat) (w : Int32) (k : Nat) (h1 : Nat → Int32) (hk : k ≤ 3) (hm : 3 - k < n) (RET : ∀ (pc_ : Nat) (lv_ : List (Nat × Value)) (v_ : Int32) (u_ : va_W), decode cX2_readNumber pc_ = .ok (.ireturn, 1) → narrow .int (.int v_) = .int v_ → v_ = r_X2_readNumber_at13 h t n w k h1 → u_ = PK d a (c_X2_readNumber_h_at13 h t n w k h1) t → G d X u_ R_X2_readNumber.cells R_X2_readNumber.slots pc_ lv_ [.int v_]), G d X (PK d a h1 t) 0 0 13 [(0, .ref (a 0)), (1, .int w), (2, .int (nI k))] [] := by
  intro n
  induction n with
  | zero => intro w k h1 hk hm; omega
  | succ n ih =>
    intro w k h1 hk hm RET
    refine g_iload_n E 2 dX2_readNumber_13 rfl rfl ?_
    refine g_iconst E 3 dX2_readNumber_14 (by decide) ?_
    refine g_icmpge E 42 dX2_readNumber_15 (by decide) (fun c_15 => ?_) (fun c_15 => ?_)
    · skip
      refine g_iload_n E 1 dX2_readNumber_42 rfl rfl ?_
      exact RET 43 _ w _ dX2_readNumber_43 rfl (by rw [r_X2_readNumber_at13, if_neg c_15]) (by rw [c_X2_readNumber_h_at13, if_neg c_15])
    · skip
      have k15 : k < 3 := (nI_ltI (a := k) (b := 3) (by omega) (by omega)).mp c_15
      refine g_aload_n E 0 dX2_readNumber_18 rfl rfl ?_
      refine g_callVi0 E gc_X2_readDigit ml_X2_57 (t_X2_readDigit d a h1 t (by assumption)) rfl rfl (ci := 2) 0 rfl rfl rfl rfl (ok_le rfl) ⟨ok_le rfl, ok_le rfl, ok_le rfl, ok_le rfl⟩ rfl rfl dX2_readNumber_19 ?_
      obtain ⟨S3_, hS3_⟩ : ∃ z, z = c_X2_readDigit_h h1 t := ⟨_, rfl⟩
      rw [← hS3_]
      refine g_nm (fun v4_ hv4_ => ?_)
      refine g_istore_n E (lv' := [(3, .int v4_), (0, .ref (a 0)), (1, .int w), (2, .int (nI k))]) dX2_readNumber_22 rfl (by decide) rfl ?_
      refine g_iload_n E 0 dX2_readNumber_23 rfl rfl ?_
      refine g_ifge E 29 dX2_readNumber_24 (by decide) (fun c_24 => ?_) (fun c_24 => ?_)
      · skip
        refine g_bipush E 10 dX2_readNumber_29 (by decide) ?_
        refine g_iload_n E 2 dX2_readNumber_31 rfl rfl ?_
        refine g_imul E dX2_readNumber_32 ?_
        refine g_iload_n E 0 dX2_readNumber_33 rfl rfl ?_
        refine g_iadd E dX2_readNumber_34 ?_
        refine g_istore_n E (lv' := [(1, .int ((10 * w) + v4_)), (3, .int v4_), (0, .ref (a 0)), (2, .int (nI k))]) dX2_readNumber_35 rfl (by decide) rfl ?_
        refine g_iinc E (j := 3) (v := (nI (k + 1))) (lv' := [(2, .int (nI (k + 1))), (1, .int ((10 * w) + v4_)), (3, .int v4_), (0, .ref (a 0))]) dX2_readNumber_36 rfl (nI_1 _) (by decide) rfl ?_
        refine g_goto E 13 dX2_readNumber_39 (by decide) ?_
        refine g_lvs (lv' := [(0, .ref (a 0)), (1, .int ((10 * w) + v4_)), (2, .int (nI (k + 1)))]) [3, 1, 0] rfl ?_
        subst hv4_
        subst hS3_
        exact ih ((10 * w) + (r_X2_readDigit h1 t)) (k + 1) (c_X2_readDigit_h h1 t) (by omega) (by omega) (fun pc_ lv_ v_ u_ h1_ h2_ h3_ h4_ => RET pc_ lv_ v_ u_ h1_ h2_ (h3_.trans (by rw [r_X2_readNumber_at13, if_pos c_15, if_neg c_24])) (h4_.trans (by rw [c_X2_readNumber_h_at13, if_pos c_15, if_neg c_24])))
      · skip
        refine g_iload_n E 2 dX2_readNumber_27 rfl rfl ?_
        subst hv4_
        subst hS3_
        exact RET 28 _ w _ dX2_readNumber_28 rfl (by rw [r_X2_readNumber_at13, if_pos c_15, if_pos c_24]) (by rw [c_X2_readNumber_h_at13, if_pos c_15, if_pos c_24])
set_option maxHeartbeats 400000 in
set_option maxRecDepth 100000 in
theorem s_X2_readNumber_0 (d : gD) (a : Nat → Nat) (h : Nat → Int32) (t : Nat → Int32) (hT : chT t)  {X : gX} (E : gE d X RX2 cX2_readNumber 4 R_X2_readNumber) (RET : ∀ (pc_ : Nat) (lv_ : List (Nat × Value)) (v_ : Int32) (u_ : va_W), decode cX2_readNumber pc_ = .ok (.ireturn, 1) → narrow .int (.int v_) = .int v_ → v_ = r_X2_readNumber h t → u_ = PK d a (c_X2_readNumber_h h t) t → G d X u_ R_X2_readNumber.cells R_X2_readNumber.slots pc_ lv_ [.int v_]) : G d X (PK d a h t) 0 0 0 [(0, .ref (a 0))] [] := by
  refine g_aload_n E 0 dX2_readNumber_0 rfl rfl ?_
  refine g_callVi0 E gc_X2_readDigit ml_X2_57 (t_X2_readDigit d a h t (by assumption)) rfl rfl (ci := 2) 0 rfl rfl rfl rfl (ok_le rfl) ⟨ok_le rfl, ok_le rfl, ok_le rfl, ok_le rfl⟩ rfl rfl dX2_readNumber_1 ?_
  obtain ⟨S1_, hS1_⟩ : ∃ z, z = c_X2_readDigit_h h t := ⟨_, rfl⟩
  rw [← hS1_]
  refine g_nm (fun v2_ hv2_ => ?_)
  refine g_istore_n E (lv' := [(1, .int v2_), (0, .ref (a 0))]) dX2_readNumber_4 rfl (by decide) rfl ?_
  refine g_iload_n E 0 dX2_readNumber_5 rfl rfl ?_
  refine g_ifgt E 11 dX2_readNumber_6 (by decide) (fun c_6 => ?_) (fun c_6 => ?_)
  · skip
    refine g_iconst E 1 dX2_readNumber_11 (by decide) ?_
    refine g_istore_n E (lv' := [(2, .int 1), (1, .int v2_), (0, .ref (a 0))]) dX2_readNumber_12 rfl (by decide) rfl ?_
    refine g_lvs (lv' := [(0, .ref (a 0)), (1, .int v2_), (2, .int 1)]) [2, 1, 0] rfl ?_
    subst hv2_
    subst hS1_
    exact s_X2_readNumber_13 d a h t hT E 4 (r_X2_readDigit h t) 1 (c_X2_readDigit_h h t) (by omega) (by omega) (fun pc_ lv_ v_ u_ h1_ h2_ h3_ h4_ => RET pc_ lv_ v_ u_ h1_ h2_ (h3_.trans (by rw [r_X2_readNumber, if_pos c_6])) (h4_.trans (by rw [c_X2_readNumber_h, if_pos c_6])))
  · skip
    refine g_iload_n E 0 dX2_readNumber_9 rfl rfl ?_
    subst hv2_
    subst hS1_
    exact RET 10 _ (r_X2_readDigit h t) _ dX2_readNumber_10 rfl (by rw [r_X2_readNumber, if_neg c_6]) (by rw [c_X2_readNumber_h, if_neg c_6])
set_option maxHeartbeats 400000 in
set_option maxRecDepth 100000 in
theorem t_X2_readNumber (d : gD) (a : Nat → Nat) (h : Nat → Int32) (t : Nat → Int32) (hT : chT t) : gMi d yX2_readNumber cX2_readNumber 4 (some .int) R_X2_readNumber [.ref (a 0)] (PK d a h t) (fun r_ u_ => r_ = r_X2_readNumber h t ∧ u_ = PK d a (c_X2_readNumber_h h t) t) :=
  g_met_i RX2 rfl (by decide +kernel) (Nat.le_of_ble_eq_true rfl) [(0, .ref (a 0))] rfl (fun X E RET => s_X2_readNumber_0 d a h t hT E (fun pc_ lv_ v_ u_ h1_ h2_ h3_ h4_ => RET pc_ lv_ v_ u_ h1_ h2_ ⟨h3_, h4_⟩))
abbrev R_X2_readSamples : Room := { frames := 3, cells := 0, slots := 0, locals := 64 }
def r_X2_readSamples (h : Nat → Int32) (t : Nat → Int32) : Int32 := if (r_X2_readNumber h t) < 0 then 0 else (if (r_X2_skip 44 (upd (c_X2_readNumber_h h t) 3 (r_X2_readNumber h t)) t) = 0 then 0 else (if (r_X2_readNumber (c_X2_skip_h 44 (upd (c_X2_readNumber_h h t) 3 (r_X2_readNumber h t)) t) t) < 0 then (if (r_X2_readNumber (c_X2_skip_h 44 (upd (c_X2_readNumber_h h t) 3 (r_X2_readNumber h t)) t) t) < 0 then 0 else 1) else (if (r_X2_skip 42 (upd (c_X2_readNumber_h (c_X2_skip_h 44 (upd (c_X2_readNumber_h h t) 3 (r_X2_readNumber h t)) t) t) 4 (r_X2_readNumber (c_X2_skip_h 44 (upd (c_X2_readNumber_h h t) 3 (r_X2_readNumber h t)) t) t)) t) = 0 then (if ((c_X2_skip_h 42 (upd (c_X2_readNumber_h (c_X2_skip_h 44 (upd (c_X2_readNumber_h h t) 3 (r_X2_readNumber h t)) t) t) 4 (r_X2_readNumber (c_X2_skip_h 44 (upd (c_X2_readNumber_h h t) 3 (r_X2_readNumber h t)) t) t)) t) 4) < 0 then 0 else 1) else (if (r_X2_readNumber (c_X2_skip_h 42 (upd (c_X2_readNumber_h (c_X2_skip_h 44 (upd (c_X2_readNumber_h h t) 3 (r_X2_readNumber h t)) t) t) 4 (r_X2_readNumber (c_X2_skip_h 44 (upd (c_X2_readNumber_h h t) 3 (r_X2_readNumber h t)) t) t)) t) t) < 0 then 0 else 1))))
def c_X2_readSamples_h (h : Nat → Int32) (t : Nat → Int32) : Nat → Int32 := if (r_X2_readNumber h t) < 0 then (upd (c_X2_readNumber_h h t) 3 (r_X2_readNumber h t)) else (if (r_X2_skip 44 (upd (c_X2_readNumber_h h t) 3 (r_X2_readNumber h t)) t) = 0 then (c_X2_skip_h 44 (upd (c_X2_readNumber_h h t) 3 (r_X2_readNumber h t)) t) else (if (r_X2_readNumber (c_X2_skip_h 44 (upd (c_X2_readNumber_h h t) 3 (r_X2_readNumber h t)) t) t) < 0 then (upd (c_X2_readNumber_h (c_X2_skip_h 44 (upd (c_X2_readNumber_h h t) 3 (r_X2_readNumber h t)) t) t) 4 (r_X2_readNumber (c_X2_skip_h 44 (upd (c_X2_readNumber_h h t) 3 (r_X2_readNumber h t)) t) t)) else (if (r_X2_skip 42 (upd (c_X2_readNumber_h (c_X2_skip_h 44 (upd (c_X2_readNumber_h h t) 3 (r_X2_readNumber h t)) t) t) 4 (r_X2_readNumber (c_X2_skip_h 44 (upd (c_X2_readNumber_h h t) 3 (r_X2_readNumber h t)) t) t)) t) = 0 then (c_X2_skip_h 42 (upd (c_X2_readNumber_h (c_X2_skip_h 44 (upd (c_X2_readNumber_h h t) 3 (r_X2_readNumber h t)) t) t) 4 (r_X2_readNumber (c_X2_skip_h 44 (upd (c_X2_readNumber_h h t) 3 (r_X2_readNumber h t)) t) t)) t) else (upd (c_X2_readNumber_h (c_X2_skip_h 42 (upd (c_X2_readNumber_h (c_X2_skip_h 44 (upd (c_X2_readNumber_h h t) 3 (r_X2_readNumber h t)) t) t) 4 (r_X2_readNumber (c_X2_skip_h 44 (upd (c_X2_readNumber_h h t) 3 (r_X2_readNumber h t)) t) t)) t) t) 5 (r_X2_readNumber (c_X2_skip_h 42 (upd (c_X2_readNumber_h (c_X2_skip_h 44 (upd (c_X2_readNumber_h h t) 3 (r_X2_readNumber h t)) t) t) 4 (r_X2_readNumber (c_X2_skip_h 44 (upd (c_X2_readNumber_h h t) 3 (r_X2_readNumber h t)) t) t)) t) t)))))
set_option maxHeartbeats 400000 in
set_option maxRecDepth 100000 in
theorem s_X2_readSamples_0 (d : gD) (a : Nat → Nat) (h : Nat → Int32) (t : Nat → Int32) (hT : chT t)  {X : gX} (E : gE d X RX2 cX2_readSamples 1 R_X2_readSamples) (RET : ∀ (pc_ : Nat) (lv_ : List (Nat × Value)) (v_ : Int32) (u_ : va_W), decode cX2_readSamples pc_ = .ok (.ireturn, 1) → narrow .boolean (.int v_) = .int v_ → v_ = r_X2_readSamples h t → u_ = PK d a (c_X2_readSamples_h h t) t → G d X u_ R_X2_readSamples.cells R_X2_readSamples.slots pc_ lv_ [.int v_]) : G d X (PK d a h t) 0 0 0 [(0, .ref (a 0))] [] := by
  refine g_aload_n E 0 dX2_readSamples_0 rfl rfl ?_
  refine g_aload_n E 0 dX2_readSamples_1 rfl rfl ?_
  refine g_callVi0 E gc_X2_readNumber ml_X2_64 (t_X2_readNumber d a h t (by assumption)) rfl rfl (ci := 2) 0 rfl rfl rfl rfl (ok_le rfl) ⟨ok_le rfl, ok_le rfl, ok_le rfl, ok_le rfl⟩ rfl rfl dX2_readSamples_2 ?_
  obtain ⟨S1_, hS1_⟩ : ∃ z, z = c_X2_readNumber_h h t := ⟨_, rfl⟩
  rw [← hS1_]
  refine g_nm (fun v2_ hv2_ => ?_)
  refine g_put E (ci := 2) inlX2 0 rfl rfl 4 (by decide) tyX2 tyX2_ok nmX2 fl_X2_61 rfl rfl rfl rfl (ok_lt rfl) (ws' := PK d a (upd S1_ 3 v2_) t) rfl dX2_readSamples_5 ?_
  refine g_aload_n E 0 dX2_readSamples_8 rfl rfl ?_
  refine g_get E (ci := 2) inlX2 0 rfl rfl 4 (by decide) fl_X2_61 rfl (.int v2_) rfl dX2_readSamples_9 ?_
  refine g_iflt E 24 dX2_readSamples_12 (by decide) (fun c_12 => ?_) (fun c_12 => ?_)
  · skip
    refine g_iconst E 0 dX2_readSamples_24 (by decide) ?_
    subst hv2_
    subst hS1_
    exact RET 25 _ 0 _ dX2_readSamples_25 rfl (by rw [r_X2_readSamples, if_pos c_12]) (by rw [c_X2_readSamples_h, if_pos c_12])
  · skip
    refine g_aload_n E 0 dX2_readSamples_15 rfl rfl ?_
    refine g_bipush E 44 dX2_readSamples_16 (by decide) ?_
    refine g_callVi0 E gc_X2_skip ml_X2_39 (t_X2_skip d a 44 (upd S1_ 3 v2_) t (by assumption)) rfl rfl (ci := 2) 0 rfl rfl rfl rfl (ok_le rfl) ⟨ok_le rfl, ok_le rfl, ok_le rfl, ok_le rfl⟩ rfl rfl dX2_readSamples_18 ?_
    obtain ⟨S3_, hS3_⟩ : ∃ z, z = c_X2_skip_h 44 (upd S1_ 3 v2_) t := ⟨_, rfl⟩
    rw [← hS3_]
    refine g_nm (fun v4_ hv4_ => ?_)
    refine g_ifne E 26 dX2_readSamples_21 (by decide) (fun c_21 => ?_) (fun c_21 => ?_)
    · skip
      refine g_aload_n E 0 dX2_readSamples_26 rfl rfl ?_
      refine g_aload_n E 0 dX2_readSamples_27 rfl rfl ?_
      refine g_callVi0 E gc_X2_readNumber ml_X2_64 (t_X2_readNumber d a S3_ t (by assumption)) rfl rfl (ci := 2) 0 rfl rfl rfl rfl (ok_le rfl) ⟨ok_le rfl, ok_le rfl, ok_le rfl, ok_le rfl⟩ rfl rfl dX2_readSamples_28 ?_
      obtain ⟨S5_, hS5_⟩ : ∃ z, z = c_X2_readNumber_h S3_ t := ⟨_, rfl⟩
      rw [← hS5_]
      refine g_nm (fun v6_ hv6_ => ?_)
      refine g_put E (ci := 2) inlX2 0 rfl rfl 5 (by decide) tyX2 tyX2_ok nmX2 fl_X2_67 rfl rfl rfl rfl (ok_lt rfl) (ws' := PK d a (upd S5_ 4 v6_) t) rfl dX2_readSamples_31 ?_
      refine g_aload_n E 0 dX2_readSamples_34 rfl rfl ?_
      refine g_get E (ci := 2) inlX2 0 rfl rfl 5 (by decide) fl_X2_67 rfl (.int v6_) rfl dX2_readSamples_35 ?_
      refine g_iflt E 50 dX2_readSamples_38 (by decide) (fun c_38 => ?_) (fun c_38 => ?_)
      · skip
        refine g_aload_n E 0 dX2_readSamples_50 rfl rfl ?_
        refine g_get E (ci := 2) inlX2 0 rfl rfl 5 (by decide) fl_X2_67 rfl (.int v6_) rfl dX2_readSamples_51 ?_
        refine g_iflt E 61 dX2_readSamples_54 (by decide) (fun c_54 => ?_) (fun c_54 => ?_)
        · skip
          refine g_iconst E 0 dX2_readSamples_61 (by decide) ?_
          subst hv6_
          subst hS5_
          subst hv4_
          subst hS3_
          subst hv2_
          subst hS1_
          exact RET 62 _ 0 _ dX2_readSamples_62 rfl (by rw [r_X2_readSamples, if_neg c_12, if_neg c_21, if_pos c_38, if_pos c_54]) (by rw [c_X2_readSamples_h, if_neg c_12, if_neg c_21, if_pos c_38])
        · skip
          refine g_iconst E 1 dX2_readSamples_57 (by decide) ?_
          refine g_goto E 62 dX2_readSamples_58 (by decide) ?_
          subst hv6_
          subst hS5_
          subst hv4_
          subst hS3_
          subst hv2_
          subst hS1_
          exact RET 62 _ 1 _ dX2_readSamples_62 rfl (by rw [r_X2_readSamples, if_neg c_12, if_neg c_21, if_pos c_38, if_neg c_54]) (by rw [c_X2_readSamples_h, if_neg c_12, if_neg c_21, if_pos c_38])
      · skip
        refine g_aload_n E 0 dX2_readSamples_41 rfl rfl ?_
        refine g_bipush E 42 dX2_readSamples_42 (by decide) ?_
        refine g_callVi0 E gc_X2_skip ml_X2_39 (t_X2_skip d a 42 (upd S5_ 4 v6_) t (by assumption)) rfl rfl (ci := 2) 0 rfl rfl rfl rfl (ok_le rfl) ⟨ok_le rfl, ok_le rfl, ok_le rfl, ok_le rfl⟩ rfl rfl dX2_readSamples_44 ?_
        obtain ⟨S7_, hS7_⟩ : ∃ z, z = c_X2_skip_h 42 (upd S5_ 4 v6_) t := ⟨_, rfl⟩
        rw [← hS7_]
        refine g_nm (fun v8_ hv8_ => ?_)
        refine g_ifne E 63 dX2_readSamples_47 (by decide) (fun c_47 => ?_) (fun c_47 => ?_)
        · skip
          refine g_aload_n E 0 dX2_readSamples_63 rfl rfl ?_
          refine g_aload_n E 0 dX2_readSamples_64 rfl rfl ?_
          refine g_callVi0 E gc_X2_readNumber ml_X2_64 (t_X2_readNumber d a S7_ t (by assumption)) rfl rfl (ci := 2) 0 rfl rfl rfl rfl (ok_le rfl) ⟨ok_le rfl, ok_le rfl, ok_le rfl, ok_le rfl⟩ rfl rfl dX2_readSamples_65 ?_
          obtain ⟨S9_, hS9_⟩ : ∃ z, z = c_X2_readNumber_h S7_ t := ⟨_, rfl⟩
          rw [← hS9_]
          refine g_nm (fun v10_ hv10_ => ?_)
          refine g_put E (ci := 2) inlX2 0 rfl rfl 6 (by decide) tyX2 tyX2_ok nmX2 fl_X2_51 rfl rfl rfl rfl (ok_lt rfl) (ws' := PK d a (upd S9_ 5 v10_) t) rfl dX2_readSamples_68 ?_
          refine g_aload_n E 0 dX2_readSamples_71 rfl rfl ?_
          refine g_get E (ci := 2) inlX2 0 rfl rfl 6 (by decide) fl_X2_51 rfl (.int v10_) rfl dX2_readSamples_72 ?_
          refine g_iflt E 82 dX2_readSamples_75 (by decide) (fun c_75 => ?_) (fun c_75 => ?_)
          · skip
            refine g_iconst E 0 dX2_readSamples_82 (by decide) ?_
            subst hv10_
            subst hS9_
            subst hv8_
            subst hS7_
            subst hv6_
            subst hS5_
            subst hv4_
            subst hS3_
            subst hv2_
            subst hS1_
            exact RET 83 _ 0 _ dX2_readSamples_83 rfl (by rw [r_X2_readSamples, if_neg c_12, if_neg c_21, if_neg c_38, if_neg c_47, if_pos c_75]) (by rw [c_X2_readSamples_h, if_neg c_12, if_neg c_21, if_neg c_38, if_neg c_47])
          · skip
            refine g_iconst E 1 dX2_readSamples_78 (by decide) ?_
            refine g_goto E 83 dX2_readSamples_79 (by decide) ?_
            subst hv10_
            subst hS9_
            subst hv8_
            subst hS7_
            subst hv6_
            subst hS5_
            subst hv4_
            subst hS3_
            subst hv2_
            subst hS1_
            exact RET 83 _ 1 _ dX2_readSamples_83 rfl (by rw [r_X2_readSamples, if_neg c_12, if_neg c_21, if_neg c_38, if_neg c_47, if_neg c_75]) (by rw [c_X2_readSamples_h, if_neg c_12, if_neg c_21, if_neg c_38, if_neg c_47])
        · skip
          refine g_aload_n E 0 dX2_readSamples_50 rfl rfl ?_
          refine g_get E (ci := 2) inlX2 0 rfl rfl 5 (by decide) fl_X2_67 rfl (.int (S7_ 4)) rfl dX2_readSamples_51 ?_
          refine g_iflt E 61 dX2_readSamples_54 (by decide) (fun c_54 => ?_) (fun c_54 => ?_)
          · skip
            refine g_iconst E 0 dX2_readSamples_61 (by decide) ?_
            subst hv8_
            subst hS7_
            subst hv6_
            subst hS5_
            subst hv4_
            subst hS3_
            subst hv2_
            subst hS1_
            exact RET 62 _ 0 _ dX2_readSamples_62 rfl (by rw [r_X2_readSamples, if_neg c_12, if_neg c_21, if_neg c_38, if_pos c_47, if_pos c_54]) (by rw [c_X2_readSamples_h, if_neg c_12, if_neg c_21, if_neg c_38, if_pos c_47])
          · skip
            refine g_iconst E 1 dX2_readSamples_57 (by decide) ?_
            refine g_goto E 62 dX2_readSamples_58 (by decide) ?_
            subst hv8_
            subst hS7_
            subst hv6_
            subst hS5_
            subst hv4_
            subst hS3_
            subst hv2_
            subst hS1_
            exact RET 62 _ 1 _ dX2_readSamples_62 rfl (by rw [r_X2_readSamples, if_neg c_12, if_neg c_21, if_neg c_38, if_pos c_47, if_neg c_54]) (by rw [c_X2_readSamples_h, if_neg c_12, if_neg c_21, if_neg c_38, if_pos c_47])
    · skip
      refine g_iconst E 0 dX2_readSamples_24 (by decide) ?_
      subst hv4_
      subst hS3_
      subst hv2_
      subst hS1_
      exact RET 25 _ 0 _ dX2_readSamples_25 rfl (by rw [r_X2_readSamples, if_neg c_12, if_pos c_21]) (by rw [c_X2_readSamples_h, if_neg c_12, if_pos c_21])
set_option maxHeartbeats 400000 in
set_option maxRecDepth 100000 in
theorem t_X2_readSamples (d : gD) (a : Nat → Nat) (h : Nat → Int32) (t : Nat → Int32) (hT : chT t) : gMi d yX2_readSamples cX2_readSamples 1 (some .boolean) R_X2_readSamples [.ref (a 0)] (PK d a h t) (fun r_ u_ => r_ = r_X2_readSamples h t ∧ u_ = PK d a (c_X2_readSamples_h h t) t) :=
  g_met_i RX2 rfl (by decide +kernel) (Nat.le_of_ble_eq_true rfl) [(0, .ref (a 0))] rfl (fun X E RET => s_X2_readSamples_0 d a h t hT E (fun pc_ lv_ v_ u_ h1_ h2_ h3_ h4_ => RET pc_ lv_ v_ u_ h1_ h2_ ⟨h3_, h4_⟩))
theorem rs_bool (h t : Nat → Int32) : r_X2_readSamples h t = 0 ∨ r_X2_readSamples h t = 1 := by
  unfold r_X2_readSamples
  repeat' split
  all_goals first | exact Or.inl rfl | exact Or.inr rfl
abbrev R_X2_readOrder : Room := { frames := 4, cells := 0, slots := 0, locals := 84 }
def r_X2_readOrder (h : Nat → Int32) (t : Nat → Int32) : Int32 := if (r_X2_next h t) = 115 then (r_X2_readSamples (upd (upd (upd h 2 (r_X2_next h t)) 5 1) 1 ((h 1) + 1)) t) else (if (r_X2_next h t) = 98 then (if (r_X2_readDigit (upd (upd (upd h 2 (r_X2_next h t)) 5 1) 1 ((h 1) + 1)) t) < 0 then 0 else 1) else (if (r_X2_next h t) = 117 then (if (r_X2_readDigit (upd (upd (upd h 2 (r_X2_next h t)) 5 1) 1 ((h 1) + 1)) t) < 0 then 0 else 1) else 0))
def c_X2_readOrder_h (h : Nat → Int32) (t : Nat → Int32) : Nat → Int32 := if (r_X2_next h t) = 115 then (c_X2_readSamples_h (upd (upd (upd h 2 (r_X2_next h t)) 5 1) 1 ((h 1) + 1)) t) else (if (r_X2_next h t) = 98 then (upd (c_X2_readDigit_h (upd (upd (upd h 2 (r_X2_next h t)) 5 1) 1 ((h 1) + 1)) t) 3 (r_X2_readDigit (upd (upd (upd h 2 (r_X2_next h t)) 5 1) 1 ((h 1) + 1)) t)) else (if (r_X2_next h t) = 117 then (upd (c_X2_readDigit_h (upd (upd (upd h 2 (r_X2_next h t)) 5 1) 1 ((h 1) + 1)) t) 3 (r_X2_readDigit (upd (upd (upd h 2 (r_X2_next h t)) 5 1) 1 ((h 1) + 1)) t)) else (upd (upd h 2 (r_X2_next h t)) 5 1)))
set_option maxHeartbeats 400000 in
set_option maxRecDepth 100000 in
theorem s_X2_readOrder_0 (d : gD) (a : Nat → Nat) (h : Nat → Int32) (t : Nat → Int32) (hT : chT t)  {X : gX} (E : gE d X RX2 cX2_readOrder 1 R_X2_readOrder) (RET : ∀ (pc_ : Nat) (lv_ : List (Nat × Value)) (v_ : Int32) (u_ : va_W), decode cX2_readOrder pc_ = .ok (.ireturn, 1) → narrow .boolean (.int v_) = .int v_ → v_ = r_X2_readOrder h t → u_ = PK d a (c_X2_readOrder_h h t) t → G d X u_ R_X2_readOrder.cells R_X2_readOrder.slots pc_ lv_ [.int v_]) : G d X (PK d a h t) 0 0 0 [(0, .ref (a 0))] [] := by
  refine g_aload_n E 0 dX2_readOrder_0 rfl rfl ?_
  refine g_aload_n E 0 dX2_readOrder_1 rfl rfl ?_
  refine g_callVi0 E gc_X2_next ml_X2_43 (t_X2_next d a h t (by assumption)) rfl rfl (ci := 2) 0 rfl rfl rfl rfl (ok_le rfl) ⟨ok_le rfl, ok_le rfl, ok_le rfl, ok_le rfl⟩ rfl rfl dX2_readOrder_2 ?_
  refine g_nm (fun v1_ hv1_ => ?_)
  refine g_put E (ci := 2) inlX2 0 rfl rfl 3 (by decide) tyX2 tyX2_ok nmX2 fl_X2_47 rfl rfl (by rw [hv1_]; exact (next_ch hT).1) (by rw [hv1_]; exact (next_ch hT).2) (ok_lt rfl) (ws' := PK d a (upd h 2 v1_) t) rfl dX2_readOrder_5 ?_
  refine g_aload_n E 0 dX2_readOrder_8 rfl rfl ?_
  refine g_iconst E 1 dX2_readOrder_9 (by decide) ?_
  refine g_put E (ci := 2) inlX2 0 rfl rfl 6 (by decide) tyX2 tyX2_ok nmX2 fl_X2_51 rfl rfl rfl rfl (ok_lt rfl) (ws' := PK d a (upd (upd h 2 v1_) 5 1) t) rfl dX2_readOrder_10 ?_
  refine g_aload_n E 0 dX2_readOrder_13 rfl rfl ?_
  refine g_get E (ci := 2) inlX2 0 rfl rfl 3 (by decide) fl_X2_47 rfl (.int v1_) rfl dX2_readOrder_14 ?_
  refine g_bipush E 115 dX2_readOrder_17 (by decide) ?_
  refine g_icmpne E 37 dX2_readOrder_19 (by decide) (fun c_19 => ?_) (fun c_19 => ?_)
  · skip
    refine g_aload_n E 0 dX2_readOrder_37 rfl rfl ?_
    refine g_get E (ci := 2) inlX2 0 rfl rfl 3 (by decide) fl_X2_47 rfl (.int v1_) rfl dX2_readOrder_38 ?_
    refine g_bipush E 98 dX2_readOrder_41 (by decide) ?_
    refine g_icmpeq E 55 dX2_readOrder_43 (by decide) (fun c_43 => ?_) (fun c_43 => ?_)
    · skip
      refine g_aload_n E 0 dX2_readOrder_55 rfl rfl ?_
      refine g_dup E dX2_readOrder_56 rfl ?_
      refine g_get E (ci := 2) inlX2 0 rfl rfl 2 (by decide) fl_X2_36 rfl (.int (h 1)) rfl dX2_readOrder_57 ?_
      refine g_iconst E 1 dX2_readOrder_60 (by decide) ?_
      refine g_iadd E dX2_readOrder_61 ?_
      refine g_put E (ci := 2) inlX2 0 rfl rfl 2 (by decide) tyX2 tyX2_ok nmX2 fl_X2_36 rfl rfl rfl rfl (ok_lt rfl) (ws' := PK d a (upd (upd (upd h 2 v1_) 5 1) 1 ((h 1) + 1)) t) rfl dX2_readOrder_62 ?_
      refine g_aload_n E 0 dX2_readOrder_65 rfl rfl ?_
      refine g_aload_n E 0 dX2_readOrder_66 rfl rfl ?_
      refine g_callVi0 E gc_X2_readDigit ml_X2_57 (t_X2_readDigit d a (upd (upd (upd h 2 v1_) 5 1) 1 ((h 1) + 1)) t (by assumption)) rfl rfl (ci := 2) 0 rfl rfl rfl rfl (ok_le rfl) ⟨ok_le rfl, ok_le rfl, ok_le rfl, ok_le rfl⟩ rfl rfl dX2_readOrder_67 ?_
      obtain ⟨S2_, hS2_⟩ : ∃ z, z = c_X2_readDigit_h (upd (upd (upd h 2 v1_) 5 1) 1 ((h 1) + 1)) t := ⟨_, rfl⟩
      rw [← hS2_]
      refine g_nm (fun v3_ hv3_ => ?_)
      refine g_put E (ci := 2) inlX2 0 rfl rfl 4 (by decide) tyX2 tyX2_ok nmX2 fl_X2_61 rfl rfl rfl rfl (ok_lt rfl) (ws' := PK d a (upd S2_ 3 v3_) t) rfl dX2_readOrder_70 ?_
      refine g_aload_n E 0 dX2_readOrder_73 rfl rfl ?_
      refine g_get E (ci := 2) inlX2 0 rfl rfl 4 (by decide) fl_X2_61 rfl (.int v3_) rfl dX2_readOrder_74 ?_
      refine g_iflt E 84 dX2_readOrder_77 (by decide) (fun c_77 => ?_) (fun c_77 => ?_)
      · skip
        refine g_iconst E 0 dX2_readOrder_84 (by decide) ?_
        subst hv3_
        subst hS2_
        subst hv1_
        exact RET 85 _ 0 _ dX2_readOrder_85 rfl (by rw [r_X2_readOrder, if_neg c_19, if_pos c_43, if_pos c_77]) (by rw [c_X2_readOrder_h, if_neg c_19, if_pos c_43])
      · skip
        refine g_iconst E 1 dX2_readOrder_80 (by decide) ?_
        refine g_goto E 85 dX2_readOrder_81 (by decide) ?_
        subst hv3_
        subst hS2_
        subst hv1_
        exact RET 85 _ 1 _ dX2_readOrder_85 rfl (by rw [r_X2_readOrder, if_neg c_19, if_pos c_43, if_neg c_77]) (by rw [c_X2_readOrder_h, if_neg c_19, if_pos c_43])
    · skip
      refine g_aload_n E 0 dX2_readOrder_46 rfl rfl ?_
      refine g_get E (ci := 2) inlX2 0 rfl rfl 3 (by decide) fl_X2_47 rfl (.int v1_) rfl dX2_readOrder_47 ?_
      refine g_bipush E 117 dX2_readOrder_50 (by decide) ?_
      refine g_icmpne E 86 dX2_readOrder_52 (by decide) (fun c_52 => ?_) (fun c_52 => ?_)
      · skip
        refine g_iconst E 0 dX2_readOrder_86 (by decide) ?_
        subst hv1_
        exact RET 87 _ 0 _ dX2_readOrder_87 rfl (by rw [r_X2_readOrder, if_neg c_19, if_neg c_43, if_neg c_52]) (by rw [c_X2_readOrder_h, if_neg c_19, if_neg c_43, if_neg c_52])
      · skip
        refine g_aload_n E 0 dX2_readOrder_55 rfl rfl ?_
        refine g_dup E dX2_readOrder_56 rfl ?_
        refine g_get E (ci := 2) inlX2 0 rfl rfl 2 (by decide) fl_X2_36 rfl (.int (h 1)) rfl dX2_readOrder_57 ?_
        refine g_iconst E 1 dX2_readOrder_60 (by decide) ?_
        refine g_iadd E dX2_readOrder_61 ?_
        refine g_put E (ci := 2) inlX2 0 rfl rfl 2 (by decide) tyX2 tyX2_ok nmX2 fl_X2_36 rfl rfl rfl rfl (ok_lt rfl) (ws' := PK d a (upd (upd (upd h 2 v1_) 5 1) 1 ((h 1) + 1)) t) rfl dX2_readOrder_62 ?_
        refine g_aload_n E 0 dX2_readOrder_65 rfl rfl ?_
        refine g_aload_n E 0 dX2_readOrder_66 rfl rfl ?_
        refine g_callVi0 E gc_X2_readDigit ml_X2_57 (t_X2_readDigit d a (upd (upd (upd h 2 v1_) 5 1) 1 ((h 1) + 1)) t (by assumption)) rfl rfl (ci := 2) 0 rfl rfl rfl rfl (ok_le rfl) ⟨ok_le rfl, ok_le rfl, ok_le rfl, ok_le rfl⟩ rfl rfl dX2_readOrder_67 ?_
        obtain ⟨S4_, hS4_⟩ : ∃ z, z = c_X2_readDigit_h (upd (upd (upd h 2 v1_) 5 1) 1 ((h 1) + 1)) t := ⟨_, rfl⟩
        rw [← hS4_]
        refine g_nm (fun v5_ hv5_ => ?_)
        refine g_put E (ci := 2) inlX2 0 rfl rfl 4 (by decide) tyX2 tyX2_ok nmX2 fl_X2_61 rfl rfl rfl rfl (ok_lt rfl) (ws' := PK d a (upd S4_ 3 v5_) t) rfl dX2_readOrder_70 ?_
        refine g_aload_n E 0 dX2_readOrder_73 rfl rfl ?_
        refine g_get E (ci := 2) inlX2 0 rfl rfl 4 (by decide) fl_X2_61 rfl (.int v5_) rfl dX2_readOrder_74 ?_
        refine g_iflt E 84 dX2_readOrder_77 (by decide) (fun c_77 => ?_) (fun c_77 => ?_)
        · skip
          refine g_iconst E 0 dX2_readOrder_84 (by decide) ?_
          subst hv5_
          subst hS4_
          subst hv1_
          exact RET 85 _ 0 _ dX2_readOrder_85 rfl (by rw [r_X2_readOrder, if_neg c_19, if_neg c_43, if_pos c_52, if_pos c_77]) (by rw [c_X2_readOrder_h, if_neg c_19, if_neg c_43, if_pos c_52])
        · skip
          refine g_iconst E 1 dX2_readOrder_80 (by decide) ?_
          refine g_goto E 85 dX2_readOrder_81 (by decide) ?_
          subst hv5_
          subst hS4_
          subst hv1_
          exact RET 85 _ 1 _ dX2_readOrder_85 rfl (by rw [r_X2_readOrder, if_neg c_19, if_neg c_43, if_pos c_52, if_neg c_77]) (by rw [c_X2_readOrder_h, if_neg c_19, if_neg c_43, if_pos c_52])
  · skip
    refine g_aload_n E 0 dX2_readOrder_22 rfl rfl ?_
    refine g_dup E dX2_readOrder_23 rfl ?_
    refine g_get E (ci := 2) inlX2 0 rfl rfl 2 (by decide) fl_X2_36 rfl (.int (h 1)) rfl dX2_readOrder_24 ?_
    refine g_iconst E 1 dX2_readOrder_27 (by decide) ?_
    refine g_iadd E dX2_readOrder_28 ?_
    refine g_put E (ci := 2) inlX2 0 rfl rfl 2 (by decide) tyX2 tyX2_ok nmX2 fl_X2_36 rfl rfl rfl rfl (ok_lt rfl) (ws' := PK d a (upd (upd (upd h 2 v1_) 5 1) 1 ((h 1) + 1)) t) rfl dX2_readOrder_29 ?_
    refine g_aload_n E 0 dX2_readOrder_32 rfl rfl ?_
    refine g_callVi0 E gc_X2_readSamples ml_X2_54 (t_X2_readSamples d a (upd (upd (upd h 2 v1_) 5 1) 1 ((h 1) + 1)) t (by assumption)) rfl rfl (ci := 2) 0 rfl rfl rfl rfl (ok_le rfl) ⟨ok_le rfl, ok_le rfl, ok_le rfl, ok_le rfl⟩ rfl rfl dX2_readOrder_33 ?_
    obtain ⟨S6_, hS6_⟩ : ∃ z, z = c_X2_readSamples_h (upd (upd (upd h 2 v1_) 5 1) 1 ((h 1) + 1)) t := ⟨_, rfl⟩
    rw [← hS6_]
    refine g_nm (fun v7_ hv7_ => ?_)
    subst hv7_
    subst hS6_
    subst hv1_
    exact RET 36 _ (r_X2_readSamples (upd (upd (upd h 2 (r_X2_next h t)) 5 1) 1 ((h 1) + 1)) t) _ dX2_readOrder_36 (nar_b (rs_bool _ _)) (by rw [r_X2_readOrder, if_pos c_19]) (by rw [c_X2_readOrder_h, if_pos c_19])
set_option maxHeartbeats 400000 in
set_option maxRecDepth 100000 in
theorem t_X2_readOrder (d : gD) (a : Nat → Nat) (h : Nat → Int32) (t : Nat → Int32) (hT : chT t) : gMi d yX2_readOrder cX2_readOrder 1 (some .boolean) R_X2_readOrder [.ref (a 0)] (PK d a h t) (fun r_ u_ => r_ = r_X2_readOrder h t ∧ u_ = PK d a (c_X2_readOrder_h h t) t) :=
  g_met_i RX2 rfl (by decide +kernel) (Nat.le_of_ble_eq_true rfl) [(0, .ref (a 0))] rfl (fun X E RET => s_X2_readOrder_0 d a h t hT E (fun pc_ lv_ v_ u_ h1_ h2_ h3_ h4_ => RET pc_ lv_ v_ u_ h1_ h2_ ⟨h3_, h4_⟩))
abbrev R_X2_firstFault : Room := { frames := 5, cells := 0, slots := 0, locals := 104 }
def r_X2_firstFault_at6 (h : Nat → Int32) (t : Nat → Int32) : Nat → (Nat) → (Nat → Int32) → Int32
  | 0, _, _ => 0
  | n + 1, k, h1 => if (nI k) < 80 then (if (r_X2_readOrder h1 t) = 0 then ((c_X2_readOrder_h h1 t) 1) else (if ((c_X2_readOrder_h h1 t) 1) = ((c_X2_readOrder_h h1 t) 0) then (-6) else (if (r_X2_skip 59 (c_X2_readOrder_h h1 t) t) = 0 then ((c_X2_skip_h 59 (c_X2_readOrder_h h1 t) t) 1) else (r_X2_firstFault_at6 h t n (k + 1) (c_X2_skip_h 59 (c_X2_readOrder_h h1 t) t))))) else (h1 1)
def c_X2_firstFault_h_at6 (h : Nat → Int32) (t : Nat → Int32) : Nat → (Nat) → (Nat → Int32) → Nat → Int32
  | 0, _, h1 => h1
  | n + 1, k, h1 => if (nI k) < 80 then (if (r_X2_readOrder h1 t) = 0 then (c_X2_readOrder_h h1 t) else (if ((c_X2_readOrder_h h1 t) 1) = ((c_X2_readOrder_h h1 t) 0) then (c_X2_readOrder_h h1 t) else (if (r_X2_skip 59 (c_X2_readOrder_h h1 t) t) = 0 then (c_X2_skip_h 59 (c_X2_readOrder_h h1 t) t) else (c_X2_firstFault_h_at6 h t n (k + 1) (c_X2_skip_h 59 (c_X2_readOrder_h h1 t) t))))) else h1
def r_X2_firstFault (h : Nat → Int32) (t : Nat → Int32) : Int32 := r_X2_firstFault_at6 h t 81 0 (c_X2_goToStart_h h t)
def c_X2_firstFault_h (h : Nat → Int32) (t : Nat → Int32) : Nat → Int32 := c_X2_firstFault_h_at6 h t 81 0 (c_X2_goToStart_h h t)
set_option maxHeartbeats 400000 in
set_option maxRecDepth 100000 in
theorem s_X2_firstFault_6 (d : gD) (a : Nat → Nat) (h : Nat → Int32) (t : Nat → Int32) (hT : chT t) {X : gX} (E : gE d X RX2 cX2_firstFault 2 R_X2_firstFault) : ∀ (n : Nat) (k : Nat) (h1 : Nat → Int32) (hk : k ≤ 80) (hm : 80 - k < n) (RET : ∀ (pc_ : Nat) (lv_ : List (Nat × Value)) (v_ : Int32) (u_ : va_W), decode cX2_firstFault pc_ = .ok (.ireturn, 1) → narrow .int (.int v_) = .int v_ → v_ = r_X2_firstFault_at6 h t n k h1 → u_ = PK d a (c_X2_firstFault_h_at6 h t n k h1) t → G d X u_ R_X2_firstFault.cells R_X2_firstFault.slots pc_ lv_ [.int v_]), G d X (PK d a h1 t) 0 0 6 [(0, .ref (a 0)), (1, .int (nI k))] [] := by
  intro n
  induction n with
  | zero => intro k h1 hk hm; omega
  | succ n ih =>
    intro k h1 hk hm RET
    refine g_iload_n E 1 dX2_firstFault_6 rfl rfl ?_
    refine g_bipush E 80 dX2_firstFault_7 (by decide) ?_
    refine g_icmpge E 58 dX2_firstFault_9 (by decide) (fun c_9 => ?_) (fun c_9 => ?_)
    · skip
      refine g_aload_n E 0 dX2_firstFault_58 rfl rfl ?_
      refine g_get E (ci := 2) inlX2 0 rfl rfl 2 (by decide) fl_X2_36 rfl (.int (h1 1)) rfl dX2_firstFault_59 ?_
      exact RET 62 _ (h1 1) _ dX2_firstFault_62 rfl (by rw [r_X2_firstFault_at6, if_neg c_9]) (by rw [c_X2_firstFault_h_at6, if_neg c_9])
    · skip
      have k9 : k < 80 := (nI_ltI (a := k) (b := 80) (by omega) (by omega)).mp c_9
      refine g_aload_n E 0 dX2_firstFault_12 rfl rfl ?_
      refine g_callVi0 E gc_X2_readOrder ml_X2_32 (t_X2_readOrder d a h1 t (by assumption)) rfl rfl (ci := 2) 0 rfl rfl rfl rfl (ok_le rfl) ⟨ok_le rfl, ok_le rfl, ok_le rfl, ok_le rfl⟩ rfl rfl dX2_firstFault_13 ?_
      obtain ⟨S2_, hS2_⟩ : ∃ z, z = c_X2_readOrder_h h1 t := ⟨_, rfl⟩
      rw [← hS2_]
      refine g_nm (fun v3_ hv3_ => ?_)
      refine g_ifne E 24 dX2_firstFault_16 (by decide) (fun c_16 => ?_) (fun c_16 => ?_)
      · skip
        refine g_aload_n E 0 dX2_firstFault_24 rfl rfl ?_
        refine g_get E (ci := 2) inlX2 0 rfl rfl 2 (by decide) fl_X2_36 rfl (.int (S2_ 1)) rfl dX2_firstFault_25 ?_
        refine g_aload_n E 0 dX2_firstFault_28 rfl rfl ?_
        refine g_get E (ci := 2) inlX2 0 rfl rfl 1 (by decide) fl_X2_19 rfl (.int (S2_ 0)) rfl dX2_firstFault_29 ?_
        refine g_icmpne E 38 dX2_firstFault_32 (by decide) (fun c_32 => ?_) (fun c_32 => ?_)
        · skip
          refine g_aload_n E 0 dX2_firstFault_38 rfl rfl ?_
          refine g_bipush E 59 dX2_firstFault_39 (by decide) ?_
          refine g_callVi0 E gc_X2_skip ml_X2_39 (t_X2_skip d a 59 S2_ t (by assumption)) rfl rfl (ci := 2) 0 rfl rfl rfl rfl (ok_le rfl) ⟨ok_le rfl, ok_le rfl, ok_le rfl, ok_le rfl⟩ rfl rfl dX2_firstFault_41 ?_
          obtain ⟨S4_, hS4_⟩ : ∃ z, z = c_X2_skip_h 59 S2_ t := ⟨_, rfl⟩
          rw [← hS4_]
          refine g_nm (fun v5_ hv5_ => ?_)
          refine g_ifne E 52 dX2_firstFault_44 (by decide) (fun c_44 => ?_) (fun c_44 => ?_)
          · skip
            refine g_iinc E (j := 1) (v := (nI (k + 1))) (lv' := [(1, .int (nI (k + 1))), (0, .ref (a 0))]) dX2_firstFault_52 rfl (nI_1 _) (by decide) rfl ?_
            refine g_goto E 6 dX2_firstFault_55 (by decide) ?_
            refine g_lvs (lv' := [(0, .ref (a 0)), (1, .int (nI (k + 1)))]) [1, 0] rfl ?_
            subst hv5_
            subst hS4_
            subst hv3_
            subst hS2_
            exact ih (k + 1) (c_X2_skip_h 59 (c_X2_readOrder_h h1 t) t) (by omega) (by omega) (fun pc_ lv_ v_ u_ h1_ h2_ h3_ h4_ => RET pc_ lv_ v_ u_ h1_ h2_ (h3_.trans (by rw [r_X2_firstFault_at6, if_pos c_9, if_neg c_16, if_neg c_32, if_neg c_44])) (h4_.trans (by rw [c_X2_firstFault_h_at6, if_pos c_9, if_neg c_16, if_neg c_32, if_neg c_44])))
          · skip
            refine g_aload_n E 0 dX2_firstFault_47 rfl rfl ?_
            refine g_get E (ci := 2) inlX2 0 rfl rfl 2 (by decide) fl_X2_36 rfl (.int (S4_ 1)) rfl dX2_firstFault_48 ?_
            subst hv5_
            subst hS4_
            subst hv3_
            subst hS2_
            exact RET 51 _ ((c_X2_skip_h 59 (c_X2_readOrder_h h1 t) t) 1) _ dX2_firstFault_51 rfl (by rw [r_X2_firstFault_at6, if_pos c_9, if_neg c_16, if_neg c_32, if_pos c_44]) (by rw [c_X2_firstFault_h_at6, if_pos c_9, if_neg c_16, if_neg c_32, if_pos c_44])
        · skip
          refine g_bipush E (-6) dX2_firstFault_35 (by decide) ?_
          subst hv3_
          subst hS2_
          exact RET 37 _ (-6) _ dX2_firstFault_37 rfl (by rw [r_X2_firstFault_at6, if_pos c_9, if_neg c_16, if_pos c_32]) (by rw [c_X2_firstFault_h_at6, if_pos c_9, if_neg c_16, if_pos c_32])
      · skip
        refine g_aload_n E 0 dX2_firstFault_19 rfl rfl ?_
        refine g_get E (ci := 2) inlX2 0 rfl rfl 2 (by decide) fl_X2_36 rfl (.int (S2_ 1)) rfl dX2_firstFault_20 ?_
        subst hv3_
        subst hS2_
        exact RET 23 _ ((c_X2_readOrder_h h1 t) 1) _ dX2_firstFault_23 rfl (by rw [r_X2_firstFault_at6, if_pos c_9, if_pos c_16]) (by rw [c_X2_firstFault_h_at6, if_pos c_9, if_pos c_16])
set_option maxHeartbeats 400000 in
set_option maxRecDepth 100000 in
theorem s_X2_firstFault_0 (d : gD) (a : Nat → Nat) (h : Nat → Int32) (t : Nat → Int32) (hT : chT t)  {X : gX} (E : gE d X RX2 cX2_firstFault 2 R_X2_firstFault) (RET : ∀ (pc_ : Nat) (lv_ : List (Nat × Value)) (v_ : Int32) (u_ : va_W), decode cX2_firstFault pc_ = .ok (.ireturn, 1) → narrow .int (.int v_) = .int v_ → v_ = r_X2_firstFault h t → u_ = PK d a (c_X2_firstFault_h h t) t → G d X u_ R_X2_firstFault.cells R_X2_firstFault.slots pc_ lv_ [.int v_]) : G d X (PK d a h t) 0 0 0 [(0, .ref (a 0))] [] := by
  refine g_aload_n E 0 dX2_firstFault_0 rfl rfl ?_
  refine g_callVv0 E gc_X2_goToStart ml_X2_29 (t_X2_goToStart d a h t ) rfl rfl (ci := 2) 0 rfl rfl rfl rfl (ok_le rfl) ⟨ok_le rfl, ok_le rfl, ok_le rfl, ok_le rfl⟩ rfl rfl dX2_firstFault_1 ?_
  obtain ⟨S1_, hS1_⟩ : ∃ z, z = c_X2_goToStart_h h t := ⟨_, rfl⟩
  rw [← hS1_]
  refine g_iconst E 0 dX2_firstFault_4 (by decide) ?_
  refine g_istore_n E (lv' := [(1, .int 0), (0, .ref (a 0))]) dX2_firstFault_5 rfl (by decide) rfl ?_
  refine g_lvs (lv' := [(0, .ref (a 0)), (1, .int 0)]) [1, 0] rfl ?_
  subst hS1_
  exact s_X2_firstFault_6 d a h t hT E 81 0 (c_X2_goToStart_h h t) (by omega) (by omega) (fun pc_ lv_ v_ u_ h1_ h2_ h3_ h4_ => RET pc_ lv_ v_ u_ h1_ h2_ (h3_.trans (by rw [r_X2_firstFault])) (h4_.trans (by rw [c_X2_firstFault_h])))
set_option maxHeartbeats 400000 in
set_option maxRecDepth 100000 in
theorem t_X2_firstFault (d : gD) (a : Nat → Nat) (h : Nat → Int32) (t : Nat → Int32) (hT : chT t) : gMi d yX2_firstFault cX2_firstFault 2 (some .int) R_X2_firstFault [.ref (a 0)] (PK d a h t) (fun r_ u_ => r_ = r_X2_firstFault h t ∧ u_ = PK d a (c_X2_firstFault_h h t) t) :=
  g_met_i RX2 rfl (by decide +kernel) (Nat.le_of_ble_eq_true rfl) [(0, .ref (a 0))] rfl (fun X E RET => s_X2_firstFault_0 d a h t hT E (fun pc_ lv_ v_ u_ h1_ h2_ h3_ h4_ => RET pc_ lv_ v_ u_ h1_ h2_ ⟨h3_, h4_⟩))
theorem chars_at (w : Int64) : ∀ (n k : Nat) (z : Int64), k ≤ 8 → 0 ≤ (r_X2_charactersIn_at4 w n k z).toInt ∧ (r_X2_charactersIn_at4 w n k z).toInt ≤ 8 := by
  intro n
  induction n with
  | zero => intro k z hk; rw [r_X2_charactersIn_at4]; decide
  | succ n ih =>
    intro k z hk
    have hkI : (nI k).toInt = k := nI_toInt (by omega)
    rw [r_X2_charactersIn_at4]
    split
    · omega
    · split
      · next h => 
        have : k < 8 := (nI_ltI (a := k) (b := 8) (by omega) (by omega)).mp h
        repeat' split
        all_goals first | exact ih _ _ (by omega) | decide
      · omega
theorem chars_le (w : Int64) : 0 ≤ (r_X2_charactersIn w).toInt ∧ (r_X2_charactersIn w).toInt ≤ 8 := chars_at w _ _ _ (by omega)
theorem i_dec {b : Int32} (h : ¬ b < 0) : 0 ≤ b.toInt ∧ (b + (-1)).toInt = b.toInt - 1 := by
  have h0 : ¬ b.toInt < 0 := fun q => h (ti_lt.mpr q)
  have hr := ti_rng b
  have h1 : ((-1 : Int32)).toInt = -1 := rfl
  exact ⟨by omega, by rw [ti_add (by omega) (by omega)]; omega⟩
theorem i_many {r : Int32} (h : 0 ≤ r.toInt ∧ r.toInt ≤ 8) : (r - 1).toInt = r.toInt - 1 := by
  have h1 : (1 : Int32).toInt = 1 := rfl
  rw [ti_sub (by omega) (by omega)]
  omega
theorem i_suc {b : Int32} (h : ¬ b < 0) (h2 : b < 80) : ¬ b + 1 < 0 := by grind
abbrev R_X2_append : Room := { frames := 1, cells := 0, slots := 0, locals := 26 }
def r_X2_append_at31 (w : Int64) (h : Nat → Int32) (t : Nat → Int32) : Nat → (Int32) → (Nat → Int32) → (Nat → Int32) → Int32
  | 0, _, _, _ => 0
  | n + 1, b, h1, t1 => if b < 0 then (h1 0) else (if (h1 0) < 80 then (r_X2_append_at31 w h t n (b + (-1)) (upd h1 0 ((h1 0) + 1)) (upd t1 ((h1 0).toNatClampNeg) (vp_nar .char ((((((w.toUInt64 >>> ((8 * b).toInt64.toUInt64 &&& Int64.toUInt64 63)).toInt64) &&& 255).toInt32).toUInt32 % 65536).toInt32)))) else (h1 0))
def c_X2_append_h_at31 (w : Int64) (h : Nat → Int32) (t : Nat → Int32) : Nat → (Int32) → (Nat → Int32) → (Nat → Int32) → Nat → Int32
  | 0, _, h1, _ => h1
  | n + 1, b, h1, t1 => if b < 0 then h1 else (if (h1 0) < 80 then (c_X2_append_h_at31 w h t n (b + (-1)) (upd h1 0 ((h1 0) + 1)) (upd t1 ((h1 0).toNatClampNeg) (vp_nar .char ((((((w.toUInt64 >>> ((8 * b).toInt64.toUInt64 &&& Int64.toUInt64 63)).toInt64) &&& 255).toInt32).toUInt32 % 65536).toInt32)))) else h1)
def c_X2_append_t_at31 (w : Int64) (h : Nat → Int32) (t : Nat → Int32) : Nat → (Int32) → (Nat → Int32) → (Nat → Int32) → Nat → Int32
  | 0, _, _, t1 => t1
  | n + 1, b, h1, t1 => if b < 0 then t1 else (if (h1 0) < 80 then (c_X2_append_t_at31 w h t n (b + (-1)) (upd h1 0 ((h1 0) + 1)) (upd t1 ((h1 0).toNatClampNeg) (vp_nar .char ((((((w.toUInt64 >>> ((8 * b).toInt64.toUInt64 &&& Int64.toUInt64 63)).toInt64) &&& 255).toInt32).toUInt32 % 65536).toInt32)))) else t1)
def r_X2_append (w : Int64) (h : Nat → Int32) (t : Nat → Int32) : Int32 := if (r_X2_charactersIn w) = 0 then (-2) else (if 80 < ((h 0) + (r_X2_charactersIn w)) then (-4) else (r_X2_append_at31 w h t 10 ((r_X2_charactersIn w) - 1) h t))
def c_X2_append_h (w : Int64) (h : Nat → Int32) (t : Nat → Int32) : Nat → Int32 := if (r_X2_charactersIn w) = 0 then h else (if 80 < ((h 0) + (r_X2_charactersIn w)) then h else (c_X2_append_h_at31 w h t 10 ((r_X2_charactersIn w) - 1) h t))
def c_X2_append_t (w : Int64) (h : Nat → Int32) (t : Nat → Int32) : Nat → Int32 := if (r_X2_charactersIn w) = 0 then t else (if 80 < ((h 0) + (r_X2_charactersIn w)) then t else (c_X2_append_t_at31 w h t 10 ((r_X2_charactersIn w) - 1) h t))
set_option maxHeartbeats 400000 in
set_option maxRecDepth 100000 in
theorem s_X2_append_31 (d : gD) (a : Nat → Nat) (w : Int64) (h : Nat → Int32) (t : Nat → Int32) (hl : ¬ h 0 < 0) {X : gX} (E : gE d X RX2 cX2_append 5 R_X2_append) : ∀ (n : Nat) (b : Int32) (h1 : Nat → Int32) (t1 : Nat → Int32) (hb : -1 ≤ b.toInt) (hl1 : ¬ h1 0 < 0) (hm : (b.toInt + 1).toNat < n) (RET : ∀ (pc_ : Nat) (lv_ : List (Nat × Value)) (v_ : Int32) (u_ : va_W), decode cX2_append pc_ = .ok (.ireturn, 1) → narrow .int (.int v_) = .int v_ → v_ = r_X2_append_at31 w h t n b h1 t1 → u_ = PK d a (c_X2_append_h_at31 w h t n b h1 t1) (c_X2_append_t_at31 w h t n b h1 t1) → G d X u_ R_X2_append.cells R_X2_append.slots pc_ lv_ [.int v_]), G d X (PK d a h1 t1) 0 0 31 [(0, .ref (a 0)), (1, .long w), (4, .int b)] [] := by
  intro n
  induction n with
  | zero => intro b h1 t1 hb hl1 hm; omega
  | succ n ih =>
    intro b h1 t1 hb hl1 hm RET
    refine g_iload E 2 dX2_append_31 rfl ?_
    refine g_iflt E 86 dX2_append_33 (by decide) (fun c_33 => ?_) (fun c_33 => ?_)
    · skip
      refine g_aload_n E 0 dX2_append_86 rfl rfl ?_
      refine g_get E (ci := 2) inlX2 0 rfl rfl 1 (by decide) fl_X2_19 rfl (.int (h1 0)) rfl dX2_append_87 ?_
      exact RET 90 _ (h1 0) _ dX2_append_90 rfl (by rw [r_X2_append_at31, if_pos c_33]) (by rw [c_X2_append_h_at31, if_pos c_33, c_X2_append_t_at31, if_pos c_33])
    · skip
      refine g_aload_n E 0 dX2_append_36 rfl rfl ?_
      refine g_get E (ci := 2) inlX2 0 rfl rfl 1 (by decide) fl_X2_19 rfl (.int (h1 0)) rfl dX2_append_37 ?_
      refine g_aload_n E 0 dX2_append_40 rfl rfl ?_
      refine g_get E (ci := 2) inlX2 0 rfl rfl 0 (by decide) fl_X2_9 rfl (.ref (a 1)) rfl dX2_append_41 ?_
      refine g_alen E 1 1 rfl rfl 80 rfl dX2_append_44 ?_
      refine g_icmpge E 86 dX2_append_45 (by decide) (fun c_45 => ?_) (fun c_45 => ?_)
      · skip
        refine g_aload_n E 0 dX2_append_86 rfl rfl ?_
        refine g_get E (ci := 2) inlX2 0 rfl rfl 1 (by decide) fl_X2_19 rfl (.int (h1 0)) rfl dX2_append_87 ?_
        exact RET 90 _ (h1 0) _ dX2_append_90 rfl (by rw [r_X2_append_at31, if_neg c_33, if_neg c_45]) (by rw [c_X2_append_h_at31, if_neg c_33, if_neg c_45, c_X2_append_t_at31, if_neg c_33, if_neg c_45])
      · skip
        refine g_aload_n E 0 dX2_append_48 rfl rfl ?_
        refine g_get E (ci := 2) inlX2 0 rfl rfl 0 (by decide) fl_X2_9 rfl (.ref (a 1)) rfl dX2_append_49 ?_
        refine g_aload_n E 0 dX2_append_52 rfl rfl ?_
        refine g_get E (ci := 2) inlX2 0 rfl rfl 1 (by decide) fl_X2_19 rfl (.int (h1 0)) rfl dX2_append_53 ?_
        refine g_lload_n E 1 dX2_append_56 rfl rfl ?_
        refine g_bipush E 8 dX2_append_57 (by decide) ?_
        refine g_iload E 2 dX2_append_59 rfl ?_
        refine g_imul E dX2_append_61 ?_
        refine g_lushr E dX2_append_62 ?_
        refine g_ldc2 E kl_X2_23 dX2_append_63 ?_
        refine g_land E dX2_append_66 ?_
        refine g_l2i E dX2_append_67 ?_
        refine g_i2c E dX2_append_68 ?_
        refine g_cast E 1 rfl rfl ((h1 0).toNatClampNeg) (ix_eq hl1) (ix_lt (N := 80) hl1 c_45) (by decide) (ws' := PK d a h1 (upd t1 ((h1 0).toNatClampNeg) (vp_nar .char ((((((w.toUInt64 >>> ((8 * b).toInt64.toUInt64 &&& Int64.toUInt64 63)).toInt64) &&& 255).toInt32).toUInt32 % 65536).toInt32)))) rfl dX2_append_69 ?_
        refine g_aload_n E 0 dX2_append_70 rfl rfl ?_
        refine g_dup E dX2_append_71 rfl ?_
        refine g_get E (ci := 2) inlX2 0 rfl rfl 1 (by decide) fl_X2_19 rfl (.int (h1 0)) rfl dX2_append_72 ?_
        refine g_iconst E 1 dX2_append_75 (by decide) ?_
        refine g_iadd E dX2_append_76 ?_
        refine g_put E (ci := 2) inlX2 0 rfl rfl 1 (by decide) tyX2 tyX2_ok nmX2 fl_X2_19 rfl rfl rfl rfl (ok_lt rfl) (ws' := PK d a (upd h1 0 ((h1 0) + 1)) (upd t1 ((h1 0).toNatClampNeg) (vp_nar .char ((((((w.toUInt64 >>> ((8 * b).toInt64.toUInt64 &&& Int64.toUInt64 63)).toInt64) &&& 255).toInt32).toUInt32 % 65536).toInt32)))) rfl dX2_append_77 ?_
        refine g_iinc E (j := 2) (v := (b + (-1))) (lv' := [(4, .int (b + (-1))), (0, .ref (a 0)), (1, .long w)]) dX2_append_80 rfl rfl (by decide) rfl ?_
        refine g_goto E 31 dX2_append_83 (by decide) ?_
        refine g_lvs (lv' := [(0, .ref (a 0)), (1, .long w), (4, .int (b + (-1)))]) [1, 2, 0] rfl ?_
        exact ih (b + (-1)) (upd h1 0 ((h1 0) + 1)) (upd t1 ((h1 0).toNatClampNeg) (vp_nar .char ((((((w.toUInt64 >>> ((8 * b).toInt64.toUInt64 &&& Int64.toUInt64 63)).toInt64) &&& 255).toInt32).toUInt32 % 65536).toInt32))) (by have := i_dec c_33; omega) (i_suc hl1 c_45) (by have := i_dec c_33; omega) (fun pc_ lv_ v_ u_ h1_ h2_ h3_ h4_ => RET pc_ lv_ v_ u_ h1_ h2_ (h3_.trans (by rw [r_X2_append_at31, if_neg c_33, if_pos c_45])) (h4_.trans (by rw [c_X2_append_h_at31, if_neg c_33, if_pos c_45, c_X2_append_t_at31, if_neg c_33, if_pos c_45])))
set_option maxHeartbeats 400000 in
set_option maxRecDepth 100000 in
theorem s_X2_append_0 (d : gD) (a : Nat → Nat) (w : Int64) (h : Nat → Int32) (t : Nat → Int32) (hl : ¬ h 0 < 0)  {X : gX} (E : gE d X RX2 cX2_append 5 R_X2_append) (RET : ∀ (pc_ : Nat) (lv_ : List (Nat × Value)) (v_ : Int32) (u_ : va_W), decode cX2_append pc_ = .ok (.ireturn, 1) → narrow .int (.int v_) = .int v_ → v_ = r_X2_append w h t → u_ = PK d a (c_X2_append_h w h t) (c_X2_append_t w h t) → G d X u_ R_X2_append.cells R_X2_append.slots pc_ lv_ [.int v_]) : G d X (PK d a h t) 0 0 0 [(0, .ref (a 0)), (1, .long w)] [] := by
  refine g_lload_n E 1 dX2_append_0 rfl rfl ?_
  refine g_callSp E gc_X2_charactersIn ml_X2_15 (t_X2_charactersIn d w ) rfl rfl rfl (ok_le rfl) ⟨ok_le rfl, ok_le rfl, ok_le rfl, ok_le rfl⟩ rfl rfl dX2_append_1 ?_
  refine g_nm (fun v1_ hv1_ => ?_)
  refine g_istore_n E (lv' := [(3, .int v1_), (0, .ref (a 0)), (1, .long w)]) dX2_append_4 rfl (by decide) rfl ?_
  refine g_iload_n E 0 dX2_append_5 rfl rfl ?_
  refine g_ifne E 12 dX2_append_6 (by decide) (fun c_6 => ?_) (fun c_6 => ?_)
  · skip
    refine g_aload_n E 1 dX2_append_12 rfl rfl ?_
    refine g_get E (ci := 2) inlX2 0 rfl rfl 1 (by decide) fl_X2_19 rfl (.int (h 0)) rfl dX2_append_13 ?_
    refine g_iload_n E 0 dX2_append_16 rfl rfl ?_
    refine g_iadd E dX2_append_17 ?_
    refine g_bipush E 80 dX2_append_18 (by decide) ?_
    refine g_icmple E 26 dX2_append_20 (by decide) (fun c_20 => ?_) (fun c_20 => ?_)
    · skip
      refine g_iload_n E 0 dX2_append_26 rfl rfl ?_
      refine g_iconst E 1 dX2_append_27 (by decide) ?_
      refine g_isub E dX2_append_28 ?_
      refine g_istore E (lv' := [(4, .int (v1_ - 1)), (3, .int v1_), (0, .ref (a 0)), (1, .long w)]) dX2_append_29 (by decide) rfl ?_
      refine g_lvs (lv' := [(0, .ref (a 0)), (1, .long w), (4, .int (v1_ - 1))]) [2, 3, 0] rfl ?_
      subst hv1_
      exact s_X2_append_31 d a w h t hl E 10 ((r_X2_charactersIn w) - 1) h t (by have := chars_le w; rw [i_many this]; omega) hl (by have := chars_le w; rw [i_many this]; omega) (fun pc_ lv_ v_ u_ h1_ h2_ h3_ h4_ => RET pc_ lv_ v_ u_ h1_ h2_ (h3_.trans (by rw [r_X2_append, if_neg c_6, if_neg c_20])) (h4_.trans (by rw [c_X2_append_h, if_neg c_6, if_neg c_20, c_X2_append_t, if_neg c_6, if_neg c_20])))
    · skip
      refine g_bipush E (-4) dX2_append_23 (by decide) ?_
      subst hv1_
      exact RET 25 _ (-4) _ dX2_append_25 rfl (by rw [r_X2_append, if_neg c_6, if_pos c_20]) (by rw [c_X2_append_h, if_neg c_6, if_pos c_20, c_X2_append_t, if_neg c_6, if_pos c_20])
  · skip
    refine g_bipush E (-2) dX2_append_9 (by decide) ?_
    subst hv1_
    exact RET 11 _ (-2) _ dX2_append_11 rfl (by rw [r_X2_append, if_pos c_6]) (by rw [c_X2_append_h, if_pos c_6, c_X2_append_t, if_pos c_6])
set_option maxHeartbeats 400000 in
set_option maxRecDepth 100000 in
theorem t_X2_append (d : gD) (a : Nat → Nat) (w : Int64) (h : Nat → Int32) (t : Nat → Int32) (hl : ¬ h 0 < 0) : gMi d yX2_append cX2_append 5 (some .int) R_X2_append [.ref (a 0), .long w] (PK d a h t) (fun r_ u_ => r_ = r_X2_append w h t ∧ u_ = PK d a (c_X2_append_h w h t) (c_X2_append_t w h t)) :=
  g_met_i RX2 rfl (by decide +kernel) (Nat.le_of_ble_eq_true rfl) [(0, .ref (a 0)), (1, .long w)] rfl (fun X E RET => s_X2_append_0 d a w h t hl E (fun pc_ lv_ v_ u_ h1_ h2_ h3_ h4_ => RET pc_ lv_ v_ u_ h1_ h2_ ⟨h3_, h4_⟩))
end
section
theorem my_last : True := trivial
end
