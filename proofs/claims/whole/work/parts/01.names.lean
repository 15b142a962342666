-- ===== PART A: goes FIRST, ahead of the names: the tables' words, and 'selects' of the private methods out of them =====
/-- a private method of a class that the tables say can be made, by its rows of tables_1 -/
def lw_okq (q : MethodName × Nat) : Prop := (q.1.cls ≠ "java/lang/invoke/MethodHandle" ∧ q.1.cls ≠ "java/lang/invoke/VarHandle") ∧ Cond.instantiable q.1.cls q.2 ∈ tables_1 ∧ Cond.privateMethod q.1 ∈ tables_1 ∧ Cond.instanceMethod q.1 ∈ tables_1
theorem lw_p0 : lw_okq (⟨"KnifeTrade", "mayPut", "(II)Z"⟩, 8) := ⟨⟨by decide +kernel, by decide +kernel⟩, List.mem_of_getElem? (i := 19) (by decide +kernel), List.mem_of_getElem? (i := 313) (by decide +kernel), List.mem_of_getElem? (i := 314) (by decide +kernel)⟩
theorem lw_p1 : lw_okq (⟨"KnifeTrade$Steps", "behind", "(LKnifeTrade$Text;III)I"⟩, 4) := ⟨⟨by decide +kernel, by decide +kernel⟩, List.mem_of_getElem? (i := 107) (by decide +kernel), List.mem_of_getElem? (i := 380) (by decide +kernel), List.mem_of_getElem? (i := 381) (by decide +kernel)⟩
theorem lw_p2 : lw_okq (⟨"KnifeTrade$Steps", "behindWord", "(LKnifeTrade$Text;II)I"⟩, 4) := ⟨⟨by decide +kernel, by decide +kernel⟩, List.mem_of_getElem? (i := 107) (by decide +kernel), List.mem_of_getElem? (i := 384) (by decide +kernel), List.mem_of_getElem? (i := 385) (by decide +kernel)⟩
theorem lw_p3 : lw_okq (⟨"KnifeTrade", "sail", "(I)Z"⟩, 8) := ⟨⟨by decide +kernel, by decide +kernel⟩, List.mem_of_getElem? (i := 19) (by decide +kernel), List.mem_of_getElem? (i := 454) (by decide +kernel), List.mem_of_getElem? (i := 455) (by decide +kernel)⟩
theorem lw_p4 : lw_okq (⟨"KnifeTrade", "isVoyage", "(I)Z"⟩, 8) := ⟨⟨by decide +kernel, by decide +kernel⟩, List.mem_of_getElem? (i := 19) (by decide +kernel), List.mem_of_getElem? (i := 458) (by decide +kernel), List.mem_of_getElem? (i := 459) (by decide +kernel)⟩
theorem lw_p5 : lw_okq (⟨"KnifeTrade$Voyage", "step", "(III)V"⟩, 10) := ⟨⟨by decide +kernel, by decide +kernel⟩, List.mem_of_getElem? (i := 131) (by decide +kernel), List.mem_of_getElem? (i := 476) (by decide +kernel), List.mem_of_getElem? (i := 477) (by decide +kernel)⟩
theorem lw_p6 : lw_okq (⟨"KnifeTrade$Voyage", "spoil", "()V"⟩, 10) := ⟨⟨by decide +kernel, by decide +kernel⟩, List.mem_of_getElem? (i := 131) (by decide +kernel), List.mem_of_getElem? (i := 491) (by decide +kernel), List.mem_of_getElem? (i := 492) (by decide +kernel)⟩
theorem lw_p7 : lw_okq (⟨"KnifeTrade$Voyage", "eat", "()V"⟩, 10) := ⟨⟨by decide +kernel, by decide +kernel⟩, List.mem_of_getElem? (i := 131) (by decide +kernel), List.mem_of_getElem? (i := 495) (by decide +kernel), List.mem_of_getElem? (i := 496) (by decide +kernel)⟩
theorem lw_p8 : lw_okq (⟨"KnifeTrade$Voyage", "comeBack", "()V"⟩, 10) := ⟨⟨by decide +kernel, by decide +kernel⟩, List.mem_of_getElem? (i := 131) (by decide +kernel), List.mem_of_getElem? (i := 499) (by decide +kernel), List.mem_of_getElem? (i := 500) (by decide +kernel)⟩
theorem lw_p9 : lw_okq (⟨"KnifeTrade$Voyage", "arrive", "(I)V"⟩, 10) := ⟨⟨by decide +kernel, by decide +kernel⟩, List.mem_of_getElem? (i := 131) (by decide +kernel), List.mem_of_getElem? (i := 503) (by decide +kernel), List.mem_of_getElem? (i := 504) (by decide +kernel)⟩
theorem lw_p10 : lw_okq (⟨"KnifeTrade$Voyage", "weight", "()I"⟩, 10) := ⟨⟨by decide +kernel, by decide +kernel⟩, List.mem_of_getElem? (i := 131) (by decide +kernel), List.mem_of_getElem? (i := 507) (by decide +kernel), List.mem_of_getElem? (i := 508) (by decide +kernel)⟩
theorem lw_p11 : lw_okq (⟨"KnifeTrade$Voyage", "doTimes", "(II)V"⟩, 10) := ⟨⟨by decide +kernel, by decide +kernel⟩, List.mem_of_getElem? (i := 131) (by decide +kernel), List.mem_of_getElem? (i := 515) (by decide +kernel), List.mem_of_getElem? (i := 516) (by decide +kernel)⟩
theorem lw_p12 : lw_okq (⟨"KnifeTrade$Voyage", "doOnce", "(I)V"⟩, 10) := ⟨⟨by decide +kernel, by decide +kernel⟩, List.mem_of_getElem? (i := 131) (by decide +kernel), List.mem_of_getElem? (i := 523) (by decide +kernel), List.mem_of_getElem? (i := 524) (by decide +kernel)⟩
theorem lw_p13 : lw_okq (⟨"KnifeTrade", "ending", "(I)I"⟩, 8) := ⟨⟨by decide +kernel, by decide +kernel⟩, List.mem_of_getElem? (i := 19) (by decide +kernel), List.mem_of_getElem? (i := 531) (by decide +kernel), List.mem_of_getElem? (i := 532) (by decide +kernel)⟩
theorem lw_p14 : lw_okq (⟨"KnifeTrade$Rings", "weigh", "(IJJ)V"⟩, 8) := ⟨⟨by decide +kernel, by decide +kernel⟩, List.mem_of_getElem? (i := 209) (by decide +kernel), List.mem_of_getElem? (i := 558) (by decide +kernel), List.mem_of_getElem? (i := 559) (by decide +kernel)⟩
theorem lw_p15 : lw_okq (⟨"KnifeTrade$Rings", "wasThere", "(II)Z"⟩, 8) := ⟨⟨by decide +kernel, by decide +kernel⟩, List.mem_of_getElem? (i := 209) (by decide +kernel), List.mem_of_getElem? (i := 565) (by decide +kernel), List.mem_of_getElem? (i := 566) (by decide +kernel)⟩
def lw_privs_1 : List (MethodName × Nat) := [(⟨"KnifeTrade", "mayPut", "(II)Z"⟩, 8), (⟨"KnifeTrade$Steps", "behind", "(LKnifeTrade$Text;III)I"⟩, 4), (⟨"KnifeTrade$Steps", "behindWord", "(LKnifeTrade$Text;II)I"⟩, 4), (⟨"KnifeTrade", "sail", "(I)Z"⟩, 8), (⟨"KnifeTrade", "isVoyage", "(I)Z"⟩, 8), (⟨"KnifeTrade$Voyage", "step", "(III)V"⟩, 10), (⟨"KnifeTrade$Voyage", "spoil", "()V"⟩, 10), (⟨"KnifeTrade$Voyage", "eat", "()V"⟩, 10), (⟨"KnifeTrade$Voyage", "comeBack", "()V"⟩, 10), (⟨"KnifeTrade$Voyage", "arrive", "(I)V"⟩, 10), (⟨"KnifeTrade$Voyage", "weight", "()I"⟩, 10), (⟨"KnifeTrade$Voyage", "doTimes", "(II)V"⟩, 10), (⟨"KnifeTrade$Voyage", "doOnce", "(I)V"⟩, 10), (⟨"KnifeTrade", "ending", "(I)I"⟩, 8), (⟨"KnifeTrade$Rings", "weigh", "(IJJ)V"⟩, 8), (⟨"KnifeTrade$Rings", "wasThere", "(II)Z"⟩, 8)]
theorem lw_r1 : ∀ q ∈ lw_privs_1, lw_okq q := List.forall_mem_cons.mpr ⟨lw_p0, List.forall_mem_cons.mpr ⟨lw_p1, List.forall_mem_cons.mpr ⟨lw_p2, List.forall_mem_cons.mpr ⟨lw_p3, List.forall_mem_cons.mpr ⟨lw_p4, List.forall_mem_cons.mpr ⟨lw_p5, List.forall_mem_cons.mpr ⟨lw_p6, List.forall_mem_cons.mpr ⟨lw_p7, List.forall_mem_cons.mpr ⟨lw_p8, List.forall_mem_cons.mpr ⟨lw_p9, List.forall_mem_cons.mpr ⟨lw_p10, List.forall_mem_cons.mpr ⟨lw_p11, List.forall_mem_cons.mpr ⟨lw_p12, List.forall_mem_cons.mpr ⟨lw_p13, List.forall_mem_cons.mpr ⟨lw_p14, List.forall_mem_cons.mpr ⟨lw_p15, fun _ h => absurd h List.not_mem_nil⟩⟩⟩⟩⟩⟩⟩⟩⟩⟩⟩⟩⟩⟩⟩⟩
theorem lw_p16 : lw_okq (⟨"KnifeTrade$Rings", "raise", "([I)V"⟩, 8) := ⟨⟨by decide +kernel, by decide +kernel⟩, List.mem_of_getElem? (i := 209) (by decide +kernel), List.mem_of_getElem? (i := 594) (by decide +kernel), List.mem_of_getElem? (i := 595) (by decide +kernel)⟩
theorem lw_p17 : lw_okq (⟨"KnifeTrade", "canSeek", "()Z"⟩, 8) := ⟨⟨by decide +kernel, by decide +kernel⟩, List.mem_of_getElem? (i := 19) (by decide +kernel), List.mem_of_getElem? (i := 605) (by decide +kernel), List.mem_of_getElem? (i := 606) (by decide +kernel)⟩
theorem lw_p18 : lw_okq (⟨"KnifeTrade$Search", "weigh", "(I)V"⟩, 7) := ⟨⟨by decide +kernel, by decide +kernel⟩, List.mem_of_getElem? (i := 176) (by decide +kernel), List.mem_of_getElem? (i := 618) (by decide +kernel), List.mem_of_getElem? (i := 619) (by decide +kernel)⟩
theorem lw_p19 : lw_okq (⟨"KnifeTrade$Search", "mayHelp", "(II)Z"⟩, 7) := ⟨⟨by decide +kernel, by decide +kernel⟩, List.mem_of_getElem? (i := 176) (by decide +kernel), List.mem_of_getElem? (i := 623) (by decide +kernel), List.mem_of_getElem? (i := 624) (by decide +kernel)⟩
theorem lw_p20 : lw_okq (⟨"KnifeTrade$Voyage", "moreWeight", "(I)I"⟩, 10) := ⟨⟨by decide +kernel, by decide +kernel⟩, List.mem_of_getElem? (i := 131) (by decide +kernel), List.mem_of_getElem? (i := 640) (by decide +kernel), List.mem_of_getElem? (i := 641) (by decide +kernel)⟩
theorem lw_p21 : lw_okq (⟨"KnifeTrade", "homeWith", "(III)I"⟩, 8) := ⟨⟨by decide +kernel, by decide +kernel⟩, List.mem_of_getElem? (i := 19) (by decide +kernel), List.mem_of_getElem? (i := 651) (by decide +kernel), List.mem_of_getElem? (i := 652) (by decide +kernel)⟩
theorem lw_p22 : lw_okq (⟨"KnifeTrade", "bestNumber", "(IIII)I"⟩, 8) := ⟨⟨by decide +kernel, by decide +kernel⟩, List.mem_of_getElem? (i := 19) (by decide +kernel), List.mem_of_getElem? (i := 663) (by decide +kernel), List.mem_of_getElem? (i := 664) (by decide +kernel)⟩
theorem lw_p23 : lw_okq (⟨"KnifeTrade", "movedBehind", "([II)I"⟩, 8) := ⟨⟨by decide +kernel, by decide +kernel⟩, List.mem_of_getElem? (i := 19) (by decide +kernel), List.mem_of_getElem? (i := 679) (by decide +kernel), List.mem_of_getElem? (i := 680) (by decide +kernel)⟩
theorem lw_p24 : lw_okq (⟨"KnifeTradeModel", "landings", "()I"⟩, 34) := ⟨⟨by decide +kernel, by decide +kernel⟩, List.mem_of_getElem? (i := 743) (by decide +kernel), List.mem_of_getElem? (i := 856) (by decide +kernel), List.mem_of_getElem? (i := 857) (by decide +kernel)⟩
theorem lw_p25 : lw_okq (⟨"KnifeTradeModel", "things", "()I"⟩, 34) := ⟨⟨by decide +kernel, by decide +kernel⟩, List.mem_of_getElem? (i := 743) (by decide +kernel), List.mem_of_getElem? (i := 870) (by decide +kernel), List.mem_of_getElem? (i := 871) (by decide +kernel)⟩
theorem lw_p26 : lw_okq (⟨"KnifeTradeModel", "fitsNumber", "(II)Z"⟩, 34) := ⟨⟨by decide +kernel, by decide +kernel⟩, List.mem_of_getElem? (i := 743) (by decide +kernel), List.mem_of_getElem? (i := 878) (by decide +kernel), List.mem_of_getElem? (i := 879) (by decide +kernel)⟩
theorem lw_p27 : lw_okq (⟨"KnifeTradeModel", "isThing", "(I)Z"⟩, 34) := ⟨⟨by decide +kernel, by decide +kernel⟩, List.mem_of_getElem? (i := 743) (by decide +kernel), List.mem_of_getElem? (i := 884) (by decide +kernel), List.mem_of_getElem? (i := 885) (by decide +kernel)⟩
theorem lw_p28 : lw_okq (⟨"KnifeTradeModel", "isLanding", "(I)Z"⟩, 34) := ⟨⟨by decide +kernel, by decide +kernel⟩, List.mem_of_getElem? (i := 743) (by decide +kernel), List.mem_of_getElem? (i := 890) (by decide +kernel), List.mem_of_getElem? (i := 891) (by decide +kernel)⟩
theorem lw_p29 : lw_okq (⟨"KnifeTradeModel", "number", "(I)I"⟩, 34) := ⟨⟨by decide +kernel, by decide +kernel⟩, List.mem_of_getElem? (i := 743) (by decide +kernel), List.mem_of_getElem? (i := 894) (by decide +kernel), List.mem_of_getElem? (i := 895) (by decide +kernel)⟩
theorem lw_p30 : lw_okq (⟨"KnifeTradeModel", "changes", "()I"⟩, 34) := ⟨⟨by decide +kernel, by decide +kernel⟩, List.mem_of_getElem? (i := 743) (by decide +kernel), List.mem_of_getElem? (i := 902) (by decide +kernel), List.mem_of_getElem? (i := 903) (by decide +kernel)⟩
theorem lw_p31 : lw_okq (⟨"KnifeTradeModel", "isChange", "(I)Z"⟩, 34) := ⟨⟨by decide +kernel, by decide +kernel⟩, List.mem_of_getElem? (i := 743) (by decide +kernel), List.mem_of_getElem? (i := 910) (by decide +kernel), List.mem_of_getElem? (i := 911) (by decide +kernel)⟩
def lw_privs_2 : List (MethodName × Nat) := [(⟨"KnifeTrade$Rings", "raise", "([I)V"⟩, 8), (⟨"KnifeTrade", "canSeek", "()Z"⟩, 8), (⟨"KnifeTrade$Search", "weigh", "(I)V"⟩, 7), (⟨"KnifeTrade$Search", "mayHelp", "(II)Z"⟩, 7), (⟨"KnifeTrade$Voyage", "moreWeight", "(I)I"⟩, 10), (⟨"KnifeTrade", "homeWith", "(III)I"⟩, 8), (⟨"KnifeTrade", "bestNumber", "(IIII)I"⟩, 8), (⟨"KnifeTrade", "movedBehind", "([II)I"⟩, 8), (⟨"KnifeTradeModel", "landings", "()I"⟩, 34), (⟨"KnifeTradeModel", "things", "()I"⟩, 34), (⟨"KnifeTradeModel", "fitsNumber", "(II)Z"⟩, 34), (⟨"KnifeTradeModel", "isThing", "(I)Z"⟩, 34), (⟨"KnifeTradeModel", "isLanding", "(I)Z"⟩, 34), (⟨"KnifeTradeModel", "number", "(I)I"⟩, 34), (⟨"KnifeTradeModel", "changes", "()I"⟩, 34), (⟨"KnifeTradeModel", "isChange", "(I)Z"⟩, 34)]
theorem lw_r2 : ∀ q ∈ lw_privs_2, lw_okq q := List.forall_mem_cons.mpr ⟨lw_p16, List.forall_mem_cons.mpr ⟨lw_p17, List.forall_mem_cons.mpr ⟨lw_p18, List.forall_mem_cons.mpr ⟨lw_p19, List.forall_mem_cons.mpr ⟨lw_p20, List.forall_mem_cons.mpr ⟨lw_p21, List.forall_mem_cons.mpr ⟨lw_p22, List.forall_mem_cons.mpr ⟨lw_p23, List.forall_mem_cons.mpr ⟨lw_p24, List.forall_mem_cons.mpr ⟨lw_p25, List.forall_mem_cons.mpr ⟨lw_p26, List.forall_mem_cons.mpr ⟨lw_p27, List.forall_mem_cons.mpr ⟨lw_p28, List.forall_mem_cons.mpr ⟨lw_p29, List.forall_mem_cons.mpr ⟨lw_p30, List.forall_mem_cons.mpr ⟨lw_p31, fun _ h => absurd h List.not_mem_nil⟩⟩⟩⟩⟩⟩⟩⟩⟩⟩⟩⟩⟩⟩⟩⟩
theorem lw_p32 : lw_okq (⟨"KnifeTradeModel", "ofThing", "(II)I"⟩, 34) := ⟨⟨by decide +kernel, by decide +kernel⟩, List.mem_of_getElem? (i := 743) (by decide +kernel), List.mem_of_getElem? (i := 926) (by decide +kernel), List.mem_of_getElem? (i := 927) (by decide +kernel)⟩
theorem lw_p33 : lw_okq (⟨"KnifeTradeModel", "textLong", "(I)I"⟩, 34) := ⟨⟨by decide +kernel, by decide +kernel⟩, List.mem_of_getElem? (i := 743) (by decide +kernel), List.mem_of_getElem? (i := 938) (by decide +kernel), List.mem_of_getElem? (i := 939) (by decide +kernel)⟩
theorem lw_p34 : lw_okq (⟨"KnifeTradeModel", "faultOf", "(I)I"⟩, 34) := ⟨⟨by decide +kernel, by decide +kernel⟩, List.mem_of_getElem? (i := 743) (by decide +kernel), List.mem_of_getElem? (i := 951) (by decide +kernel), List.mem_of_getElem? (i := 952) (by decide +kernel)⟩
theorem lw_p35 : lw_okq (⟨"KnifeTradeModel", "look", "(II)V"⟩, 34) := ⟨⟨by decide +kernel, by decide +kernel⟩, List.mem_of_getElem? (i := 743) (by decide +kernel), List.mem_of_getElem? (i := 955) (by decide +kernel), List.mem_of_getElem? (i := 956) (by decide +kernel)⟩
theorem lw_p36 : lw_okq (⟨"KnifeTradeModel", "byteAt", "(II)I"⟩, 34) := ⟨⟨by decide +kernel, by decide +kernel⟩, List.mem_of_getElem? (i := 743) (by decide +kernel), List.mem_of_getElem? (i := 959) (by decide +kernel), List.mem_of_getElem? (i := 960) (by decide +kernel)⟩
theorem lw_p37 : lw_okq (⟨"KnifeTradeModel", "readStep", "(I)Z"⟩, 34) := ⟨⟨by decide +kernel, by decide +kernel⟩, List.mem_of_getElem? (i := 743) (by decide +kernel), List.mem_of_getElem? (i := 973) (by decide +kernel), List.mem_of_getElem? (i := 974) (by decide +kernel)⟩
theorem lw_p38 : lw_okq (⟨"KnifeTradeModel", "isWord", "(IIIII)Z"⟩, 34) := ⟨⟨by decide +kernel, by decide +kernel⟩, List.mem_of_getElem? (i := 743) (by decide +kernel), List.mem_of_getElem? (i := 977) (by decide +kernel), List.mem_of_getElem? (i := 978) (by decide +kernel)⟩
theorem lw_p39 : lw_okq (⟨"KnifeTradeModel", "next", "(I)V"⟩, 34) := ⟨⟨by decide +kernel, by decide +kernel⟩, List.mem_of_getElem? (i := 743) (by decide +kernel), List.mem_of_getElem? (i := 981) (by decide +kernel), List.mem_of_getElem? (i := 982) (by decide +kernel)⟩
theorem lw_p40 : lw_okq (⟨"KnifeTradeModel", "canGo", "(I)Z"⟩, 34) := ⟨⟨by decide +kernel, by decide +kernel⟩, List.mem_of_getElem? (i := 743) (by decide +kernel), List.mem_of_getElem? (i := 990) (by decide +kernel), List.mem_of_getElem? (i := 991) (by decide +kernel)⟩
theorem lw_p41 : lw_okq (⟨"KnifeTradeModel", "settle", "()V"⟩, 34) := ⟨⟨by decide +kernel, by decide +kernel⟩, List.mem_of_getElem? (i := 743) (by decide +kernel), List.mem_of_getElem? (i := 994) (by decide +kernel), List.mem_of_getElem? (i := 995) (by decide +kernel)⟩
theorem lw_p42 : lw_okq (⟨"KnifeTradeModel", "goBy", "(I)V"⟩, 34) := ⟨⟨by decide +kernel, by decide +kernel⟩, List.mem_of_getElem? (i := 743) (by decide +kernel), List.mem_of_getElem? (i := 998) (by decide +kernel), List.mem_of_getElem? (i := 999) (by decide +kernel)⟩
theorem lw_p43 : lw_okq (⟨"KnifeTradeModel", "begin", "()V"⟩, 34) := ⟨⟨by decide +kernel, by decide +kernel⟩, List.mem_of_getElem? (i := 743) (by decide +kernel), List.mem_of_getElem? (i := 1002) (by decide +kernel), List.mem_of_getElem? (i := 1003) (by decide +kernel)⟩
theorem lw_p44 : lw_okq (⟨"KnifeTradeModel", "go", "(Z)V"⟩, 34) := ⟨⟨by decide +kernel, by decide +kernel⟩, List.mem_of_getElem? (i := 743) (by decide +kernel), List.mem_of_getElem? (i := 1006) (by decide +kernel), List.mem_of_getElem? (i := 1007) (by decide +kernel)⟩
theorem lw_p45 : lw_okq (⟨"KnifeTradeModel", "ofLanding", "(II)I"⟩, 34) := ⟨⟨by decide +kernel, by decide +kernel⟩, List.mem_of_getElem? (i := 743) (by decide +kernel), List.mem_of_getElem? (i := 1010) (by decide +kernel), List.mem_of_getElem? (i := 1011) (by decide +kernel)⟩
theorem lw_p46 : lw_okq (⟨"KnifeTradeModel", "passAll", "(I)V"⟩, 34) := ⟨⟨by decide +kernel, by decide +kernel⟩, List.mem_of_getElem? (i := 743) (by decide +kernel), List.mem_of_getElem? (i := 1014) (by decide +kernel), List.mem_of_getElem? (i := 1015) (by decide +kernel)⟩
theorem lw_p47 : lw_okq (⟨"KnifeTradeModel", "pass", "()V"⟩, 34) := ⟨⟨by decide +kernel, by decide +kernel⟩, List.mem_of_getElem? (i := 743) (by decide +kernel), List.mem_of_getElem? (i := 1018) (by decide +kernel), List.mem_of_getElem? (i := 1019) (by decide +kernel)⟩
def lw_privs_3 : List (MethodName × Nat) := [(⟨"KnifeTradeModel", "ofThing", "(II)I"⟩, 34), (⟨"KnifeTradeModel", "textLong", "(I)I"⟩, 34), (⟨"KnifeTradeModel", "faultOf", "(I)I"⟩, 34), (⟨"KnifeTradeModel", "look", "(II)V"⟩, 34), (⟨"KnifeTradeModel", "byteAt", "(II)I"⟩, 34), (⟨"KnifeTradeModel", "readStep", "(I)Z"⟩, 34), (⟨"KnifeTradeModel", "isWord", "(IIIII)Z"⟩, 34), (⟨"KnifeTradeModel", "next", "(I)V"⟩, 34), (⟨"KnifeTradeModel", "canGo", "(I)Z"⟩, 34), (⟨"KnifeTradeModel", "settle", "()V"⟩, 34), (⟨"KnifeTradeModel", "goBy", "(I)V"⟩, 34), (⟨"KnifeTradeModel", "begin", "()V"⟩, 34), (⟨"KnifeTradeModel", "go", "(Z)V"⟩, 34), (⟨"KnifeTradeModel", "ofLanding", "(II)I"⟩, 34), (⟨"KnifeTradeModel", "passAll", "(I)V"⟩, 34), (⟨"KnifeTradeModel", "pass", "()V"⟩, 34)]
theorem lw_r3 : ∀ q ∈ lw_privs_3, lw_okq q := List.forall_mem_cons.mpr ⟨lw_p32, List.forall_mem_cons.mpr ⟨lw_p33, List.forall_mem_cons.mpr ⟨lw_p34, List.forall_mem_cons.mpr ⟨lw_p35, List.forall_mem_cons.mpr ⟨lw_p36, List.forall_mem_cons.mpr ⟨lw_p37, List.forall_mem_cons.mpr ⟨lw_p38, List.forall_mem_cons.mpr ⟨lw_p39, List.forall_mem_cons.mpr ⟨lw_p40, List.forall_mem_cons.mpr ⟨lw_p41, List.forall_mem_cons.mpr ⟨lw_p42, List.forall_mem_cons.mpr ⟨lw_p43, List.forall_mem_cons.mpr ⟨lw_p44, List.forall_mem_cons.mpr ⟨lw_p45, List.forall_mem_cons.mpr ⟨lw_p46, List.forall_mem_cons.mpr ⟨lw_p47, fun _ h => absurd h List.not_mem_nil⟩⟩⟩⟩⟩⟩⟩⟩⟩⟩⟩⟩⟩⟩⟩⟩
theorem lw_p48 : lw_okq (⟨"KnifeTradeModel", "goBack", "()V"⟩, 34) := ⟨⟨by decide +kernel, by decide +kernel⟩, List.mem_of_getElem? (i := 743) (by decide +kernel), List.mem_of_getElem? (i := 1022) (by decide +kernel), List.mem_of_getElem? (i := 1023) (by decide +kernel)⟩
theorem lw_p49 : lw_okq (⟨"KnifeTradeModel", "of", "(II)I"⟩, 34) := ⟨⟨by decide +kernel, by decide +kernel⟩, List.mem_of_getElem? (i := 743) (by decide +kernel), List.mem_of_getElem? (i := 1026) (by decide +kernel), List.mem_of_getElem? (i := 1027) (by decide +kernel)⟩
theorem lw_p50 : lw_okq (⟨"KnifeTradeModel", "arrive", "(I)V"⟩, 34) := ⟨⟨by decide +kernel, by decide +kernel⟩, List.mem_of_getElem? (i := 743) (by decide +kernel), List.mem_of_getElem? (i := 1030) (by decide +kernel), List.mem_of_getElem? (i := 1031) (by decide +kernel)⟩
theorem lw_p51 : lw_okq (⟨"KnifeTradeModel", "weight", "()I"⟩, 34) := ⟨⟨by decide +kernel, by decide +kernel⟩, List.mem_of_getElem? (i := 743) (by decide +kernel), List.mem_of_getElem? (i := 1034) (by decide +kernel), List.mem_of_getElem? (i := 1035) (by decide +kernel)⟩
theorem lw_p52 : lw_okq (⟨"KnifeTradeModel", "doMany", "(II)V"⟩, 34) := ⟨⟨by decide +kernel, by decide +kernel⟩, List.mem_of_getElem? (i := 743) (by decide +kernel), List.mem_of_getElem? (i := 1038) (by decide +kernel), List.mem_of_getElem? (i := 1039) (by decide +kernel)⟩
theorem lw_p53 : lw_okq (⟨"KnifeTradeModel", "canDo", "(I)Z"⟩, 34) := ⟨⟨by decide +kernel, by decide +kernel⟩, List.mem_of_getElem? (i := 743) (by decide +kernel), List.mem_of_getElem? (i := 1042) (by decide +kernel), List.mem_of_getElem? (i := 1043) (by decide +kernel)⟩
theorem lw_p54 : lw_okq (⟨"KnifeTradeModel", "doOnce", "(I)V"⟩, 34) := ⟨⟨by decide +kernel, by decide +kernel⟩, List.mem_of_getElem? (i := 743) (by decide +kernel), List.mem_of_getElem? (i := 1046) (by decide +kernel), List.mem_of_getElem? (i := 1047) (by decide +kernel)⟩
theorem lw_p55 : lw_okq (⟨"KnifeTradeModel", "tells", "(I)I"⟩, 34) := ⟨⟨by decide +kernel, by decide +kernel⟩, List.mem_of_getElem? (i := 743) (by decide +kernel), List.mem_of_getElem? (i := 1050) (by decide +kernel), List.mem_of_getElem? (i := 1051) (by decide +kernel)⟩
theorem lw_p56 : lw_okq (⟨"KnifeTradeModel", "findRing", "()V"⟩, 34) := ⟨⟨by decide +kernel, by decide +kernel⟩, List.mem_of_getElem? (i := 743) (by decide +kernel), List.mem_of_getElem? (i := 1066) (by decide +kernel), List.mem_of_getElem? (i := 1067) (by decide +kernel)⟩
theorem lw_p57 : lw_okq (⟨"KnifeTradeModel", "fitsRing", "(I)Z"⟩, 34) := ⟨⟨by decide +kernel, by decide +kernel⟩, List.mem_of_getElem? (i := 743) (by decide +kernel), List.mem_of_getElem? (i := 1070) (by decide +kernel), List.mem_of_getElem? (i := 1071) (by decide +kernel)⟩
theorem lw_p58 : lw_okq (⟨"KnifeTradeModel", "takeRing", "(I)V"⟩, 34) := ⟨⟨by decide +kernel, by decide +kernel⟩, List.mem_of_getElem? (i := 743) (by decide +kernel), List.mem_of_getElem? (i := 1074) (by decide +kernel), List.mem_of_getElem? (i := 1075) (by decide +kernel)⟩
theorem lw_p59 : lw_okq (⟨"KnifeTradeModel", "tell", "(JJ)V"⟩, 34) := ⟨⟨by decide +kernel, by decide +kernel⟩, List.mem_of_getElem? (i := 743) (by decide +kernel), List.mem_of_getElem? (i := 1078) (by decide +kernel), List.mem_of_getElem? (i := 1079) (by decide +kernel)⟩
theorem lw_p60 : lw_okq (⟨"KnifeTradeModel", "isHome", "()Z"⟩, 34) := ⟨⟨by decide +kernel, by decide +kernel⟩, List.mem_of_getElem? (i := 743) (by decide +kernel), List.mem_of_getElem? (i := 1095) (by decide +kernel), List.mem_of_getElem? (i := 1096) (by decide +kernel)⟩
theorem lw_p61 : lw_okq (⟨"KnifeTradeModel", "findBest", "(I)I"⟩, 34) := ⟨⟨by decide +kernel, by decide +kernel⟩, List.mem_of_getElem? (i := 743) (by decide +kernel), List.mem_of_getElem? (i := 1099) (by decide +kernel), List.mem_of_getElem? (i := 1100) (by decide +kernel)⟩
theorem lw_p62 : lw_okq (⟨"KnifeTradeModel", "acted", "(I)Z"⟩, 34) := ⟨⟨by decide +kernel, by decide +kernel⟩, List.mem_of_getElem? (i := 743) (by decide +kernel), List.mem_of_getElem? (i := 1103) (by decide +kernel), List.mem_of_getElem? (i := 1104) (by decide +kernel)⟩
theorem lw_p63 : lw_okq (⟨"KnifeTradeModel", "didSome", "(I)Z"⟩, 34) := ⟨⟨by decide +kernel, by decide +kernel⟩, List.mem_of_getElem? (i := 743) (by decide +kernel), List.mem_of_getElem? (i := 1107) (by decide +kernel), List.mem_of_getElem? (i := 1108) (by decide +kernel)⟩
def lw_privs_4 : List (MethodName × Nat) := [(⟨"KnifeTradeModel", "goBack", "()V"⟩, 34), (⟨"KnifeTradeModel", "of", "(II)I"⟩, 34), (⟨"KnifeTradeModel", "arrive", "(I)V"⟩, 34), (⟨"KnifeTradeModel", "weight", "()I"⟩, 34), (⟨"KnifeTradeModel", "doMany", "(II)V"⟩, 34), (⟨"KnifeTradeModel", "canDo", "(I)Z"⟩, 34), (⟨"KnifeTradeModel", "doOnce", "(I)V"⟩, 34), (⟨"KnifeTradeModel", "tells", "(I)I"⟩, 34), (⟨"KnifeTradeModel", "findRing", "()V"⟩, 34), (⟨"KnifeTradeModel", "fitsRing", "(I)Z"⟩, 34), (⟨"KnifeTradeModel", "takeRing", "(I)V"⟩, 34), (⟨"KnifeTradeModel", "tell", "(JJ)V"⟩, 34), (⟨"KnifeTradeModel", "isHome", "()Z"⟩, 34), (⟨"KnifeTradeModel", "findBest", "(I)I"⟩, 34), (⟨"KnifeTradeModel", "acted", "(I)Z"⟩, 34), (⟨"KnifeTradeModel", "didSome", "(I)Z"⟩, 34)]
theorem lw_r4 : ∀ q ∈ lw_privs_4, lw_okq q := List.forall_mem_cons.mpr ⟨lw_p48, List.forall_mem_cons.mpr ⟨lw_p49, List.forall_mem_cons.mpr ⟨lw_p50, List.forall_mem_cons.mpr ⟨lw_p51, List.forall_mem_cons.mpr ⟨lw_p52, List.forall_mem_cons.mpr ⟨lw_p53, List.forall_mem_cons.mpr ⟨lw_p54, List.forall_mem_cons.mpr ⟨lw_p55, List.forall_mem_cons.mpr ⟨lw_p56, List.forall_mem_cons.mpr ⟨lw_p57, List.forall_mem_cons.mpr ⟨lw_p58, List.forall_mem_cons.mpr ⟨lw_p59, List.forall_mem_cons.mpr ⟨lw_p60, List.forall_mem_cons.mpr ⟨lw_p61, List.forall_mem_cons.mpr ⟨lw_p62, List.forall_mem_cons.mpr ⟨lw_p63, fun _ h => absurd h List.not_mem_nil⟩⟩⟩⟩⟩⟩⟩⟩⟩⟩⟩⟩⟩⟩⟩⟩
theorem lw_p64 : lw_okq (⟨"KnifeTradeModel", "bestOf", "(IIII)I"⟩, 34) := ⟨⟨by decide +kernel, by decide +kernel⟩, List.mem_of_getElem? (i := 743) (by decide +kernel), List.mem_of_getElem? (i := 1123) (by decide +kernel), List.mem_of_getElem? (i := 1124) (by decide +kernel)⟩
theorem lw_p65 : lw_okq (⟨"KnifeTradeModel", "movedBy", "(II)I"⟩, 34) := ⟨⟨by decide +kernel, by decide +kernel⟩, List.mem_of_getElem? (i := 743) (by decide +kernel), List.mem_of_getElem? (i := 1140) (by decide +kernel), List.mem_of_getElem? (i := 1141) (by decide +kernel)⟩
theorem lw_p66 : lw_okq (⟨"KnifeTradeModel", "sums", "(JII)J"⟩, 34) := ⟨⟨by decide +kernel, by decide +kernel⟩, List.mem_of_getElem? (i := 743) (by decide +kernel), List.mem_of_getElem? (i := 1172) (by decide +kernel), List.mem_of_getElem? (i := 1173) (by decide +kernel)⟩
def lw_privs_5 : List (MethodName × Nat) := [(⟨"KnifeTradeModel", "bestOf", "(IIII)I"⟩, 34), (⟨"KnifeTradeModel", "movedBy", "(II)I"⟩, 34), (⟨"KnifeTradeModel", "sums", "(JII)J"⟩, 34)]
theorem lw_r5 : ∀ q ∈ lw_privs_5, lw_okq q := List.forall_mem_cons.mpr ⟨lw_p64, List.forall_mem_cons.mpr ⟨lw_p65, List.forall_mem_cons.mpr ⟨lw_p66, fun _ h => absurd h List.not_mem_nil⟩⟩⟩
def lw_privs : List (MethodName × Nat) := lw_privs_1 ++ (lw_privs_2 ++ (lw_privs_3 ++ (lw_privs_4 ++ (lw_privs_5))))
def lw_tbl : List Cond := k2_sels lw_privs ++ tables_1
theorem lw_privs_ok : ∀ q ∈ lw_privs, lw_okq q := by
  show ∀ q ∈ lw_privs_1 ++ (lw_privs_2 ++ (lw_privs_3 ++ (lw_privs_4 ++ (lw_privs_5)))), lw_okq q
  exact List.forall_mem_append.mpr ⟨lw_r1, List.forall_mem_append.mpr ⟨lw_r2, List.forall_mem_append.mpr ⟨lw_r3, List.forall_mem_append.mpr ⟨lw_r4, lw_r5⟩⟩⟩⟩
def RX0 : String := "KnifeTrade$Fraction"
def TX0 : u_T := fun k => match k with
  | 0 => ("KnifeTrade$Fraction", "above", "J", false)
  | _ => ("KnifeTrade$Fraction", "below", "J", false)
def tyX0 : Nat → FieldType := fun k => match k with
  | 0 => .long
  | _ => .long
abbrev wsX00 : List Cond := u_ws RX0 TX0 2
theorem nmX0 : ∀ a, a < 2 → ∀ b, b < 2 → a ≠ b → (TX0 a).2.1 ≠ (TX0 b).2.1 := by decide +kernel
theorem tyX0_ok : ∀ k, k < 2 → parseFieldDescriptor (TX0 k).2.2.1 = some (tyX0 k) := by decide +kernel
abbrev cX0_init : ByteArray := prog_2_method_1_code
def yX0_init : MethodName := ⟨RX0, "<init>", "()V"⟩
abbrev cX0_set : ByteArray := prog_2_method_2_code
def yX0_set : MethodName := ⟨RX0, "set", "(JJ)V"⟩
abbrev cX0_commonOf : ByteArray := prog_2_method_3_code
def yX0_commonOf : MethodName := ⟨RX0, "commonOf", "(JJ)J"⟩
def RX1 : String := "KnifeTrade$Rings"
def TX1 : u_T := fun k => match k with
  | 0 => ("KnifeTrade$Rings", "changes", "LKnifeTrade$Table;", true)
  | 1 => ("KnifeTrade$Rings", "row", "[I", true)
  | 2 => ("KnifeTrade$Rings", "best", "[I", true)
  | 3 => ("KnifeTrade$Rings", "size", "I", false)
  | 4 => ("KnifeTrade$Rings", "above", "J", false)
  | 5 => ("KnifeTrade$Rings", "below", "J", false)
  | 6 => ("KnifeTrade$Rings", "priceAbove", "[J", true)
  | _ => ("KnifeTrade$Rings", "priceBelow", "[J", true)
def tyX1 : Nat → FieldType := fun k => match k with
  | 0 => .object "KnifeTrade$Table"
  | 1 => .array .int
  | 2 => .array .int
  | 3 => .int
  | 4 => .long
  | 5 => .long
  | 6 => .array .long
  | _ => .array .long
abbrev wsX10 : List Cond := u_ws RX1 TX1 8
theorem nmX1 : ∀ a, a < 8 → ∀ b, b < 8 → a ≠ b → (TX1 a).2.1 ≠ (TX1 b).2.1 := by decide +kernel
theorem tyX1_ok : ∀ k, k < 8 → parseFieldDescriptor (TX1 k).2.2.1 = some (tyX1 k) := by decide +kernel
abbrev cX1_init : ByteArray := prog_3_method_1_code
def yX1_init : MethodName := ⟨RX1, "<init>", "(LKnifeTrade$Table;)V"⟩
abbrev cX1_seekBest : ByteArray := prog_3_method_2_code
def yX1_seekBest : MethodName := ⟨RX1, "seekBest", "()V"⟩
abbrev cX1_gains : ByteArray := prog_3_method_3_code
def yX1_gains : MethodName := ⟨RX1, "gains", "()Z"⟩
abbrev cX1_seek : ByteArray := prog_3_method_4_code
def yX1_seek : MethodName := ⟨RX1, "seek", "(LKnifeTrade$Rings;IJJ)V"⟩
abbrev cX1_wasThere : ByteArray := prog_3_method_5_code
def yX1_wasThere : MethodName := ⟨RX1, "wasThere", "(II)Z"⟩
abbrev cX1_weigh : ByteArray := prog_3_method_6_code
def yX1_weigh : MethodName := ⟨RX1, "weigh", "(IJJ)V"⟩
abbrev cX1_findPrices : ByteArray := prog_3_method_7_code
def yX1_findPrices : MethodName := ⟨RX1, "findPrices", "(I)V"⟩
abbrev cX1_raise : ByteArray := prog_3_method_8_code
def yX1_raise : MethodName := ⟨RX1, "raise", "([I)V"⟩
def RX2 : String := "KnifeTrade$River"
def TX2 : u_T := fun k => match k with
  | 0 => ("KnifeTrade$River", "landings", "LKnifeTrade$Table;", true)
  | 1 => ("KnifeTrade$River", "things", "LKnifeTrade$Table;", true)
  | 2 => ("KnifeTrade$River", "changes", "LKnifeTrade$Table;", true)
  | 3 => ("KnifeTrade$River", "numbers", "[I", true)
  | _ => ("KnifeTrade$River", "texts", "[LKnifeTrade$Text;", true)
def tyX2 : Nat → FieldType := fun k => match k with
  | 0 => .object "KnifeTrade$Table"
  | 1 => .object "KnifeTrade$Table"
  | 2 => .object "KnifeTrade$Table"
  | 3 => .array .int
  | _ => .array (.object "KnifeTrade$Text")
abbrev wsX20 : List Cond := u_ws RX2 TX2 5
theorem nmX2 : ∀ a, a < 5 → ∀ b, b < 5 → a ≠ b → (TX2 a).2.1 ≠ (TX2 b).2.1 := by decide +kernel
theorem tyX2_ok : ∀ k, k < 5 → parseFieldDescriptor (TX2 k).2.2.1 = some (tyX2 k) := by decide +kernel
abbrev cX2_init : ByteArray := prog_4_method_1_code
def yX2_init : MethodName := ⟨RX2, "<init>", "()V"⟩
abbrev cX2_copy : ByteArray := prog_4_method_2_code
def yX2_copy : MethodName := ⟨RX2, "copy", "(LKnifeTrade$River;)V"⟩
abbrev cX2_mix : ByteArray := prog_4_method_3_code
def yX2_mix : MethodName := ⟨RX2, "mix", "(J)J"⟩
abbrev cX2_staysPut : ByteArray := prog_4_method_4_code
def yX2_staysPut : MethodName := ⟨RX2, "staysPut", "([I)Z"⟩
def RX3 : String := "KnifeTrade$Search"
def TX3 : u_T := fun k => match k with
  | 0 => ("KnifeTrade$Search", "river", "LKnifeTrade$River;", true)
  | 1 => ("KnifeTrade$Search", "stages", "[LKnifeTrade$Voyage;", true)
  | 2 => ("KnifeTrade$Search", "row", "[I", true)
  | 3 => ("KnifeTrade$Search", "best", "[I", true)
  | 4 => ("KnifeTrade$Search", "acts", "I", false)
  | 5 => ("KnifeTrade$Search", "size", "I", false)
  | _ => ("KnifeTrade$Search", "home", "I", false)
def tyX3 : Nat → FieldType := fun k => match k with
  | 0 => .object "KnifeTrade$River"
  | 1 => .array (.object "KnifeTrade$Voyage")
  | 2 => .array .int
  | 3 => .array .int
  | 4 => .int
  | 5 => .int
  | _ => .int
abbrev wsX30 : List Cond := u_ws RX3 TX3 7
theorem nmX3 : ∀ a, a < 7 → ∀ b, b < 7 → a ≠ b → (TX3 a).2.1 ≠ (TX3 b).2.1 := by decide +kernel
theorem tyX3_ok : ∀ k, k < 7 → parseFieldDescriptor (TX3 k).2.2.1 = some (tyX3 k) := by decide +kernel
abbrev cX3_init : ByteArray := prog_5_method_1_code
def yX3_init : MethodName := ⟨RX3, "<init>", "(LKnifeTrade$River;)V"⟩
abbrev cX3_mostHome : ByteArray := prog_5_method_2_code
def yX3_mostHome : MethodName := ⟨RX3, "mostHome", "(I)I"⟩
abbrev cX3_seek : ByteArray := prog_5_method_3_code
def yX3_seek : MethodName := ⟨RX3, "seek", "(LKnifeTrade$Search;I)V"⟩
abbrev cX3_mayHelp : ByteArray := prog_5_method_4_code
def yX3_mayHelp : MethodName := ⟨RX3, "mayHelp", "(II)Z"⟩
abbrev cX3_goesRight : ByteArray := prog_5_method_5_code
def yX3_goesRight : MethodName := ⟨RX3, "goesRight", "(LKnifeTrade$Voyage;I)Z"⟩
abbrev cX3_weigh : ByteArray := prog_5_method_6_code
def yX3_weigh : MethodName := ⟨RX3, "weigh", "(I)V"⟩
def RX4 : String := "KnifeTrade$Steps"
def TX4 : u_T := fun k => match k with
  | 0 => ("KnifeTrade$Steps", "kinds", "[I", true)
  | 1 => ("KnifeTrade$Steps", "changes", "[I", true)
  | 2 => ("KnifeTrade$Steps", "times", "[I", true)
  | _ => ("KnifeTrade$Steps", "size", "I", false)
def tyX4 : Nat → FieldType := fun k => match k with
  | 0 => .array .int
  | 1 => .array .int
  | 2 => .array .int
  | _ => .int
abbrev wsX40 : List Cond := u_ws RX4 TX4 4
theorem nmX4 : ∀ a, a < 4 → ∀ b, b < 4 → a ≠ b → (TX4 a).2.1 ≠ (TX4 b).2.1 := by decide +kernel
theorem tyX4_ok : ∀ k, k < 4 → parseFieldDescriptor (TX4 k).2.2.1 = some (tyX4 k) := by decide +kernel
abbrev cX4_init : ByteArray := prog_6_method_1_code
def yX4_init : MethodName := ⟨RX4, "<init>", "()V"⟩
abbrev cX4_read : ByteArray := prog_6_method_2_code
def yX4_read : MethodName := ⟨RX4, "read", "(LKnifeTrade$Text;)I"⟩
abbrev cX4_behind : ByteArray := prog_6_method_3_code
def yX4_behind : MethodName := ⟨RX4, "behind", "(LKnifeTrade$Text;III)I"⟩
abbrev cX4_behindWord : ByteArray := prog_6_method_4_code
def yX4_behindWord : MethodName := ⟨RX4, "behindWord", "(LKnifeTrade$Text;II)I"⟩
def RX5 : String := "KnifeTrade$Table"
def TX5 : u_T := fun k => match k with
  | 0 => ("KnifeTrade$Table", "rows", "[[I", true)
  | 1 => ("KnifeTrade$Table", "width", "I", true)
  | _ => ("KnifeTrade$Table", "size", "I", false)
def tyX5 : Nat → FieldType := fun k => match k with
  | 0 => .array (.array .int)
  | 1 => .int
  | _ => .int
abbrev wsX50 : List Cond := u_ws RX5 TX5 3
theorem nmX5 : ∀ a, a < 3 → ∀ b, b < 3 → a ≠ b → (TX5 a).2.1 ≠ (TX5 b).2.1 := by decide +kernel
theorem tyX5_ok : ∀ k, k < 3 → parseFieldDescriptor (TX5 k).2.2.1 = some (tyX5 k) := by decide +kernel
abbrev cX5_init : ByteArray := prog_7_method_1_code
def yX5_init : MethodName := ⟨RX5, "<init>", "(II)V"⟩
abbrev cX5_has : ByteArray := prog_7_method_2_code
def yX5_has : MethodName := ⟨RX5, "has", "(I)Z"⟩
abbrev cX5_isFull : ByteArray := prog_7_method_3_code
def yX5_isFull : MethodName := ⟨RX5, "isFull", "()Z"⟩
abbrev cX5_add : ByteArray := prog_7_method_4_code
def yX5_add : MethodName := ⟨RX5, "add", "()I"⟩
abbrev cX5_copy : ByteArray := prog_7_method_5_code
def yX5_copy : MethodName := ⟨RX5, "copy", "(LKnifeTrade$Table;)V"⟩
abbrev cX5_mix : ByteArray := prog_7_method_6_code
def yX5_mix : MethodName := ⟨RX5, "mix", "(J)J"⟩
def RX6 : String := "KnifeTrade$Text"
def TX6 : u_T := fun k => match k with
  | 0 => ("KnifeTrade$Text", "bytes", "[I", true)
  | _ => ("KnifeTrade$Text", "length", "I", false)
def tyX6 : Nat → FieldType := fun k => match k with
  | 0 => .array .int
  | _ => .int
abbrev wsX60 : List Cond := u_ws RX6 TX6 2
theorem nmX6 : ∀ a, a < 2 → ∀ b, b < 2 → a ≠ b → (TX6 a).2.1 ≠ (TX6 b).2.1 := by decide +kernel
theorem tyX6_ok : ∀ k, k < 2 → parseFieldDescriptor (TX6 k).2.2.1 = some (tyX6 k) := by decide +kernel
abbrev cX6_init : ByteArray := prog_8_method_1_code
def yX6_init : MethodName := ⟨RX6, "<init>", "()V"⟩
abbrev cX6_add : ByteArray := prog_8_method_2_code
def yX6_add : MethodName := ⟨RX6, "add", "(JI)V"⟩
abbrev cX6_copy : ByteArray := prog_8_method_3_code
def yX6_copy : MethodName := ⟨RX6, "copy", "(LKnifeTrade$Text;)V"⟩
abbrev cX6_isBlank : ByteArray := prog_8_method_4_code
def yX6_isBlank : MethodName := ⟨RX6, "isBlank", "(I)Z"⟩
abbrev cX6_isLetter : ByteArray := prog_8_method_5_code
def yX6_isLetter : MethodName := ⟨RX6, "isLetter", "(I)Z"⟩
abbrev cX6_isFigure : ByteArray := prog_8_method_6_code
def yX6_isFigure : MethodName := ⟨RX6, "isFigure", "(I)Z"⟩
abbrev cX6_blanksEnd : ByteArray := prog_8_method_7_code
def yX6_blanksEnd : MethodName := ⟨RX6, "blanksEnd", "(I)I"⟩
abbrev cX6_tokenEnd : ByteArray := prog_8_method_8_code
def yX6_tokenEnd : MethodName := ⟨RX6, "tokenEnd", "(I)I"⟩
abbrev cX6_spells : ByteArray := prog_8_method_9_code
def yX6_spells : MethodName := ⟨RX6, "spells", "(IILjava/lang/String;)Z"⟩
abbrev cX6_number : ByteArray := prog_8_method_10_code
def yX6_number : MethodName := ⟨RX6, "number", "(II)I"⟩
def RX7 : String := "KnifeTrade$Voyage"
def TX7 : u_T := fun k => match k with
  | 0 => ("KnifeTrade$Voyage", "river", "LKnifeTrade$River;", true)
  | 1 => ("KnifeTrade$Voyage", "loads", "[I", true)
  | 2 => ("KnifeTrade$Voyage", "owedFrom", "[I", true)
  | 3 => ("KnifeTrade$Voyage", "moved", "[I", true)
  | 4 => ("KnifeTrade$Voyage", "tally", "[I", true)
  | 5 => ("KnifeTrade$Voyage", "times", "[I", true)
  | 6 => ("KnifeTrade$Voyage", "landing", "I", false)
  | 7 => ("KnifeTrade$Voyage", "day", "I", false)
  | 8 => ("KnifeTrade$Voyage", "wrong", "I", false)
  | _ => ("KnifeTrade$Voyage", "right", "I", false)
def tyX7 : Nat → FieldType := fun k => match k with
  | 0 => .object "KnifeTrade$River"
  | 1 => .array .int
  | 2 => .array .int
  | 3 => .array .int
  | 4 => .array .int
  | 5 => .array .int
  | 6 => .int
  | 7 => .int
  | 8 => .int
  | _ => .int
abbrev wsX70 : List Cond := u_ws RX7 TX7 10
theorem nmX7 : ∀ a, a < 10 → ∀ b, b < 10 → a ≠ b → (TX7 a).2.1 ≠ (TX7 b).2.1 := by decide +kernel
theorem tyX7_ok : ∀ k, k < 10 → parseFieldDescriptor (TX7 k).2.2.1 = some (tyX7 k) := by decide +kernel
abbrev cX7_init : ByteArray := prog_9_method_1_code
def yX7_init : MethodName := ⟨RX7, "<init>", "(LKnifeTrade$River;)V"⟩
abbrev cX7_unmove : ByteArray := prog_9_method_2_code
def yX7_unmove : MethodName := ⟨RX7, "unmove", "()V"⟩
abbrev cX7_depart : ByteArray := prog_9_method_3_code
def yX7_depart : MethodName := ⟨RX7, "depart", "()V"⟩
abbrev cX7_copy : ByteArray := prog_9_method_4_code
def yX7_copy : MethodName := ⟨RX7, "copy", "(LKnifeTrade$Voyage;)V"⟩
abbrev cX7_follow : ByteArray := prog_9_method_5_code
def yX7_follow : MethodName := ⟨RX7, "follow", "(LKnifeTrade$Steps;)V"⟩
abbrev cX7_step : ByteArray := prog_9_method_6_code
def yX7_step : MethodName := ⟨RX7, "step", "(III)V"⟩
abbrev cX7_goUp : ByteArray := prog_9_method_7_code
def yX7_goUp : MethodName := ⟨RX7, "goUp", "()V"⟩
abbrev cX7_goDown : ByteArray := prog_9_method_8_code
def yX7_goDown : MethodName := ⟨RX7, "goDown", "()V"⟩
abbrev cX7_pass : ByteArray := prog_9_method_9_code
def yX7_pass : MethodName := ⟨RX7, "pass", "(I)V"⟩
abbrev cX7_passForChanges : ByteArray := prog_9_method_10_code
def yX7_passForChanges : MethodName := ⟨RX7, "passForChanges", "(I)V"⟩
abbrev cX7_spoil : ByteArray := prog_9_method_11_code
def yX7_spoil : MethodName := ⟨RX7, "spoil", "()V"⟩
abbrev cX7_eat : ByteArray := prog_9_method_12_code
def yX7_eat : MethodName := ⟨RX7, "eat", "()V"⟩
abbrev cX7_comeBack : ByteArray := prog_9_method_13_code
def yX7_comeBack : MethodName := ⟨RX7, "comeBack", "()V"⟩
abbrev cX7_arrive : ByteArray := prog_9_method_14_code
def yX7_arrive : MethodName := ⟨RX7, "arrive", "(I)V"⟩
abbrev cX7_weight : ByteArray := prog_9_method_15_code
def yX7_weight : MethodName := ⟨RX7, "weight", "()I"⟩
abbrev cX7_doTimes : ByteArray := prog_9_method_16_code
def yX7_doTimes : MethodName := ⟨RX7, "doTimes", "(II)V"⟩
abbrev cX7_doAll : ByteArray := prog_9_method_17_code
def yX7_doAll : MethodName := ⟨RX7, "doAll", "(I)Z"⟩
abbrev cX7_canDo : ByteArray := prog_9_method_18_code
def yX7_canDo : MethodName := ⟨RX7, "canDo", "(I)Z"⟩
abbrev cX7_moreWeight : ByteArray := prog_9_method_19_code
def yX7_moreWeight : MethodName := ⟨RX7, "moreWeight", "(I)I"⟩
abbrev cX7_doOnce : ByteArray := prog_9_method_20_code
def yX7_doOnce : MethodName := ⟨RX7, "doOnce", "(I)V"⟩
def RX8 : String := "KnifeTrade"
def TX8 : u_T := fun k => match k with
  | 0 => ("KnifeTrade", "river", "LKnifeTrade$River;", true)
  | 1 => ("KnifeTrade", "images", "[LKnifeTrade$River;", true)
  | 2 => ("KnifeTrade", "kept", "[Z", true)
  | 3 => ("KnifeTrade", "steps", "[LKnifeTrade$Steps;", true)
  | 4 => ("KnifeTrade", "voyage", "LKnifeTrade$Voyage;", true)
  | 5 => ("KnifeTrade", "search", "LKnifeTrade$Search;", true)
  | 6 => ("KnifeTrade", "rings", "LKnifeTrade$Rings;", true)
  | _ => ("KnifeTrade", "fraction", "LKnifeTrade$Fraction;", true)
def tyX8 : Nat → FieldType := fun k => match k with
  | 0 => .object "KnifeTrade$River"
  | 1 => .array (.object "KnifeTrade$River")
  | 2 => .array .boolean
  | 3 => .array (.object "KnifeTrade$Steps")
  | 4 => .object "KnifeTrade$Voyage"
  | 5 => .object "KnifeTrade$Search"
  | 6 => .object "KnifeTrade$Rings"
  | _ => .object "KnifeTrade$Fraction"
abbrev wsX80 : List Cond := u_ws RX8 TX8 8
theorem nmX8 : ∀ a, a < 8 → ∀ b, b < 8 → a ≠ b → (TX8 a).2.1 ≠ (TX8 b).2.1 := by decide +kernel
theorem tyX8_ok : ∀ k, k < 8 → parseFieldDescriptor (TX8 k).2.2.1 = some (tyX8 k) := by decide +kernel
abbrev cX8_init : ByteArray := prog_1_method_1_code
def yX8_init : MethodName := ⟨RX8, "<init>", "()V"⟩
abbrev cX8_landing : ByteArray := prog_1_method_2_code
def yX8_landing : MethodName := ⟨RX8, "landing", "(II)I"⟩
abbrev cX8_thing : ByteArray := prog_1_method_3_code
def yX8_thing : MethodName := ⟨RX8, "thing", "(II)I"⟩
abbrev cX8_put : ByteArray := prog_1_method_4_code
def yX8_put : MethodName := ⟨RX8, "put", "(II)I"⟩
abbrev cX8_mayPut : ByteArray := prog_1_method_5_code
def yX8_mayPut : MethodName := ⟨RX8, "mayPut", "(II)Z"⟩
abbrev cX8_change : ByteArray := prog_1_method_6_code
def yX8_change : MethodName := ⟨RX8, "change", "(IIIII)I"⟩
abbrev cX8_moves : ByteArray := prog_1_method_7_code
def yX8_moves : MethodName := ⟨RX8, "moves", "(IIII)I"⟩
abbrev cX8_greeting : ByteArray := prog_1_method_8_code
def yX8_greeting : MethodName := ⟨RX8, "greeting", "(IIIIII)I"⟩
abbrev cX8_start : ByteArray := prog_1_method_9_code
def yX8_start : MethodName := ⟨RX8, "start", "(II)I"⟩
abbrev cX8_type : ByteArray := prog_1_method_10_code
def yX8_type : MethodName := ⟨RX8, "type", "(IJI)I"⟩
abbrev cX8_clear : ByteArray := prog_1_method_11_code
def yX8_clear : MethodName := ⟨RX8, "clear", "(I)I"⟩
abbrev cX8_fault : ByteArray := prog_1_method_12_code
def yX8_fault : MethodName := ⟨RX8, "fault", "(I)I"⟩
abbrev cX8_run : ByteArray := prog_1_method_13_code
def yX8_run : MethodName := ⟨RX8, "run", "(II)I"⟩
abbrev cX8_load : ByteArray := prog_1_method_14_code
def yX8_load : MethodName := ⟨RX8, "load", "(II)I"⟩
abbrev cX8_rival : ByteArray := prog_1_method_15_code
def yX8_rival : MethodName := ⟨RX8, "rival", "(II)I"⟩
abbrev cX8_isText : ByteArray := prog_1_method_16_code
def yX8_isText : MethodName := ⟨RX8, "isText", "(I)Z"⟩
abbrev cX8_isVoyage : ByteArray := prog_1_method_17_code
def yX8_isVoyage : MethodName := ⟨RX8, "isVoyage", "(I)Z"⟩
abbrev cX8_sail : ByteArray := prog_1_method_18_code
def yX8_sail : MethodName := ⟨RX8, "sail", "(I)Z"⟩
abbrev cX8_ending : ByteArray := prog_1_method_19_code
def yX8_ending : MethodName := ⟨RX8, "ending", "(I)I"⟩
abbrev cX8_ring : ByteArray := prog_1_method_20_code
def yX8_ring : MethodName := ⟨RX8, "ring", "(I)I"⟩
abbrev cX8_price : ByteArray := prog_1_method_21_code
def yX8_price : MethodName := ⟨RX8, "price", "(I)I"⟩
abbrev cX8_best : ByteArray := prog_1_method_22_code
def yX8_best : MethodName := ⟨RX8, "best", "(II)I"⟩
abbrev cX8_worth : ByteArray := prog_1_method_23_code
def yX8_worth : MethodName := ⟨RX8, "worth", "(II)I"⟩
abbrev cX8_lack : ByteArray := prog_1_method_24_code
def yX8_lack : MethodName := ⟨RX8, "lack", "(I)I"⟩
abbrev cX8_crew : ByteArray := prog_1_method_25_code
def yX8_crew : MethodName := ⟨RX8, "crew", "(I)I"⟩
abbrev cX8_where : ByteArray := prog_1_method_26_code
def yX8_where : MethodName := ⟨RX8, "where", "(I)I"⟩
abbrev cX8_latest : ByteArray := prog_1_method_27_code
def yX8_latest : MethodName := ⟨RX8, "latest", "(I)I"⟩
abbrev cX8_rate : ByteArray := prog_1_method_28_code
def yX8_rate : MethodName := ⟨RX8, "rate", "(III)I"⟩
abbrev cX8_waits : ByteArray := prog_1_method_29_code
def yX8_waits : MethodName := ⟨RX8, "waits", "(II)I"⟩
abbrev cX8_isActs : ByteArray := prog_1_method_30_code
def yX8_isActs : MethodName := ⟨RX8, "isActs", "(I)Z"⟩
abbrev cX8_canSeek : ByteArray := prog_1_method_31_code
def yX8_canSeek : MethodName := ⟨RX8, "canSeek", "()Z"⟩
abbrev cX8_homeWith : ByteArray := prog_1_method_32_code
def yX8_homeWith : MethodName := ⟨RX8, "homeWith", "(III)I"⟩
abbrev cX8_bestNumber : ByteArray := prog_1_method_33_code
def yX8_bestNumber : MethodName := ⟨RX8, "bestNumber", "(IIII)I"⟩
abbrev cX8_movedBehind : ByteArray := prog_1_method_34_code
def yX8_movedBehind : MethodName := ⟨RX8, "movedBehind", "([II)I"⟩
abbrev cX8_part : ByteArray := prog_1_method_35_code
def yX8_part : MethodName := ⟨RX8, "part", "(I)J"⟩
abbrev cX8_image : ByteArray := prog_1_method_36_code
def yX8_image : MethodName := ⟨RX8, "image", "(I)I"⟩
abbrev cX8_from : ByteArray := prog_1_method_37_code
def yX8_from : MethodName := ⟨RX8, "from", "(I)I"⟩
abbrev cX8_count : ByteArray := prog_1_method_38_code
def yX8_count : MethodName := ⟨RX8, "count", "(I)I"⟩
abbrev cX8_digest : ByteArray := prog_1_method_39_code
def yX8_digest : MethodName := ⟨RX8, "digest", "()J"⟩
abbrev cX8_isImage : ByteArray := prog_1_method_40_code
def yX8_isImage : MethodName := ⟨RX8, "isImage", "(I)Z"⟩
abbrev cX8_within : ByteArray := prog_1_method_41_code
def yX8_within : MethodName := ⟨RX8, "within", "(III)Z"⟩
abbrev cX8_mixAll : ByteArray := prog_1_method_42_code
def yX8_mixAll : MethodName := ⟨RX8, "mixAll", "(J[II)J"⟩
def RX9 : String := "KnifeTradeModel"
def TX9 : u_T := fun k => match k with
  | 0 => ("KnifeTradeModel", "now", "[I", true)
  | 1 => ("KnifeTradeModel", "kept", "[I", true)
  | 2 => ("KnifeTradeModel", "isKept", "[Z", true)
  | 3 => ("KnifeTradeModel", "above", "J", false)
  | 4 => ("KnifeTradeModel", "below", "J", false)
  | 5 => ("KnifeTradeModel", "tokenAt", "I", false)
  | 6 => ("KnifeTradeModel", "tokenLong", "I", false)
  | 7 => ("KnifeTradeModel", "token", "I", false)
  | 8 => ("KnifeTradeModel", "told", "I", false)
  | 9 => ("KnifeTradeModel", "step", "I", false)
  | 10 => ("KnifeTradeModel", "stepChange", "I", false)
  | 11 => ("KnifeTradeModel", "stepMany", "I", false)
  | 12 => ("KnifeTradeModel", "goods", "[I", true)
  | 13 => ("KnifeTradeModel", "day", "I", false)
  | 14 => ("KnifeTradeModel", "at", "I", false)
  | 15 => ("KnifeTradeModel", "wrong", "I", false)
  | 16 => ("KnifeTradeModel", "moved", "[I", true)
  | 17 => ("KnifeTradeModel", "tally", "[I", true)
  | 18 => ("KnifeTradeModel", "times", "[I", true)
  | 19 => ("KnifeTradeModel", "dueDay", "[I", true)
  | 20 => ("KnifeTradeModel", "dueThing", "[I", true)
  | 21 => ("KnifeTradeModel", "dueMany", "[I", true)
  | 22 => ("KnifeTradeModel", "isDue", "[Z", true)
  | 23 => ("KnifeTradeModel", "right", "I", false)
  | 24 => ("KnifeTradeModel", "row", "[I", true)
  | 25 => ("KnifeTradeModel", "bestRow", "[I", true)
  | 26 => ("KnifeTradeModel", "bestLong", "I", false)
  | 27 => ("KnifeTradeModel", "bestOver", "J", false)
  | 28 => ("KnifeTradeModel", "bestUnder", "J", false)
  | 29 => ("KnifeTradeModel", "over", "[J", true)
  | 30 => ("KnifeTradeModel", "under", "[J", true)
  | 31 => ("KnifeTradeModel", "acts", "[I", true)
  | 32 => ("KnifeTradeModel", "bestActs", "[I", true)
  | _ => ("KnifeTradeModel", "bestMany", "I", false)
def tyX9 : Nat → FieldType := fun k => match k with
  | 0 => .array .int
  | 1 => .array .int
  | 2 => .array .boolean
  | 3 => .long
  | 4 => .long
  | 5 => .int
  | 6 => .int
  | 7 => .int
  | 8 => .int
  | 9 => .int
  | 10 => .int
  | 11 => .int
  | 12 => .array .int
  | 13 => .int
  | 14 => .int
  | 15 => .int
  | 16 => .array .int
  | 17 => .array .int
  | 18 => .array .int
  | 19 => .array .int
  | 20 => .array .int
  | 21 => .array .int
  | 22 => .array .boolean
  | 23 => .int
  | 24 => .array .int
  | 25 => .array .int
  | 26 => .int
  | 27 => .long
  | 28 => .long
  | 29 => .array .long
  | 30 => .array .long
  | 31 => .array .int
  | 32 => .array .int
  | _ => .int
abbrev wsX90 : List Cond := u_ws RX9 TX9 34
theorem nmX9 : ∀ a, a < 34 → ∀ b, b < 34 → a ≠ b → (TX9 a).2.1 ≠ (TX9 b).2.1 := by decide +kernel
theorem tyX9_ok : ∀ k, k < 34 → parseFieldDescriptor (TX9 k).2.2.1 = some (tyX9 k) := by decide +kernel
abbrev cX9_init : ByteArray := prog_11_method_1_code
def yX9_init : MethodName := ⟨RX9, "<init>", "()V"⟩
abbrev cX9_in : ByteArray := prog_11_method_3_code
def yX9_in : MethodName := ⟨RX9, "in", "(JJJ)Z"⟩
abbrev cX9_landings : ByteArray := prog_11_method_4_code
def yX9_landings : MethodName := ⟨RX9, "landings", "()I"⟩
abbrev cX9_things : ByteArray := prog_11_method_5_code
def yX9_things : MethodName := ⟨RX9, "things", "()I"⟩
abbrev cX9_changes : ByteArray := prog_11_method_6_code
def yX9_changes : MethodName := ⟨RX9, "changes", "()I"⟩
abbrev cX9_isLanding : ByteArray := prog_11_method_7_code
def yX9_isLanding : MethodName := ⟨RX9, "isLanding", "(I)Z"⟩
abbrev cX9_isThing : ByteArray := prog_11_method_8_code
def yX9_isThing : MethodName := ⟨RX9, "isThing", "(I)Z"⟩
abbrev cX9_isChange : ByteArray := prog_11_method_9_code
def yX9_isChange : MethodName := ⟨RX9, "isChange", "(I)Z"⟩
abbrev cX9_ofLanding : ByteArray := prog_11_method_10_code
def yX9_ofLanding : MethodName := ⟨RX9, "ofLanding", "(II)I"⟩
abbrev cX9_ofThing : ByteArray := prog_11_method_11_code
def yX9_ofThing : MethodName := ⟨RX9, "ofThing", "(II)I"⟩
abbrev cX9_number : ByteArray := prog_11_method_12_code
def yX9_number : MethodName := ⟨RX9, "number", "(I)I"⟩
abbrev cX9_of : ByteArray := prog_11_method_13_code
def yX9_of : MethodName := ⟨RX9, "of", "(II)I"⟩
abbrev cX9_landing : ByteArray := prog_11_method_14_code
def yX9_landing : MethodName := ⟨RX9, "landing", "(II)I"⟩
abbrev cX9_thing : ByteArray := prog_11_method_15_code
def yX9_thing : MethodName := ⟨RX9, "thing", "(II)I"⟩
abbrev cX9_fitsNumber : ByteArray := prog_11_method_16_code
def yX9_fitsNumber : MethodName := ⟨RX9, "fitsNumber", "(II)Z"⟩
abbrev cX9_put : ByteArray := prog_11_method_17_code
def yX9_put : MethodName := ⟨RX9, "put", "(II)I"⟩
abbrev cX9_change : ByteArray := prog_11_method_18_code
def yX9_change : MethodName := ⟨RX9, "change", "(IIIII)I"⟩
abbrev cX9_moves : ByteArray := prog_11_method_19_code
def yX9_moves : MethodName := ⟨RX9, "moves", "(IIII)I"⟩
abbrev cX9_greeting : ByteArray := prog_11_method_20_code
def yX9_greeting : MethodName := ⟨RX9, "greeting", "(IIIIII)I"⟩
abbrev cX9_start : ByteArray := prog_11_method_21_code
def yX9_start : MethodName := ⟨RX9, "start", "(II)I"⟩
abbrev cX9_isText : ByteArray := prog_11_method_22_code
def yX9_isText : MethodName := ⟨RX9, "isText", "(I)Z"⟩
abbrev cX9_textLong : ByteArray := prog_11_method_23_code
def yX9_textLong : MethodName := ⟨RX9, "textLong", "(I)I"⟩
abbrev cX9_byteAt : ByteArray := prog_11_method_24_code
def yX9_byteAt : MethodName := ⟨RX9, "byteAt", "(II)I"⟩
abbrev cX9_type : ByteArray := prog_11_method_25_code
def yX9_type : MethodName := ⟨RX9, "type", "(IJI)I"⟩
abbrev cX9_clear : ByteArray := prog_11_method_26_code
def yX9_clear : MethodName := ⟨RX9, "clear", "(I)I"⟩
abbrev cX9_isSmall : ByteArray := prog_11_method_27_code
def yX9_isSmall : MethodName := ⟨RX9, "isSmall", "(I)Z"⟩
abbrev cX9_isFigure : ByteArray := prog_11_method_28_code
def yX9_isFigure : MethodName := ⟨RX9, "isFigure", "(I)Z"⟩
abbrev cX9_look : ByteArray := prog_11_method_29_code
def yX9_look : MethodName := ⟨RX9, "look", "(II)V"⟩
abbrev cX9_next : ByteArray := prog_11_method_30_code
def yX9_next : MethodName := ⟨RX9, "next", "(I)V"⟩
abbrev cX9_isWord : ByteArray := prog_11_method_31_code
def yX9_isWord : MethodName := ⟨RX9, "isWord", "(IIIII)Z"⟩
abbrev cX9_readStep : ByteArray := prog_11_method_32_code
def yX9_readStep : MethodName := ⟨RX9, "readStep", "(I)Z"⟩
abbrev cX9_faultOf : ByteArray := prog_11_method_33_code
def yX9_faultOf : MethodName := ⟨RX9, "faultOf", "(I)I"⟩
abbrev cX9_fault : ByteArray := prog_11_method_34_code
def yX9_fault : MethodName := ⟨RX9, "fault", "(I)I"⟩
abbrev cX9_settle : ByteArray := prog_11_method_35_code
def yX9_settle : MethodName := ⟨RX9, "settle", "()V"⟩
abbrev cX9_begin : ByteArray := prog_11_method_36_code
def yX9_begin : MethodName := ⟨RX9, "begin", "()V"⟩
abbrev cX9_weight : ByteArray := prog_11_method_37_code
def yX9_weight : MethodName := ⟨RX9, "weight", "()I"⟩
abbrev cX9_goBack : ByteArray := prog_11_method_38_code
def yX9_goBack : MethodName := ⟨RX9, "goBack", "()V"⟩
abbrev cX9_pass : ByteArray := prog_11_method_39_code
def yX9_pass : MethodName := ⟨RX9, "pass", "()V"⟩
abbrev cX9_passAll : ByteArray := prog_11_method_40_code
def yX9_passAll : MethodName := ⟨RX9, "passAll", "(I)V"⟩
abbrev cX9_arrive : ByteArray := prog_11_method_41_code
def yX9_arrive : MethodName := ⟨RX9, "arrive", "(I)V"⟩
abbrev cX9_go : ByteArray := prog_11_method_42_code
def yX9_go : MethodName := ⟨RX9, "go", "(Z)V"⟩
abbrev cX9_canDo : ByteArray := prog_11_method_43_code
def yX9_canDo : MethodName := ⟨RX9, "canDo", "(I)Z"⟩
abbrev cX9_doOnce : ByteArray := prog_11_method_44_code
def yX9_doOnce : MethodName := ⟨RX9, "doOnce", "(I)V"⟩
abbrev cX9_doMany : ByteArray := prog_11_method_45_code
def yX9_doMany : MethodName := ⟨RX9, "doMany", "(II)V"⟩
abbrev cX9_goBy : ByteArray := prog_11_method_46_code
def yX9_goBy : MethodName := ⟨RX9, "goBy", "(I)V"⟩
abbrev cX9_tells : ByteArray := prog_11_method_47_code
def yX9_tells : MethodName := ⟨RX9, "tells", "(I)I"⟩
abbrev cX9_canGo : ByteArray := prog_11_method_48_code
def yX9_canGo : MethodName := ⟨RX9, "canGo", "(I)Z"⟩
abbrev cX9_run : ByteArray := prog_11_method_49_code
def yX9_run : MethodName := ⟨RX9, "run", "(II)I"⟩
abbrev cX9_load : ByteArray := prog_11_method_50_code
def yX9_load : MethodName := ⟨RX9, "load", "(II)I"⟩
abbrev cX9_rival : ByteArray := prog_11_method_51_code
def yX9_rival : MethodName := ⟨RX9, "rival", "(II)I"⟩
abbrev cX9_findRing : ByteArray := prog_11_method_52_code
def yX9_findRing : MethodName := ⟨RX9, "findRing", "()V"⟩
abbrev cX9_fitsRing : ByteArray := prog_11_method_53_code
def yX9_fitsRing : MethodName := ⟨RX9, "fitsRing", "(I)Z"⟩
abbrev cX9_takeRing : ByteArray := prog_11_method_54_code
def yX9_takeRing : MethodName := ⟨RX9, "takeRing", "(I)V"⟩
abbrev cX9_tell : ByteArray := prog_11_method_55_code
def yX9_tell : MethodName := ⟨RX9, "tell", "(JJ)V"⟩
abbrev cX9_ring : ByteArray := prog_11_method_56_code
def yX9_ring : MethodName := ⟨RX9, "ring", "(I)I"⟩
abbrev cX9_price : ByteArray := prog_11_method_57_code
def yX9_price : MethodName := ⟨RX9, "price", "(I)I"⟩
abbrev cX9_acted : ByteArray := prog_11_method_58_code
def yX9_acted : MethodName := ⟨RX9, "acted", "(I)Z"⟩
abbrev cX9_didSome : ByteArray := prog_11_method_59_code
def yX9_didSome : MethodName := ⟨RX9, "didSome", "(I)Z"⟩
abbrev cX9_findBest : ByteArray := prog_11_method_60_code
def yX9_findBest : MethodName := ⟨RX9, "findBest", "(I)I"⟩
abbrev cX9_isMany : ByteArray := prog_11_method_61_code
def yX9_isMany : MethodName := ⟨RX9, "isMany", "(I)Z"⟩
abbrev cX9_isHome : ByteArray := prog_11_method_62_code
def yX9_isHome : MethodName := ⟨RX9, "isHome", "()Z"⟩
abbrev cX9_best : ByteArray := prog_11_method_63_code
def yX9_best : MethodName := ⟨RX9, "best", "(II)I"⟩
abbrev cX9_worth : ByteArray := prog_11_method_64_code
def yX9_worth : MethodName := ⟨RX9, "worth", "(II)I"⟩
abbrev cX9_lack : ByteArray := prog_11_method_65_code
def yX9_lack : MethodName := ⟨RX9, "lack", "(I)I"⟩
abbrev cX9_bestOf : ByteArray := prog_11_method_66_code
def yX9_bestOf : MethodName := ⟨RX9, "bestOf", "(IIII)I"⟩
abbrev cX9_crew : ByteArray := prog_11_method_67_code
def yX9_crew : MethodName := ⟨RX9, "crew", "(I)I"⟩
abbrev cX9_where : ByteArray := prog_11_method_68_code
def yX9_where : MethodName := ⟨RX9, "where", "(I)I"⟩
abbrev cX9_latest : ByteArray := prog_11_method_69_code
def yX9_latest : MethodName := ⟨RX9, "latest", "(I)I"⟩
abbrev cX9_movedBy : ByteArray := prog_11_method_70_code
def yX9_movedBy : MethodName := ⟨RX9, "movedBy", "(II)I"⟩
abbrev cX9_rate : ByteArray := prog_11_method_71_code
def yX9_rate : MethodName := ⟨RX9, "rate", "(III)I"⟩
abbrev cX9_waits : ByteArray := prog_11_method_72_code
def yX9_waits : MethodName := ⟨RX9, "waits", "(II)I"⟩
abbrev cX9_part : ByteArray := prog_11_method_73_code
def yX9_part : MethodName := ⟨RX9, "part", "(I)J"⟩
abbrev cX9_image : ByteArray := prog_11_method_74_code
def yX9_image : MethodName := ⟨RX9, "image", "(I)I"⟩
abbrev cX9_from : ByteArray := prog_11_method_75_code
def yX9_from : MethodName := ⟨RX9, "from", "(I)I"⟩
abbrev cX9_count : ByteArray := prog_11_method_76_code
def yX9_count : MethodName := ⟨RX9, "count", "(I)I"⟩
abbrev cX9_sums : ByteArray := prog_11_method_77_code
def yX9_sums : MethodName := ⟨RX9, "sums", "(JII)J"⟩
abbrev cX9_digest : ByteArray := prog_11_method_78_code
def yX9_digest : MethodName := ⟨RX9, "digest", "()J"⟩
def RJ9 : String := "java/lang/Math"
abbrev cJ9_max_7cf53 : ByteArray := prog_12_method_65_code
def yJ9_max_7cf53 : MethodName := ⟨RJ9, "max", "(II)I"⟩
abbrev cJ9_max_f86c9 : ByteArray := prog_12_method_66_code
def yJ9_max_f86c9 : MethodName := ⟨RJ9, "max", "(JJ)J"⟩
def RJ0 : String := "java/lang/String"
abbrev cJ0_length_8abf5 : ByteArray := prog_13_method_54_code
def yJ0_length_8abf5 : MethodName := ⟨RJ0, "length", "()I"⟩
abbrev cJ0_charAt_5068e : ByteArray := prog_13_method_56_code
def yJ0_charAt_5068e : MethodName := ⟨RJ0, "charAt", "(I)C"⟩
abbrev cJ0_coder_7d493 : ByteArray := prog_13_method_152_code
def yJ0_coder_7d493 : MethodName := ⟨RJ0, "coder", "()B"⟩
abbrev cJ0_isLatin1_aae02 : ByteArray := prog_13_method_154_code
def yJ0_isLatin1_aae02 : MethodName := ⟨RJ0, "isLatin1", "()Z"⟩
abbrev cJ0_checkIndex_df160 : ByteArray := prog_13_method_155_code
def yJ0_checkIndex_df160 : MethodName := ⟨RJ0, "checkIndex", "(II)V"⟩
def RJ1 : String := "java/lang/StringLatin1"
abbrev cJ1_charAt_3b067 : ByteArray := prog_14_method_2_code
def yJ1_charAt_3b067 : MethodName := ⟨RJ1, "charAt", "([BI)C"⟩
def RJ2 : String := "java/lang/StringUTF16"
abbrev cJ2_getChar_3b067 : ByteArray := prog_15_method_5_code
def yJ2_getChar_3b067 : MethodName := ⟨RJ2, "getChar", "([BI)C"⟩
abbrev cJ2_length_9d52b : ByteArray := prog_15_method_6_code
def yJ2_length_9d52b : MethodName := ⟨RJ2, "length", "([B)I"⟩
abbrev cJ2_charAt_3b067 : ByteArray := prog_15_method_83_code
def yJ2_charAt_3b067 : MethodName := ⟨RJ2, "charAt", "([BI)C"⟩
abbrev cJ2_checkIndex_2214a : ByteArray := prog_15_method_91_code
def yJ2_checkIndex_2214a : MethodName := ⟨RJ2, "checkIndex", "(I[B)V"⟩
def RJ10 : String := "java/lang/System"
def RJ7 : String := "java/util/Arrays"
abbrev cJ7_fill_d0a16 : ByteArray := prog_17_method_101_code
def yJ7_fill_d0a16 : MethodName := ⟨RJ7, "fill", "([JJ)V"⟩
abbrev cJ7_fill_53178 : ByteArray := prog_17_method_103_code
def yJ7_fill_53178 : MethodName := ⟨RJ7, "fill", "([II)V"⟩
def RJ3 : String := "jdk/internal/util/Preconditions"
abbrev cJ3_checkIndex_8e157 : ByteArray := prog_18_method_11_code
def yJ3_checkIndex_8e157 : MethodName := ⟨RJ3, "checkIndex", "(IILjava/util/function/BiFunction;)I"⟩
def RL : String := "KnifeTradeLaw"
abbrev cL_law : ByteArray := code
def yL_law : MethodName := ⟨RL, "law", "([I)Z"⟩
abbrev vwCl : List vw_C := [(RX0, TX0, 2), (RX1, TX1, 8), (RX2, TX2, 5), (RX3, TX3, 7), (RX4, TX4, 4), (RX5, TX5, 3), (RX6, TX6, 2), (RX7, TX7, 10), (RX8, TX8, 8), (RX9, TX9, 34)]
