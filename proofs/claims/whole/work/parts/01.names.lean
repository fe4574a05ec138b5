-- ===== PART A: goes FIRST, ahead of the names: the tables' words, and 'selects' of the private methods out of them =====
/-- a private method of a class that the tables say can be made, by its rows of tables_1 -/
def lw_okq (q : MethodName × Nat) : Prop := (q.1.cls ≠ "java/lang/invoke/MethodHandle" ∧ q.1.cls ≠ "java/lang/invoke/VarHandle") ∧ Cond.instantiable q.1.cls q.2 ∈ tables_1 ∧ Cond.privateMethod q.1 ∈ tables_1 ∧ Cond.instanceMethod q.1 ∈ tables_1
theorem lw_p0 : lw_okq (⟨"PaddleRows", "recorded", "(I)I"⟩, 7) := ⟨⟨by decide +kernel, by decide +kernel⟩, List.mem_of_getElem? (i := 12) (by decide +kernel), List.mem_of_getElem? (i := 244) (by decide +kernel), List.mem_of_getElem? (i := 245) (by decide +kernel)⟩
theorem lw_p1 : lw_okq (⟨"PaddleRows", "peakWithPeriod", "(IIII)I"⟩, 7) := ⟨⟨by decide +kernel, by decide +kernel⟩, List.mem_of_getElem? (i := 12) (by decide +kernel), List.mem_of_getElem? (i := 464) (by decide +kernel), List.mem_of_getElem? (i := 465) (by decide +kernel)⟩
theorem lw_p2 : lw_okq (⟨"PaddleRows", "carryOrders", "()I"⟩, 7) := ⟨⟨by decide +kernel, by decide +kernel⟩, List.mem_of_getElem? (i := 12) (by decide +kernel), List.mem_of_getElem? (i := 540) (by decide +kernel), List.mem_of_getElem? (i := 541) (by decide +kernel)⟩
theorem lw_p3 : lw_okq (⟨"PaddleRows", "carryOneOrder", "()I"⟩, 7) := ⟨⟨by decide +kernel, by decide +kernel⟩, List.mem_of_getElem? (i := 12) (by decide +kernel), List.mem_of_getElem? (i := 545) (by decide +kernel), List.mem_of_getElem? (i := 546) (by decide +kernel)⟩
theorem lw_p4 : lw_okq (⟨"PaddleRowsModel", "record", "()V"⟩, 13) := ⟨⟨by decide +kernel, by decide +kernel⟩, List.mem_of_getElem? (i := 566) (by decide +kernel), List.mem_of_getElem? (i := 622) (by decide +kernel), List.mem_of_getElem? (i := 623) (by decide +kernel)⟩
theorem lw_p5 : lw_okq (⟨"PaddleRowsModel", "whyNoPaddle", "(IIIII)I"⟩, 13) := ⟨⟨by decide +kernel, by decide +kernel⟩, List.mem_of_getElem? (i := 566) (by decide +kernel), List.mem_of_getElem? (i := 633) (by decide +kernel), List.mem_of_getElem? (i := 634) (by decide +kernel)⟩
theorem lw_p6 : lw_okq (⟨"PaddleRowsModel", "rankIn", "(I)I"⟩, 13) := ⟨⟨by decide +kernel, by decide +kernel⟩, List.mem_of_getElem? (i := 566) (by decide +kernel), List.mem_of_getElem? (i := 637) (by decide +kernel), List.mem_of_getElem? (i := 638) (by decide +kernel)⟩
theorem lw_p7 : lw_okq (⟨"PaddleRowsModel", "paddlePart", "(II)I"⟩, 13) := ⟨⟨by decide +kernel, by decide +kernel⟩, List.mem_of_getElem? (i := 566) (by decide +kernel), List.mem_of_getElem? (i := 641) (by decide +kernel), List.mem_of_getElem? (i := 642) (by decide +kernel)⟩
theorem lw_p8 : lw_okq (⟨"PaddleRowsModel", "puts", "(IIIII)V"⟩, 13) := ⟨⟨by decide +kernel, by decide +kernel⟩, List.mem_of_getElem? (i := 566) (by decide +kernel), List.mem_of_getElem? (i := 645) (by decide +kernel), List.mem_of_getElem? (i := 646) (by decide +kernel)⟩
theorem lw_p9 : lw_okq (⟨"PaddleRowsModel", "lifts", "(I)V"⟩, 13) := ⟨⟨by decide +kernel, by decide +kernel⟩, List.mem_of_getElem? (i := 566) (by decide +kernel), List.mem_of_getElem? (i := 649) (by decide +kernel), List.mem_of_getElem? (i := 650) (by decide +kernel)⟩
theorem lw_p10 : lw_okq (⟨"PaddleRowsModel", "setPaddle", "(III)V"⟩, 13) := ⟨⟨by decide +kernel, by decide +kernel⟩, List.mem_of_getElem? (i := 566) (by decide +kernel), List.mem_of_getElem? (i := 653) (by decide +kernel), List.mem_of_getElem? (i := 654) (by decide +kernel)⟩
theorem lw_p11 : lw_okq (⟨"PaddleRowsModel", "whyNoGauge", "(I)I"⟩, 13) := ⟨⟨by decide +kernel, by decide +kernel⟩, List.mem_of_getElem? (i := 566) (by decide +kernel), List.mem_of_getElem? (i := 669) (by decide +kernel), List.mem_of_getElem? (i := 670) (by decide +kernel)⟩
theorem lw_p12 : lw_okq (⟨"PaddleRowsModel", "comesGauge", "(I)I"⟩, 13) := ⟨⟨by decide +kernel, by decide +kernel⟩, List.mem_of_getElem? (i := 566) (by decide +kernel), List.mem_of_getElem? (i := 676) (by decide +kernel), List.mem_of_getElem? (i := 677) (by decide +kernel)⟩
theorem lw_p13 : lw_okq (⟨"PaddleRowsModel", "levelOf", "(I)I"⟩, 13) := ⟨⟨by decide +kernel, by decide +kernel⟩, List.mem_of_getElem? (i := 566) (by decide +kernel), List.mem_of_getElem? (i := 684) (by decide +kernel), List.mem_of_getElem? (i := 685) (by decide +kernel)⟩
theorem lw_p14 : lw_okq (⟨"PaddleRowsModel", "whyNotPassed", "(I)I"⟩, 13) := ⟨⟨by decide +kernel, by decide +kernel⟩, List.mem_of_getElem? (i := 566) (by decide +kernel), List.mem_of_getElem? (i := 692) (by decide +kernel), List.mem_of_getElem? (i := 693) (by decide +kernel)⟩
theorem lw_p15 : lw_okq (⟨"PaddleRowsModel", "passes", "(I)I"⟩, 13) := ⟨⟨by decide +kernel, by decide +kernel⟩, List.mem_of_getElem? (i := 566) (by decide +kernel), List.mem_of_getElem? (i := 697) (by decide +kernel), List.mem_of_getElem? (i := 698) (by decide +kernel)⟩
def lw_privs_1 : List (MethodName × Nat) := [(⟨"PaddleRows", "recorded", "(I)I"⟩, 7), (⟨"PaddleRows", "peakWithPeriod", "(IIII)I"⟩, 7), (⟨"PaddleRows", "carryOrders", "()I"⟩, 7), (⟨"PaddleRows", "carryOneOrder", "()I"⟩, 7), (⟨"PaddleRowsModel", "record", "()V"⟩, 13), (⟨"PaddleRowsModel", "whyNoPaddle", "(IIIII)I"⟩, 13), (⟨"PaddleRowsModel", "rankIn", "(I)I"⟩, 13), (⟨"PaddleRowsModel", "paddlePart", "(II)I"⟩, 13), (⟨"PaddleRowsModel", "puts", "(IIIII)V"⟩, 13), (⟨"PaddleRowsModel", "lifts", "(I)V"⟩, 13), (⟨"PaddleRowsModel", "setPaddle", "(III)V"⟩, 13), (⟨"PaddleRowsModel", "whyNoGauge", "(I)I"⟩, 13), (⟨"PaddleRowsModel", "comesGauge", "(I)I"⟩, 13), (⟨"PaddleRowsModel", "levelOf", "(I)I"⟩, 13), (⟨"PaddleRowsModel", "whyNotPassed", "(I)I"⟩, 13), (⟨"PaddleRowsModel", "passes", "(I)I"⟩, 13)]
theorem lw_r1 : ∀ q ∈ lw_privs_1, lw_okq q := List.forall_mem_cons.mpr ⟨lw_p0, List.forall_mem_cons.mpr ⟨lw_p1, List.forall_mem_cons.mpr ⟨lw_p2, List.forall_mem_cons.mpr ⟨lw_p3, List.forall_mem_cons.mpr ⟨lw_p4, List.forall_mem_cons.mpr ⟨lw_p5, List.forall_mem_cons.mpr ⟨lw_p6, List.forall_mem_cons.mpr ⟨lw_p7, List.forall_mem_cons.mpr ⟨lw_p8, List.forall_mem_cons.mpr ⟨lw_p9, List.forall_mem_cons.mpr ⟨lw_p10, List.forall_mem_cons.mpr ⟨lw_p11, List.forall_mem_cons.mpr ⟨lw_p12, List.forall_mem_cons.mpr ⟨lw_p13, List.forall_mem_cons.mpr ⟨lw_p14, List.forall_mem_cons.mpr ⟨lw_p15, fun _ h => absurd h List.not_mem_nil⟩⟩⟩⟩⟩⟩⟩⟩⟩⟩⟩⟩⟩⟩⟩⟩
theorem lw_p16 : lw_okq (⟨"PaddleRowsModel", "step", "()I"⟩, 13) := ⟨⟨by decide +kernel, by decide +kernel⟩, List.mem_of_getElem? (i := 566) (by decide +kernel), List.mem_of_getElem? (i := 701) (by decide +kernel), List.mem_of_getElem? (i := 702) (by decide +kernel)⟩
theorem lw_p17 : lw_okq (⟨"PaddleRowsModel", "pushAll", "()I"⟩, 13) := ⟨⟨by decide +kernel, by decide +kernel⟩, List.mem_of_getElem? (i := 566) (by decide +kernel), List.mem_of_getElem? (i := 705) (by decide +kernel), List.mem_of_getElem? (i := 706) (by decide +kernel)⟩
theorem lw_p18 : lw_okq (⟨"PaddleRowsModel", "push", "(I)I"⟩, 13) := ⟨⟨by decide +kernel, by decide +kernel⟩, List.mem_of_getElem? (i := 566) (by decide +kernel), List.mem_of_getElem? (i := 712) (by decide +kernel), List.mem_of_getElem? (i := 713) (by decide +kernel)⟩
theorem lw_p19 : lw_okq (⟨"PaddleRowsModel", "swing", "()V"⟩, 13) := ⟨⟨by decide +kernel, by decide +kernel⟩, List.mem_of_getElem? (i := 566) (by decide +kernel), List.mem_of_getElem? (i := 716) (by decide +kernel), List.mem_of_getElem? (i := 717) (by decide +kernel)⟩
theorem lw_p20 : lw_okq (⟨"PaddleRowsModel", "beach", "()V"⟩, 13) := ⟨⟨by decide +kernel, by decide +kernel⟩, List.mem_of_getElem? (i := 566) (by decide +kernel), List.mem_of_getElem? (i := 723) (by decide +kernel), List.mem_of_getElem? (i := 724) (by decide +kernel)⟩
theorem lw_p21 : lw_okq (⟨"PaddleRowsModel", "note", "()V"⟩, 13) := ⟨⟨by decide +kernel, by decide +kernel⟩, List.mem_of_getElem? (i := 566) (by decide +kernel), List.mem_of_getElem? (i := 727) (by decide +kernel), List.mem_of_getElem? (i := 728) (by decide +kernel)⟩
theorem lw_p22 : lw_okq (⟨"PaddleRowsModel", "isCrest", "(I)Z"⟩, 13) := ⟨⟨by decide +kernel, by decide +kernel⟩, List.mem_of_getElem? (i := 566) (by decide +kernel), List.mem_of_getElem? (i := 735) (by decide +kernel), List.mem_of_getElem? (i := 736) (by decide +kernel)⟩
theorem lw_p23 : lw_okq (⟨"PaddleRowsModel", "isTrough", "(I)Z"⟩, 13) := ⟨⟨by decide +kernel, by decide +kernel⟩, List.mem_of_getElem? (i := 566) (by decide +kernel), List.mem_of_getElem? (i := 739) (by decide +kernel), List.mem_of_getElem? (i := 740) (by decide +kernel)⟩
theorem lw_p24 : lw_okq (⟨"PaddleRowsModel", "isRank", "(I)Z"⟩, 13) := ⟨⟨by decide +kernel, by decide +kernel⟩, List.mem_of_getElem? (i := 566) (by decide +kernel), List.mem_of_getElem? (i := 747) (by decide +kernel), List.mem_of_getElem? (i := 748) (by decide +kernel)⟩
theorem lw_p25 : lw_okq (⟨"PaddleRowsModel", "isGauge", "(I)Z"⟩, 13) := ⟨⟨by decide +kernel, by decide +kernel⟩, List.mem_of_getElem? (i := 566) (by decide +kernel), List.mem_of_getElem? (i := 755) (by decide +kernel), List.mem_of_getElem? (i := 756) (by decide +kernel)⟩
theorem lw_p26 : lw_okq (⟨"PaddleRowsModel", "gaugePart", "(II)I"⟩, 13) := ⟨⟨by decide +kernel, by decide +kernel⟩, List.mem_of_getElem? (i := 566) (by decide +kernel), List.mem_of_getElem? (i := 759) (by decide +kernel), List.mem_of_getElem? (i := 760) (by decide +kernel)⟩
theorem lw_p27 : lw_okq (⟨"PaddleRowsModel", "extreme", "(IZ)I"⟩, 13) := ⟨⟨by decide +kernel, by decide +kernel⟩, List.mem_of_getElem? (i := 566) (by decide +kernel), List.mem_of_getElem? (i := 763) (by decide +kernel), List.mem_of_getElem? (i := 764) (by decide +kernel)⟩
theorem lw_p28 : lw_okq (⟨"PaddleRowsModel", "risings", "(I)I"⟩, 13) := ⟨⟨by decide +kernel, by decide +kernel⟩, List.mem_of_getElem? (i := 566) (by decide +kernel), List.mem_of_getElem? (i := 767) (by decide +kernel), List.mem_of_getElem? (i := 768) (by decide +kernel)⟩
theorem lw_p29 : lw_okq (⟨"PaddleRowsModel", "isPlace", "(II)Z"⟩, 13) := ⟨⟨by decide +kernel, by decide +kernel⟩, List.mem_of_getElem? (i := 566) (by decide +kernel), List.mem_of_getElem? (i := 780) (by decide +kernel), List.mem_of_getElem? (i := 781) (by decide +kernel)⟩
theorem lw_p30 : lw_okq (⟨"PaddleRowsModel", "stopped", "()I"⟩, 13) := ⟨⟨by decide +kernel, by decide +kernel⟩, List.mem_of_getElem? (i := 566) (by decide +kernel), List.mem_of_getElem? (i := 788) (by decide +kernel), List.mem_of_getElem? (i := 789) (by decide +kernel)⟩
theorem lw_p31 : lw_okq (⟨"PaddleRowsModel", "sumOfLevels", "()I"⟩, 13) := ⟨⟨by decide +kernel, by decide +kernel⟩, List.mem_of_getElem? (i := 566) (by decide +kernel), List.mem_of_getElem? (i := 792) (by decide +kernel), List.mem_of_getElem? (i := 793) (by decide +kernel)⟩
def lw_privs_2 : List (MethodName × Nat) := [(⟨"PaddleRowsModel", "step", "()I"⟩, 13), (⟨"PaddleRowsModel", "pushAll", "()I"⟩, 13), (⟨"PaddleRowsModel", "push", "(I)I"⟩, 13), (⟨"PaddleRowsModel", "swing", "()V"⟩, 13), (⟨"PaddleRowsModel", "beach", "()V"⟩, 13), (⟨"PaddleRowsModel", "note", "()V"⟩, 13), (⟨"PaddleRowsModel", "isCrest", "(I)Z"⟩, 13), (⟨"PaddleRowsModel", "isTrough", "(I)Z"⟩, 13), (⟨"PaddleRowsModel", "isRank", "(I)Z"⟩, 13), (⟨"PaddleRowsModel", "isGauge", "(I)Z"⟩, 13), (⟨"PaddleRowsModel", "gaugePart", "(II)I"⟩, 13), (⟨"PaddleRowsModel", "extreme", "(IZ)I"⟩, 13), (⟨"PaddleRowsModel", "risings", "(I)I"⟩, 13), (⟨"PaddleRowsModel", "isPlace", "(II)Z"⟩, 13), (⟨"PaddleRowsModel", "stopped", "()I"⟩, 13), (⟨"PaddleRowsModel", "sumOfLevels", "()I"⟩, 13)]
theorem lw_r2 : ∀ q ∈ lw_privs_2, lw_okq q := List.forall_mem_cons.mpr ⟨lw_p16, List.forall_mem_cons.mpr ⟨lw_p17, List.forall_mem_cons.mpr ⟨lw_p18, List.forall_mem_cons.mpr ⟨lw_p19, List.forall_mem_cons.mpr ⟨lw_p20, List.forall_mem_cons.mpr ⟨lw_p21, List.forall_mem_cons.mpr ⟨lw_p22, List.forall_mem_cons.mpr ⟨lw_p23, List.forall_mem_cons.mpr ⟨lw_p24, List.forall_mem_cons.mpr ⟨lw_p25, List.forall_mem_cons.mpr ⟨lw_p26, List.forall_mem_cons.mpr ⟨lw_p27, List.forall_mem_cons.mpr ⟨lw_p28, List.forall_mem_cons.mpr ⟨lw_p29, List.forall_mem_cons.mpr ⟨lw_p30, List.forall_mem_cons.mpr ⟨lw_p31, fun _ h => absurd h List.not_mem_nil⟩⟩⟩⟩⟩⟩⟩⟩⟩⟩⟩⟩⟩⟩⟩⟩
theorem lw_p32 : lw_okq (⟨"PaddleRowsModel", "swings", "()I"⟩, 13) := ⟨⟨by decide +kernel, by decide +kernel⟩, List.mem_of_getElem? (i := 566) (by decide +kernel), List.mem_of_getElem? (i := 797) (by decide +kernel), List.mem_of_getElem? (i := 798) (by decide +kernel)⟩
theorem lw_p33 : lw_okq (⟨"PaddleRowsModel", "greatest", "()I"⟩, 13) := ⟨⟨by decide +kernel, by decide +kernel⟩, List.mem_of_getElem? (i := 566) (by decide +kernel), List.mem_of_getElem? (i := 801) (by decide +kernel), List.mem_of_getElem? (i := 802) (by decide +kernel)⟩
theorem lw_p34 : lw_okq (⟨"PaddleRowsModel", "lastSwung", "()I"⟩, 13) := ⟨⟨by decide +kernel, by decide +kernel⟩, List.mem_of_getElem? (i := 566) (by decide +kernel), List.mem_of_getElem? (i := 805) (by decide +kernel), List.mem_of_getElem? (i := 806) (by decide +kernel)⟩
theorem lw_p35 : lw_okq (⟨"PaddleRowsModel", "findFault", "()I"⟩, 13) := ⟨⟨by decide +kernel, by decide +kernel⟩, List.mem_of_getElem? (i := 566) (by decide +kernel), List.mem_of_getElem? (i := 834) (by decide +kernel), List.mem_of_getElem? (i := 835) (by decide +kernel)⟩
theorem lw_p36 : lw_okq (⟨"PaddleRowsModel", "readsOrder", "()Z"⟩, 13) := ⟨⟨by decide +kernel, by decide +kernel⟩, List.mem_of_getElem? (i := 566) (by decide +kernel), List.mem_of_getElem? (i := 838) (by decide +kernel), List.mem_of_getElem? (i := 839) (by decide +kernel)⟩
theorem lw_p37 : lw_okq (⟨"PaddleRowsModel", "character", "(I)I"⟩, 13) := ⟨⟨by decide +kernel, by decide +kernel⟩, List.mem_of_getElem? (i := 566) (by decide +kernel), List.mem_of_getElem? (i := 842) (by decide +kernel), List.mem_of_getElem? (i := 843) (by decide +kernel)⟩
theorem lw_p38 : lw_okq (⟨"PaddleRowsModel", "takesRecipe", "()Z"⟩, 13) := ⟨⟨by decide +kernel, by decide +kernel⟩, List.mem_of_getElem? (i := 566) (by decide +kernel), List.mem_of_getElem? (i := 846) (by decide +kernel), List.mem_of_getElem? (i := 847) (by decide +kernel)⟩
theorem lw_p39 : lw_okq (⟨"PaddleRowsModel", "takesNumber", "(I)Z"⟩, 13) := ⟨⟨by decide +kernel, by decide +kernel⟩, List.mem_of_getElem? (i := 566) (by decide +kernel), List.mem_of_getElem? (i := 850) (by decide +kernel), List.mem_of_getElem? (i := 851) (by decide +kernel)⟩
theorem lw_p40 : lw_okq (⟨"PaddleRowsModel", "isDigit", "()Z"⟩, 13) := ⟨⟨by decide +kernel, by decide +kernel⟩, List.mem_of_getElem? (i := 566) (by decide +kernel), List.mem_of_getElem? (i := 854) (by decide +kernel), List.mem_of_getElem? (i := 855) (by decide +kernel)⟩
theorem lw_p41 : lw_okq (⟨"PaddleRowsModel", "takesSort", "()Z"⟩, 13) := ⟨⟨by decide +kernel, by decide +kernel⟩, List.mem_of_getElem? (i := 566) (by decide +kernel), List.mem_of_getElem? (i := 858) (by decide +kernel), List.mem_of_getElem? (i := 859) (by decide +kernel)⟩
theorem lw_p42 : lw_okq (⟨"PaddleRowsModel", "takesValue", "()Z"⟩, 13) := ⟨⟨by decide +kernel, by decide +kernel⟩, List.mem_of_getElem? (i := 566) (by decide +kernel), List.mem_of_getElem? (i := 862) (by decide +kernel), List.mem_of_getElem? (i := 863) (by decide +kernel)⟩
theorem lw_p43 : lw_okq (⟨"PaddleRowsModel", "isNext", "(I)Z"⟩, 13) := ⟨⟨by decide +kernel, by decide +kernel⟩, List.mem_of_getElem? (i := 566) (by decide +kernel), List.mem_of_getElem? (i := 866) (by decide +kernel), List.mem_of_getElem? (i := 867) (by decide +kernel)⟩
theorem lw_p44 : lw_okq (⟨"PaddleRowsModel", "canDo", "()Z"⟩, 13) := ⟨⟨by decide +kernel, by decide +kernel⟩, List.mem_of_getElem? (i := 566) (by decide +kernel), List.mem_of_getElem? (i := 874) (by decide +kernel), List.mem_of_getElem? (i := 875) (by decide +kernel)⟩
theorem lw_p45 : lw_okq (⟨"PaddleRowsModel", "does", "()V"⟩, 13) := ⟨⟨by decide +kernel, by decide +kernel⟩, List.mem_of_getElem? (i := 566) (by decide +kernel), List.mem_of_getElem? (i := 878) (by decide +kernel), List.mem_of_getElem? (i := 879) (by decide +kernel)⟩
def lw_privs_3 : List (MethodName × Nat) := [(⟨"PaddleRowsModel", "swings", "()I"⟩, 13), (⟨"PaddleRowsModel", "greatest", "()I"⟩, 13), (⟨"PaddleRowsModel", "lastSwung", "()I"⟩, 13), (⟨"PaddleRowsModel", "findFault", "()I"⟩, 13), (⟨"PaddleRowsModel", "readsOrder", "()Z"⟩, 13), (⟨"PaddleRowsModel", "character", "(I)I"⟩, 13), (⟨"PaddleRowsModel", "takesRecipe", "()Z"⟩, 13), (⟨"PaddleRowsModel", "takesNumber", "(I)Z"⟩, 13), (⟨"PaddleRowsModel", "isDigit", "()Z"⟩, 13), (⟨"PaddleRowsModel", "takesSort", "()Z"⟩, 13), (⟨"PaddleRowsModel", "takesValue", "()Z"⟩, 13), (⟨"PaddleRowsModel", "isNext", "(I)Z"⟩, 13), (⟨"PaddleRowsModel", "canDo", "()Z"⟩, 13), (⟨"PaddleRowsModel", "does", "()V"⟩, 13)]
theorem lw_r3 : ∀ q ∈ lw_privs_3, lw_okq q := List.forall_mem_cons.mpr ⟨lw_p32, List.forall_mem_cons.mpr ⟨lw_p33, List.forall_mem_cons.mpr ⟨lw_p34, List.forall_mem_cons.mpr ⟨lw_p35, List.forall_mem_cons.mpr ⟨lw_p36, List.forall_mem_cons.mpr ⟨lw_p37, List.forall_mem_cons.mpr ⟨lw_p38, List.forall_mem_cons.mpr ⟨lw_p39, List.forall_mem_cons.mpr ⟨lw_p40, List.forall_mem_cons.mpr ⟨lw_p41, List.forall_mem_cons.mpr ⟨lw_p42, List.forall_mem_cons.mpr ⟨lw_p43, List.forall_mem_cons.mpr ⟨lw_p44, List.forall_mem_cons.mpr ⟨lw_p45, fun _ h => absurd h List.not_mem_nil⟩⟩⟩⟩⟩⟩⟩⟩⟩⟩⟩⟩⟩⟩
def lw_privs : List (MethodName × Nat) := lw_privs_1 ++ (lw_privs_2 ++ (lw_privs_3))
def lw_tbl : List Cond := k2_sels lw_privs ++ tables_1
theorem lw_privs_ok : ∀ q ∈ lw_privs, lw_okq q := by
  show ∀ q ∈ lw_privs_1 ++ (lw_privs_2 ++ (lw_privs_3)), lw_okq q
  exact List.forall_mem_append.mpr ⟨lw_r1, List.forall_mem_append.mpr ⟨lw_r2, lw_r3⟩⟩
-- ===== end of PART A
/-! names (out of claim/NAMES.whole.lean.txt: its head of names and its decode rows) -/
def RX0 : String := "PaddleRows$Gauge"
def TX0 : u_T := fun k => match k with
  | 0 => ("PaddleRows$Gauge", "notes", "[I", true)
  | 1 => ("PaddleRows$Gauge", "cell", "I", false)
  | 2 => ("PaddleRows$Gauge", "known", "I", false)
  | _ => ("PaddleRows$Gauge", "next", "I", false)
def tyX0 : Nat → FieldType := fun k => match k with
  | 0 => .array .int
  | 1 => .int
  | 2 => .int
  | _ => .int
theorem nmX0 : ∀ a, a < 4 → ∀ b, b < 4 → a ≠ b → (TX0 a).2.1 ≠ (TX0 b).2.1 := by decide +kernel
theorem tyX0_ok : ∀ k, k < 4 → parseFieldDescriptor (TX0 k).2.2.1 = some (tyX0 k) := by decide +kernel
abbrev cX0_init : ByteArray := prog_2_method_1_code
def yX0_init : MethodName := ⟨RX0, "<init>", "()V"⟩
abbrev cX0_copyFrom : ByteArray := prog_2_method_2_code
def yX0_copyFrom : MethodName := ⟨RX0, "copyFrom", "(LPaddleRows$Gauge;)V"⟩
abbrev cX0_startIn : ByteArray := prog_2_method_3_code
def yX0_startIn : MethodName := ⟨RX0, "startIn", "(I)V"⟩
abbrev cX0_note : ByteArray := prog_2_method_4_code
def yX0_note : MethodName := ⟨RX0, "note", "(I)V"⟩
abbrev cX0_levelAgo : ByteArray := prog_2_method_5_code
def yX0_levelAgo : MethodName := ⟨RX0, "levelAgo", "(I)I"⟩
abbrev cX0_greatest : ByteArray := prog_2_method_6_code
def yX0_greatest : MethodName := ⟨RX0, "greatest", "()I"⟩
abbrev cX0_least : ByteArray := prog_2_method_7_code
def yX0_least : MethodName := ⟨RX0, "least", "()I"⟩
abbrev cX0_rises : ByteArray := prog_2_method_8_code
def yX0_rises : MethodName := ⟨RX0, "rises", "()I"⟩
def RX1 : String := "PaddleRows$History"
def TX1 : u_T := fun k => match k with
  | 0 => ("PaddleRows$History", "states", "[LPaddleRows$Tank;", true)
  | _ => ("PaddleRows$History", "size", "I", false)
def tyX1 : Nat → FieldType := fun k => match k with
  | 0 => .array (.object "PaddleRows$Tank")
  | _ => .int
theorem nmX1 : ∀ a, a < 2 → ∀ b, b < 2 → a ≠ b → (TX1 a).2.1 ≠ (TX1 b).2.1 := by decide +kernel
theorem tyX1_ok : ∀ k, k < 2 → parseFieldDescriptor (TX1 k).2.2.1 = some (tyX1 k) := by decide +kernel
abbrev cX1_init : ByteArray := prog_3_method_1_code
def yX1_init : MethodName := ⟨RX1, "<init>", "()V"⟩
abbrev cX1_push : ByteArray := prog_3_method_2_code
def yX1_push : MethodName := ⟨RX1, "push", "(LPaddleRows$Tank;)V"⟩
abbrev cX1_dropOldest : ByteArray := prog_3_method_3_code
def yX1_dropOldest : MethodName := ⟨RX1, "dropOldest", "()V"⟩
abbrev cX1_popInto : ByteArray := prog_3_method_4_code
def yX1_popInto : MethodName := ⟨RX1, "popInto", "(LPaddleRows$Tank;)V"⟩
def RX2 : String := "PaddleRows$Pad"
def TX2 : u_T := fun k => match k with
  | 0 => ("PaddleRows$Pad", "signs", "[C", true)
  | 1 => ("PaddleRows$Pad", "length", "I", false)
  | 2 => ("PaddleRows$Pad", "at", "I", false)
  | 3 => ("PaddleRows$Pad", "kind", "I", false)
  | 4 => ("PaddleRows$Pad", "target", "I", false)
  | 5 => ("PaddleRows$Pad", "sort", "I", false)
  | 6 => ("PaddleRows$Pad", "value", "I", false)
  | 7 => ("PaddleRows$Pad", "period", "I", false)
  | _ => ("PaddleRows$Pad", "phase", "I", false)
def tyX2 : Nat → FieldType := fun k => match k with
  | 0 => .array .char
  | 1 => .int
  | 2 => .int
  | 3 => .int
  | 4 => .int
  | 5 => .int
  | 6 => .int
  | 7 => .int
  | _ => .int
theorem nmX2 : ∀ a, a < 9 → ∀ b, b < 9 → a ≠ b → (TX2 a).2.1 ≠ (TX2 b).2.1 := by decide +kernel
theorem tyX2_ok : ∀ k, k < 9 → parseFieldDescriptor (TX2 k).2.2.1 = some (tyX2 k) := by decide +kernel
abbrev cX2_init : ByteArray := prog_4_method_1_code
def yX2_init : MethodName := ⟨RX2, "<init>", "()V"⟩
abbrev cX2_append : ByteArray := prog_4_method_2_code
def yX2_append : MethodName := ⟨RX2, "append", "(J)I"⟩
abbrev cX2_countOf : ByteArray := prog_4_method_3_code
def yX2_countOf : MethodName := ⟨RX2, "countOf", "(J)I"⟩
abbrev cX2_findFault : ByteArray := prog_4_method_4_code
def yX2_findFault : MethodName := ⟨RX2, "findFault", "()I"⟩
abbrev cX2_readOrder : ByteArray := prog_4_method_5_code
def yX2_readOrder : MethodName := ⟨RX2, "readOrder", "()Z"⟩
abbrev cX2_readPaddle : ByteArray := prog_4_method_6_code
def yX2_readPaddle : MethodName := ⟨RX2, "readPaddle", "()Z"⟩
abbrev cX2_readTarget : ByteArray := prog_4_method_7_code
def yX2_readTarget : MethodName := ⟨RX2, "readTarget", "()Z"⟩
abbrev cX2_readSort : ByteArray := prog_4_method_8_code
def yX2_readSort : MethodName := ⟨RX2, "readSort", "()Z"⟩
abbrev cX2_readValue : ByteArray := prog_4_method_9_code
def yX2_readValue : MethodName := ⟨RX2, "readValue", "()Z"⟩
abbrev cX2_readNumber : ByteArray := prog_4_method_10_code
def yX2_readNumber : MethodName := ⟨RX2, "readNumber", "()I"⟩
abbrev cX2_isDigitHere : ByteArray := prog_4_method_11_code
def yX2_isDigitHere : MethodName := ⟨RX2, "isDigitHere", "()Z"⟩
abbrev cX2_accept : ByteArray := prog_4_method_12_code
def yX2_accept : MethodName := ⟨RX2, "accept", "(C)Z"⟩
abbrev cX2_signHere : ByteArray := prog_4_method_13_code
def yX2_signHere : MethodName := ⟨RX2, "signHere", "()I"⟩
def RX3 : String := "PaddleRows$Paddle"
def TX3 : u_T := fun k => match k with
  | 0 => ("PaddleRows$Paddle", "cell", "I", false)
  | 1 => ("PaddleRows$Paddle", "sort", "I", false)
  | 2 => ("PaddleRows$Paddle", "height", "I", false)
  | 3 => ("PaddleRows$Paddle", "period", "I", false)
  | 4 => ("PaddleRows$Paddle", "phase", "I", false)
  | _ => ("PaddleRows$Paddle", "goes", "Z", false)
def tyX3 : Nat → FieldType := fun k => match k with
  | 0 => .int
  | 1 => .int
  | 2 => .int
  | 3 => .int
  | 4 => .int
  | _ => .boolean
theorem nmX3 : ∀ a, a < 6 → ∀ b, b < 6 → a ≠ b → (TX3 a).2.1 ≠ (TX3 b).2.1 := by decide +kernel
theorem tyX3_ok : ∀ k, k < 6 → parseFieldDescriptor (TX3 k).2.2.1 = some (tyX3 k) := by decide +kernel
abbrev cX3_init : ByteArray := prog_5_method_1_code
def yX3_init : MethodName := ⟨RX3, "<init>", "()V"⟩
abbrev cX3_copyFrom : ByteArray := prog_5_method_2_code
def yX3_copyFrom : MethodName := ⟨RX3, "copyFrom", "(LPaddleRows$Paddle;)V"⟩
abbrev cX3_isRecipe : ByteArray := prog_5_method_3_code
def yX3_isRecipe : MethodName := ⟨RX3, "isRecipe", "(IIII)Z"⟩
abbrev cX3_pushAt : ByteArray := prog_5_method_4_code
def yX3_pushAt : MethodName := ⟨RX3, "pushAt", "(I)I"⟩
def RX4 : String := "PaddleRows$Tank"
def TX4 : u_T := fun k => match k with
  | 0 => ("PaddleRows$Tank", "settings", "[I", true)
  | 1 => ("PaddleRows$Tank", "levels", "[I", true)
  | 2 => ("PaddleRows$Tank", "speeds", "[I", true)
  | 3 => ("PaddleRows$Tank", "paddles", "[LPaddleRows$Paddle;", true)
  | 4 => ("PaddleRows$Tank", "gauges", "[LPaddleRows$Gauge;", true)
  | 5 => ("PaddleRows$Tank", "paddleCount", "I", false)
  | 6 => ("PaddleRows$Tank", "gaugeCount", "I", false)
  | _ => ("PaddleRows$Tank", "steps", "I", false)
def tyX4 : Nat → FieldType := fun k => match k with
  | 0 => .array .int
  | 1 => .array .int
  | 2 => .array .int
  | 3 => .array (.object "PaddleRows$Paddle")
  | 4 => .array (.object "PaddleRows$Gauge")
  | 5 => .int
  | 6 => .int
  | _ => .int
theorem nmX4 : ∀ a, a < 8 → ∀ b, b < 8 → a ≠ b → (TX4 a).2.1 ≠ (TX4 b).2.1 := by decide +kernel
theorem tyX4_ok : ∀ k, k < 8 → parseFieldDescriptor (TX4 k).2.2.1 = some (tyX4 k) := by decide +kernel
abbrev cX4_init : ByteArray := prog_6_method_1_code
def yX4_init : MethodName := ⟨RX4, "<init>", "()V"⟩
abbrev cX4_copyFrom : ByteArray := prog_6_method_2_code
def yX4_copyFrom : MethodName := ⟨RX4, "copyFrom", "(LPaddleRows$Tank;)V"⟩
abbrev cX4_changeSetting : ByteArray := prog_6_method_3_code
def yX4_changeSetting : MethodName := ⟨RX4, "changeSetting", "(II)I"⟩
abbrev cX4_placePaddle : ByteArray := prog_6_method_4_code
def yX4_placePaddle : MethodName := ⟨RX4, "placePaddle", "(IIIII)I"⟩
abbrev cX4_rankIn : ByteArray := prog_6_method_5_code
def yX4_rankIn : MethodName := ⟨RX4, "rankIn", "(I)I"⟩
abbrev cX4_openRank : ByteArray := prog_6_method_6_code
def yX4_openRank : MethodName := ⟨RX4, "openRank", "(I)I"⟩
abbrev cX4_removePaddle : ByteArray := prog_6_method_7_code
def yX4_removePaddle : MethodName := ⟨RX4, "removePaddle", "(I)I"⟩
abbrev cX4_startPaddle : ByteArray := prog_6_method_8_code
def yX4_startPaddle : MethodName := ⟨RX4, "startPaddle", "(I)I"⟩
abbrev cX4_placeGauge : ByteArray := prog_6_method_9_code
def yX4_placeGauge : MethodName := ⟨RX4, "placeGauge", "(I)I"⟩
abbrev cX4_changeLevel : ByteArray := prog_6_method_10_code
def yX4_changeLevel : MethodName := ⟨RX4, "changeLevel", "(II)I"⟩
abbrev cX4_passSteps : ByteArray := prog_6_method_11_code
def yX4_passSteps : MethodName := ⟨RX4, "passSteps", "(I)I"⟩
abbrev cX4_step : ByteArray := prog_6_method_12_code
def yX4_step : MethodName := ⟨RX4, "step", "()I"⟩
abbrev cX4_movePaddles : ByteArray := prog_6_method_13_code
def yX4_movePaddles : MethodName := ⟨RX4, "movePaddles", "()I"⟩
abbrev cX4_moveWater : ByteArray := prog_6_method_14_code
def yX4_moveWater : MethodName := ⟨RX4, "moveWater", "()V"⟩
abbrev cX4_calmBeach : ByteArray := prog_6_method_15_code
def yX4_calmBeach : MethodName := ⟨RX4, "calmBeach", "()V"⟩
abbrev cX4_isCrest : ByteArray := prog_6_method_16_code
def yX4_isCrest : MethodName := ⟨RX4, "isCrest", "(I)Z"⟩
abbrev cX4_isTrough : ByteArray := prog_6_method_17_code
def yX4_isTrough : MethodName := ⟨RX4, "isTrough", "(I)Z"⟩
abbrev cX4_isCalm : ByteArray := prog_6_method_18_code
def yX4_isCalm : MethodName := ⟨RX4, "isCalm", "()Z"⟩
abbrev cX4_cellsThatAre : ByteArray := prog_6_method_19_code
def yX4_cellsThatAre : MethodName := ⟨RX4, "cellsThatAre", "(I)J"⟩
abbrev cX4_isPlace : ByteArray := prog_6_method_20_code
def yX4_isPlace : MethodName := ⟨RX4, "isPlace", "(II)Z"⟩
abbrev cX4_sumOfLevels : ByteArray := prog_6_method_21_code
def yX4_sumOfLevels : MethodName := ⟨RX4, "sumOfLevels", "()I"⟩
abbrev cX4_motion : ByteArray := prog_6_method_22_code
def yX4_motion : MethodName := ⟨RX4, "motion", "()I"⟩
abbrev cX4_farthestLevel : ByteArray := prog_6_method_23_code
def yX4_farthestLevel : MethodName := ⟨RX4, "farthestLevel", "()I"⟩
abbrev cX4_lastUnevenCell : ByteArray := prog_6_method_24_code
def yX4_lastUnevenCell : MethodName := ⟨RX4, "lastUnevenCell", "()I"⟩
def RX5 : String := "PaddleRows"
def TX5 : u_T := fun k => match k with
  | 0 => ("PaddleRows", "tank", "LPaddleRows$Tank;", true)
  | 1 => ("PaddleRows", "pad", "LPaddleRows$Pad;", true)
  | 2 => ("PaddleRows", "history", "LPaddleRows$History;", true)
  | 3 => ("PaddleRows", "slots", "[LPaddleRows$Tank;", true)
  | 4 => ("PaddleRows", "slotFilled", "[Z", true)
  | 5 => ("PaddleRows", "before", "LPaddleRows$Tank;", true)
  | _ => ("PaddleRows", "trial", "LPaddleRows$Tank;", true)
def tyX5 : Nat → FieldType := fun k => match k with
  | 0 => .object "PaddleRows$Tank"
  | 1 => .object "PaddleRows$Pad"
  | 2 => .object "PaddleRows$History"
  | 3 => .array (.object "PaddleRows$Tank")
  | 4 => .array .boolean
  | 5 => .object "PaddleRows$Tank"
  | _ => .object "PaddleRows$Tank"
theorem nmX5 : ∀ a, a < 7 → ∀ b, b < 7 → a ≠ b → (TX5 a).2.1 ≠ (TX5 b).2.1 := by decide +kernel
theorem tyX5_ok : ∀ k, k < 7 → parseFieldDescriptor (TX5 k).2.2.1 = some (tyX5 k) := by decide +kernel
abbrev cX5_init : ByteArray := prog_1_method_1_code
def yX5_init : MethodName := ⟨RX5, "<init>", "()V"⟩
abbrev cX5_set : ByteArray := prog_1_method_2_code
def yX5_set : MethodName := ⟨RX5, "set", "(II)I"⟩
abbrev cX5_paddle : ByteArray := prog_1_method_3_code
def yX5_paddle : MethodName := ⟨RX5, "paddle", "(IIIII)I"⟩
abbrev cX5_lift : ByteArray := prog_1_method_4_code
def yX5_lift : MethodName := ⟨RX5, "lift", "(I)I"⟩
abbrev cX5_again : ByteArray := prog_1_method_5_code
def yX5_again : MethodName := ⟨RX5, "again", "(I)I"⟩
abbrev cX5_gauge : ByteArray := prog_1_method_6_code
def yX5_gauge : MethodName := ⟨RX5, "gauge", "(I)I"⟩
abbrev cX5_level : ByteArray := prog_1_method_7_code
def yX5_level : MethodName := ⟨RX5, "level", "(II)I"⟩
abbrev cX5_pass : ByteArray := prog_1_method_8_code
def yX5_pass : MethodName := ⟨RX5, "pass", "(I)I"⟩
abbrev cX5_recorded : ByteArray := prog_1_method_9_code
def yX5_recorded : MethodName := ⟨RX5, "recorded", "(I)I"⟩
abbrev cX5_cell : ByteArray := prog_1_method_10_code
def yX5_cell : MethodName := ⟨RX5, "cell", "(II)I"⟩
abbrev cX5_ofPaddle : ByteArray := prog_1_method_11_code
def yX5_ofPaddle : MethodName := ⟨RX5, "ofPaddle", "(II)I"⟩
abbrev cX5_ofGauge : ByteArray := prog_1_method_12_code
def yX5_ofGauge : MethodName := ⟨RX5, "ofGauge", "(II)I"⟩
abbrev cX5_noted : ByteArray := prog_1_method_13_code
def yX5_noted : MethodName := ⟨RX5, "noted", "(II)I"⟩
abbrev cX5_places : ByteArray := prog_1_method_14_code
def yX5_places : MethodName := ⟨RX5, "places", "(I)J"⟩
abbrev cX5_count : ByteArray := prog_1_method_15_code
def yX5_count : MethodName := ⟨RX5, "count", "(I)I"⟩
abbrev cX5_reaches : ByteArray := prog_1_method_16_code
def yX5_reaches : MethodName := ⟨RX5, "reaches", "(II)I"⟩
abbrev cX5_bestPeriod : ByteArray := prog_1_method_17_code
def yX5_bestPeriod : MethodName := ⟨RX5, "bestPeriod", "(IIII)I"⟩
abbrev cX5_peakWithPeriod : ByteArray := prog_1_method_18_code
def yX5_peakWithPeriod : MethodName := ⟨RX5, "peakWithPeriod", "(IIII)I"⟩
abbrev cX5_calmIn : ByteArray := prog_1_method_19_code
def yX5_calmIn : MethodName := ⟨RX5, "calmIn", "()I"⟩
abbrev cX5_put : ByteArray := prog_1_method_20_code
def yX5_put : MethodName := ⟨RX5, "put", "(J)I"⟩
abbrev cX5_wipe : ByteArray := prog_1_method_21_code
def yX5_wipe : MethodName := ⟨RX5, "wipe", "()I"⟩
abbrev cX5_fault : ByteArray := prog_1_method_22_code
def yX5_fault : MethodName := ⟨RX5, "fault", "()I"⟩
abbrev cX5_carryOut : ByteArray := prog_1_method_23_code
def yX5_carryOut : MethodName := ⟨RX5, "carryOut", "()I"⟩
abbrev cX5_carryOrders : ByteArray := prog_1_method_24_code
def yX5_carryOrders : MethodName := ⟨RX5, "carryOrders", "()I"⟩
abbrev cX5_carryOneOrder : ByteArray := prog_1_method_25_code
def yX5_carryOneOrder : MethodName := ⟨RX5, "carryOneOrder", "()I"⟩
abbrev cX5_undo : ByteArray := prog_1_method_26_code
def yX5_undo : MethodName := ⟨RX5, "undo", "()I"⟩
abbrev cX5_save : ByteArray := prog_1_method_27_code
def yX5_save : MethodName := ⟨RX5, "save", "(I)I"⟩
abbrev cX5_restore : ByteArray := prog_1_method_28_code
def yX5_restore : MethodName := ⟨RX5, "restore", "(I)I"⟩
abbrev cX5_isOutside : ByteArray := prog_1_method_29_code
def yX5_isOutside : MethodName := ⟨RX5, "isOutside", "(II)Z"⟩
abbrev cX5_asNumber : ByteArray := prog_1_method_30_code
def yX5_asNumber : MethodName := ⟨RX5, "asNumber", "(Z)I"⟩
abbrev cX5_withinBounds : ByteArray := prog_1_method_31_code
def yX5_withinBounds : MethodName := ⟨RX5, "withinBounds", "(I)I"⟩
def RX6 : String := "PaddleRowsModel"
def TX6 : u_T := fun k => match k with
  | 0 => ("PaddleRowsModel", "state", "[I", true)
  | 1 => ("PaddleRowsModel", "kept", "[I", true)
  | 2 => ("PaddleRowsModel", "history", "[I", true)
  | 3 => ("PaddleRowsModel", "recorded", "I", false)
  | 4 => ("PaddleRowsModel", "slots", "[I", true)
  | 5 => ("PaddleRowsModel", "isSaved", "[I", true)
  | 6 => ("PaddleRowsModel", "pad", "[I", true)
  | 7 => ("PaddleRowsModel", "padLength", "I", false)
  | 8 => ("PaddleRowsModel", "at", "I", false)
  | 9 => ("PaddleRowsModel", "letter", "I", false)
  | 10 => ("PaddleRowsModel", "sortTold", "I", false)
  | 11 => ("PaddleRowsModel", "numbers", "[I", true)
  | _ => ("PaddleRowsModel", "numbersMany", "I", false)
def tyX6 : Nat → FieldType := fun k => match k with
  | 0 => .array .int
  | 1 => .array .int
  | 2 => .array .int
  | 3 => .int
  | 4 => .array .int
  | 5 => .array .int
  | 6 => .array .int
  | 7 => .int
  | 8 => .int
  | 9 => .int
  | 10 => .int
  | 11 => .array .int
  | _ => .int
theorem nmX6 : ∀ a, a < 13 → ∀ b, b < 13 → a ≠ b → (TX6 a).2.1 ≠ (TX6 b).2.1 := by decide +kernel
theorem tyX6_ok : ∀ k, k < 13 → parseFieldDescriptor (TX6 k).2.2.1 = some (tyX6 k) := by decide +kernel
abbrev cX6_init : ByteArray := prog_8_method_1_code
def yX6_init : MethodName := ⟨RX6, "<init>", "()V"⟩
abbrev cX6_moves : ByteArray := prog_8_method_3_code
def yX6_moves : MethodName := ⟨RX6, "moves", "([II[II)V"⟩
abbrev cX6_within : ByteArray := prog_8_method_4_code
def yX6_within : MethodName := ⟨RX6, "within", "(III)Z"⟩
abbrev cX6_size : ByteArray := prog_8_method_5_code
def yX6_size : MethodName := ⟨RX6, "size", "(I)I"⟩
abbrev cX6_bounded : ByteArray := prog_8_method_6_code
def yX6_bounded : MethodName := ⟨RX6, "bounded", "(I)I"⟩
abbrev cX6_record : ByteArray := prog_8_method_7_code
def yX6_record : MethodName := ⟨RX6, "record", "()V"⟩
abbrev cX6_isCell : ByteArray := prog_8_method_8_code
def yX6_isCell : MethodName := ⟨RX6, "isCell", "(I)Z"⟩
abbrev cX6_levelOf : ByteArray := prog_8_method_9_code
def yX6_levelOf : MethodName := ⟨RX6, "levelOf", "(I)I"⟩
abbrev cX6_paddlePart : ByteArray := prog_8_method_10_code
def yX6_paddlePart : MethodName := ⟨RX6, "paddlePart", "(II)I"⟩
abbrev cX6_setPaddle : ByteArray := prog_8_method_11_code
def yX6_setPaddle : MethodName := ⟨RX6, "setPaddle", "(III)V"⟩
abbrev cX6_rankIn : ByteArray := prog_8_method_12_code
def yX6_rankIn : MethodName := ⟨RX6, "rankIn", "(I)I"⟩
abbrev cX6_gaugePart : ByteArray := prog_8_method_13_code
def yX6_gaugePart : MethodName := ⟨RX6, "gaugePart", "(II)I"⟩
abbrev cX6_push : ByteArray := prog_8_method_14_code
def yX6_push : MethodName := ⟨RX6, "push", "(I)I"⟩
abbrev cX6_pushAll : ByteArray := prog_8_method_15_code
def yX6_pushAll : MethodName := ⟨RX6, "pushAll", "()I"⟩
abbrev cX6_swing : ByteArray := prog_8_method_16_code
def yX6_swing : MethodName := ⟨RX6, "swing", "()V"⟩
abbrev cX6_beach : ByteArray := prog_8_method_17_code
def yX6_beach : MethodName := ⟨RX6, "beach", "()V"⟩
abbrev cX6_note : ByteArray := prog_8_method_18_code
def yX6_note : MethodName := ⟨RX6, "note", "()V"⟩
abbrev cX6_step : ByteArray := prog_8_method_19_code
def yX6_step : MethodName := ⟨RX6, "step", "()I"⟩
abbrev cX6_passes : ByteArray := prog_8_method_20_code
def yX6_passes : MethodName := ⟨RX6, "passes", "(I)I"⟩
abbrev cX6_isValue : ByteArray := prog_8_method_21_code
def yX6_isValue : MethodName := ⟨RX6, "isValue", "(II)Z"⟩
abbrev cX6_set : ByteArray := prog_8_method_22_code
def yX6_set : MethodName := ⟨RX6, "set", "(II)I"⟩
abbrev cX6_whyNoPaddle : ByteArray := prog_8_method_23_code
def yX6_whyNoPaddle : MethodName := ⟨RX6, "whyNoPaddle", "(IIIII)I"⟩
abbrev cX6_lifts : ByteArray := prog_8_method_24_code
def yX6_lifts : MethodName := ⟨RX6, "lifts", "(I)V"⟩
abbrev cX6_puts : ByteArray := prog_8_method_25_code
def yX6_puts : MethodName := ⟨RX6, "puts", "(IIIII)V"⟩
abbrev cX6_paddle : ByteArray := prog_8_method_26_code
def yX6_paddle : MethodName := ⟨RX6, "paddle", "(IIIII)I"⟩
abbrev cX6_lift : ByteArray := prog_8_method_27_code
def yX6_lift : MethodName := ⟨RX6, "lift", "(I)I"⟩
abbrev cX6_again : ByteArray := prog_8_method_28_code
def yX6_again : MethodName := ⟨RX6, "again", "(I)I"⟩
abbrev cX6_whyNoGauge : ByteArray := prog_8_method_29_code
def yX6_whyNoGauge : MethodName := ⟨RX6, "whyNoGauge", "(I)I"⟩
abbrev cX6_comesGauge : ByteArray := prog_8_method_30_code
def yX6_comesGauge : MethodName := ⟨RX6, "comesGauge", "(I)I"⟩
abbrev cX6_gauge : ByteArray := prog_8_method_31_code
def yX6_gauge : MethodName := ⟨RX6, "gauge", "(I)I"⟩
abbrev cX6_level : ByteArray := prog_8_method_32_code
def yX6_level : MethodName := ⟨RX6, "level", "(II)I"⟩
abbrev cX6_whyNotPassed : ByteArray := prog_8_method_33_code
def yX6_whyNotPassed : MethodName := ⟨RX6, "whyNotPassed", "(I)I"⟩
abbrev cX6_pass : ByteArray := prog_8_method_34_code
def yX6_pass : MethodName := ⟨RX6, "pass", "(I)I"⟩
abbrev cX6_isCrest : ByteArray := prog_8_method_35_code
def yX6_isCrest : MethodName := ⟨RX6, "isCrest", "(I)Z"⟩
abbrev cX6_isTrough : ByteArray := prog_8_method_36_code
def yX6_isTrough : MethodName := ⟨RX6, "isTrough", "(I)Z"⟩
abbrev cX6_cell : ByteArray := prog_8_method_37_code
def yX6_cell : MethodName := ⟨RX6, "cell", "(II)I"⟩
abbrev cX6_isRank : ByteArray := prog_8_method_38_code
def yX6_isRank : MethodName := ⟨RX6, "isRank", "(I)Z"⟩
abbrev cX6_ofPaddle : ByteArray := prog_8_method_39_code
def yX6_ofPaddle : MethodName := ⟨RX6, "ofPaddle", "(II)I"⟩
abbrev cX6_extreme : ByteArray := prog_8_method_40_code
def yX6_extreme : MethodName := ⟨RX6, "extreme", "(IZ)I"⟩
abbrev cX6_risings : ByteArray := prog_8_method_41_code
def yX6_risings : MethodName := ⟨RX6, "risings", "(I)I"⟩
abbrev cX6_isGauge : ByteArray := prog_8_method_42_code
def yX6_isGauge : MethodName := ⟨RX6, "isGauge", "(I)Z"⟩
abbrev cX6_ofGauge : ByteArray := prog_8_method_43_code
def yX6_ofGauge : MethodName := ⟨RX6, "ofGauge", "(II)I"⟩
abbrev cX6_noted : ByteArray := prog_8_method_44_code
def yX6_noted : MethodName := ⟨RX6, "noted", "(II)I"⟩
abbrev cX6_isPlace : ByteArray := prog_8_method_45_code
def yX6_isPlace : MethodName := ⟨RX6, "isPlace", "(II)Z"⟩
abbrev cX6_places : ByteArray := prog_8_method_46_code
def yX6_places : MethodName := ⟨RX6, "places", "(I)J"⟩
abbrev cX6_stopped : ByteArray := prog_8_method_47_code
def yX6_stopped : MethodName := ⟨RX6, "stopped", "()I"⟩
abbrev cX6_sumOfLevels : ByteArray := prog_8_method_48_code
def yX6_sumOfLevels : MethodName := ⟨RX6, "sumOfLevels", "()I"⟩
abbrev cX6_swings : ByteArray := prog_8_method_49_code
def yX6_swings : MethodName := ⟨RX6, "swings", "()I"⟩
abbrev cX6_greatest : ByteArray := prog_8_method_50_code
def yX6_greatest : MethodName := ⟨RX6, "greatest", "()I"⟩
abbrev cX6_lastSwung : ByteArray := prog_8_method_51_code
def yX6_lastSwung : MethodName := ⟨RX6, "lastSwung", "()I"⟩
abbrev cX6_count : ByteArray := prog_8_method_52_code
def yX6_count : MethodName := ⟨RX6, "count", "(I)I"⟩
abbrev cX6_reaches : ByteArray := prog_8_method_53_code
def yX6_reaches : MethodName := ⟨RX6, "reaches", "(II)I"⟩
abbrev cX6_bestPeriod : ByteArray := prog_8_method_54_code
def yX6_bestPeriod : MethodName := ⟨RX6, "bestPeriod", "(IIII)I"⟩
abbrev cX6_calmIn : ByteArray := prog_8_method_55_code
def yX6_calmIn : MethodName := ⟨RX6, "calmIn", "()I"⟩
abbrev cX6_put : ByteArray := prog_8_method_56_code
def yX6_put : MethodName := ⟨RX6, "put", "(J)I"⟩
abbrev cX6_wipe : ByteArray := prog_8_method_57_code
def yX6_wipe : MethodName := ⟨RX6, "wipe", "()I"⟩
abbrev cX6_character : ByteArray := prog_8_method_58_code
def yX6_character : MethodName := ⟨RX6, "character", "(I)I"⟩
abbrev cX6_isNext : ByteArray := prog_8_method_59_code
def yX6_isNext : MethodName := ⟨RX6, "isNext", "(I)Z"⟩
abbrev cX6_isDigit : ByteArray := prog_8_method_60_code
def yX6_isDigit : MethodName := ⟨RX6, "isDigit", "()Z"⟩
abbrev cX6_takesNumber : ByteArray := prog_8_method_61_code
def yX6_takesNumber : MethodName := ⟨RX6, "takesNumber", "(I)Z"⟩
abbrev cX6_takesValue : ByteArray := prog_8_method_62_code
def yX6_takesValue : MethodName := ⟨RX6, "takesValue", "()Z"⟩
abbrev cX6_takesSort : ByteArray := prog_8_method_63_code
def yX6_takesSort : MethodName := ⟨RX6, "takesSort", "()Z"⟩
abbrev cX6_takesRecipe : ByteArray := prog_8_method_64_code
def yX6_takesRecipe : MethodName := ⟨RX6, "takesRecipe", "()Z"⟩
abbrev cX6_readsOrder : ByteArray := prog_8_method_65_code
def yX6_readsOrder : MethodName := ⟨RX6, "readsOrder", "()Z"⟩
abbrev cX6_findFault : ByteArray := prog_8_method_66_code
def yX6_findFault : MethodName := ⟨RX6, "findFault", "()I"⟩
abbrev cX6_fault : ByteArray := prog_8_method_67_code
def yX6_fault : MethodName := ⟨RX6, "fault", "()I"⟩
abbrev cX6_canDo : ByteArray := prog_8_method_68_code
def yX6_canDo : MethodName := ⟨RX6, "canDo", "()Z"⟩
abbrev cX6_does : ByteArray := prog_8_method_69_code
def yX6_does : MethodName := ⟨RX6, "does", "()V"⟩
abbrev cX6_carryOut : ByteArray := prog_8_method_70_code
def yX6_carryOut : MethodName := ⟨RX6, "carryOut", "()I"⟩
abbrev cX6_undo : ByteArray := prog_8_method_71_code
def yX6_undo : MethodName := ⟨RX6, "undo", "()I"⟩
abbrev cX6_save : ByteArray := prog_8_method_72_code
def yX6_save : MethodName := ⟨RX6, "save", "(I)I"⟩
abbrev cX6_restore : ByteArray := prog_8_method_73_code
def yX6_restore : MethodName := ⟨RX6, "restore", "(I)I"⟩
def RJ13 : String := "java/lang/Long"
abbrev cJ13_bitCount_95d88 : ByteArray := prog_10_method_50_code
def yJ13_bitCount_95d88 : MethodName := ⟨RJ13, "bitCount", "(J)I"⟩
def RJ9 : String := "java/lang/Math"
abbrev cJ9_floorMod_7cf53 : ByteArray := prog_11_method_50_code
def yJ9_floorMod_7cf53 : MethodName := ⟨RJ9, "floorMod", "(II)I"⟩
abbrev cJ9_abs_0f7a4 : ByteArray := prog_11_method_59_code
def yJ9_abs_0f7a4 : MethodName := ⟨RJ9, "abs", "(I)I"⟩
abbrev cJ9_max_7cf53 : ByteArray := prog_11_method_65_code
def yJ9_max_7cf53 : MethodName := ⟨RJ9, "max", "(II)I"⟩
abbrev cJ9_min_7cf53 : ByteArray := prog_11_method_69_code
def yJ9_min_7cf53 : MethodName := ⟨RJ9, "min", "(II)I"⟩
def RJ10 : String := "java/lang/System"
def RL : String := "PaddleRowsLaw"
abbrev cL_law : ByteArray := code
def yL_law : MethodName := ⟨RL, "law", "([I)Z"⟩
abbrev vwCl : List vw_C := [(RX0, TX0, 4), (RX1, TX1, 2), (RX2, TX2, 9), (RX3, TX3, 6), (RX4, TX4, 8), (RX5, TX5, 7), (RX6, TX6, 13)]
/-- a method: its name, its code, the size of its locals, what it returns -/
abbrev Mt : Type := MethodName × ByteArray × Nat × Option FieldType
abbrev mX0_init : Mt := (yX0_init, cX0_init, 1, none)
abbrev mX0_copyFrom : Mt := (yX0_copyFrom, cX0_copyFrom, 2, none)
abbrev mX0_startIn : Mt := (yX0_startIn, cX0_startIn, 2, none)
abbrev mX0_note : Mt := (yX0_note, cX0_note, 2, none)
abbrev mX0_levelAgo : Mt := (yX0_levelAgo, cX0_levelAgo, 2, (some .int))
abbrev mX0_greatest : Mt := (yX0_greatest, cX0_greatest, 3, (some .int))
abbrev mX0_least : Mt := (yX0_least, cX0_least, 3, (some .int))
abbrev mX0_rises : Mt := (yX0_rises, cX0_rises, 3, (some .int))
abbrev mX1_init : Mt := (yX1_init, cX1_init, 2, none)
abbrev mX1_push : Mt := (yX1_push, cX1_push, 2, none)
abbrev mX1_dropOldest : Mt := (yX1_dropOldest, cX1_dropOldest, 3, none)
abbrev mX1_popInto : Mt := (yX1_popInto, cX1_popInto, 2, none)
abbrev mX2_init : Mt := (yX2_init, cX2_init, 1, none)
abbrev mX2_append : Mt := (yX2_append, cX2_append, 7, (some .int))
abbrev mX2_countOf : Mt := (yX2_countOf, cX2_countOf, 6, (some .int))
abbrev mX2_findFault : Mt := (yX2_findFault, cX2_findFault, 2, (some .int))
abbrev mX2_readOrder : Mt := (yX2_readOrder, cX2_readOrder, 1, (some .boolean))
abbrev mX2_readPaddle : Mt := (yX2_readPaddle, cX2_readPaddle, 1, (some .boolean))
abbrev mX2_readTarget : Mt := (yX2_readTarget, cX2_readTarget, 1, (some .boolean))
abbrev mX2_readSort : Mt := (yX2_readSort, cX2_readSort, 1, (some .boolean))
abbrev mX2_readValue : Mt := (yX2_readValue, cX2_readValue, 3, (some .boolean))
abbrev mX2_readNumber : Mt := (yX2_readNumber, cX2_readNumber, 3, (some .int))
abbrev mX2_isDigitHere : Mt := (yX2_isDigitHere, cX2_isDigitHere, 1, (some .boolean))
abbrev mX2_accept : Mt := (yX2_accept, cX2_accept, 2, (some .boolean))
abbrev mX2_signHere : Mt := (yX2_signHere, cX2_signHere, 1, (some .int))
abbrev mX3_init : Mt := (yX3_init, cX3_init, 1, none)
abbrev mX3_copyFrom : Mt := (yX3_copyFrom, cX3_copyFrom, 2, none)
abbrev mX3_isRecipe : Mt := (yX3_isRecipe, cX3_isRecipe, 4, (some .boolean))
abbrev mX3_pushAt : Mt := (yX3_pushAt, cX3_pushAt, 3, (some .int))
abbrev mX4_init : Mt := (yX4_init, cX4_init, 2, none)
abbrev mX4_copyFrom : Mt := (yX4_copyFrom, cX4_copyFrom, 3, none)
abbrev mX4_changeSetting : Mt := (yX4_changeSetting, cX4_changeSetting, 4, (some .int))
abbrev mX4_placePaddle : Mt := (yX4_placePaddle, cX4_placePaddle, 8, (some .int))
abbrev mX4_rankIn : Mt := (yX4_rankIn, cX4_rankIn, 3, (some .int))
abbrev mX4_openRank : Mt := (yX4_openRank, cX4_openRank, 4, (some .int))
abbrev mX4_removePaddle : Mt := (yX4_removePaddle, cX4_removePaddle, 5, (some .int))
abbrev mX4_startPaddle : Mt := (yX4_startPaddle, cX4_startPaddle, 4, (some .int))
abbrev mX4_placeGauge : Mt := (yX4_placeGauge, cX4_placeGauge, 2, (some .int))
abbrev mX4_changeLevel : Mt := (yX4_changeLevel, cX4_changeLevel, 4, (some .int))
abbrev mX4_passSteps : Mt := (yX4_passSteps, cX4_passSteps, 4, (some .int))
abbrev mX4_step : Mt := (yX4_step, cX4_step, 3, (some .int))
abbrev mX4_movePaddles : Mt := (yX4_movePaddles, cX4_movePaddles, 4, (some .int))
abbrev mX4_moveWater : Mt := (yX4_moveWater, cX4_moveWater, 6, none)
abbrev mX4_calmBeach : Mt := (yX4_calmBeach, cX4_calmBeach, 3, none)
abbrev mX4_isCrest : Mt := (yX4_isCrest, cX4_isCrest, 2, (some .boolean))
abbrev mX4_isTrough : Mt := (yX4_isTrough, cX4_isTrough, 2, (some .boolean))
abbrev mX4_isCalm : Mt := (yX4_isCalm, cX4_isCalm, 2, (some .boolean))
abbrev mX4_cellsThatAre : Mt := (yX4_cellsThatAre, cX4_cellsThatAre, 5, (some .long))
abbrev mX4_isPlace : Mt := (yX4_isPlace, cX4_isPlace, 4, (some .boolean))
abbrev mX4_sumOfLevels : Mt := (yX4_sumOfLevels, cX4_sumOfLevels, 3, (some .int))
abbrev mX4_motion : Mt := (yX4_motion, cX4_motion, 3, (some .int))
abbrev mX4_farthestLevel : Mt := (yX4_farthestLevel, cX4_farthestLevel, 3, (some .int))
abbrev mX4_lastUnevenCell : Mt := (yX4_lastUnevenCell, cX4_lastUnevenCell, 2, (some .int))
abbrev mX5_init : Mt := (yX5_init, cX5_init, 2, none)
abbrev mX5_set : Mt := (yX5_set, cX5_set, 3, (some .int))
abbrev mX5_paddle : Mt := (yX5_paddle, cX5_paddle, 6, (some .int))
abbrev mX5_lift : Mt := (yX5_lift, cX5_lift, 2, (some .int))
abbrev mX5_again : Mt := (yX5_again, cX5_again, 2, (some .int))
abbrev mX5_gauge : Mt := (yX5_gauge, cX5_gauge, 2, (some .int))
abbrev mX5_level : Mt := (yX5_level, cX5_level, 3, (some .int))
abbrev mX5_pass : Mt := (yX5_pass, cX5_pass, 2, (some .int))
abbrev mX5_recorded : Mt := (yX5_recorded, cX5_recorded, 2, (some .int))
abbrev mX5_cell : Mt := (yX5_cell, cX5_cell, 3, (some .int))
abbrev mX5_ofPaddle : Mt := (yX5_ofPaddle, cX5_ofPaddle, 4, (some .int))
abbrev mX5_ofGauge : Mt := (yX5_ofGauge, cX5_ofGauge, 4, (some .int))
abbrev mX5_noted : Mt := (yX5_noted, cX5_noted, 4, (some .int))
abbrev mX5_places : Mt := (yX5_places, cX5_places, 2, (some .long))
abbrev mX5_count : Mt := (yX5_count, cX5_count, 2, (some .int))
abbrev mX5_reaches : Mt := (yX5_reaches, cX5_reaches, 4, (some .int))
abbrev mX5_bestPeriod : Mt := (yX5_bestPeriod, cX5_bestPeriod, 9, (some .int))
abbrev mX5_peakWithPeriod : Mt := (yX5_peakWithPeriod, cX5_peakWithPeriod, 7, (some .int))
abbrev mX5_calmIn : Mt := (yX5_calmIn, cX5_calmIn, 2, (some .int))
abbrev mX5_put : Mt := (yX5_put, cX5_put, 3, (some .int))
abbrev mX5_wipe : Mt := (yX5_wipe, cX5_wipe, 2, (some .int))
abbrev mX5_fault : Mt := (yX5_fault, cX5_fault, 1, (some .int))
abbrev mX5_carryOut : Mt := (yX5_carryOut, cX5_carryOut, 2, (some .int))
abbrev mX5_carryOrders : Mt := (yX5_carryOrders, cX5_carryOrders, 2, (some .int))
abbrev mX5_carryOneOrder : Mt := (yX5_carryOneOrder, cX5_carryOneOrder, 1, (some .int))
abbrev mX5_undo : Mt := (yX5_undo, cX5_undo, 1, (some .int))
abbrev mX5_save : Mt := (yX5_save, cX5_save, 2, (some .int))
abbrev mX5_restore : Mt := (yX5_restore, cX5_restore, 2, (some .int))
abbrev mX5_isOutside : Mt := (yX5_isOutside, cX5_isOutside, 2, (some .boolean))
abbrev mX5_asNumber : Mt := (yX5_asNumber, cX5_asNumber, 1, (some .int))
abbrev mX5_withinBounds : Mt := (yX5_withinBounds, cX5_withinBounds, 1, (some .int))
abbrev mX6_init : Mt := (yX6_init, cX6_init, 1, none)
abbrev mX6_moves : Mt := (yX6_moves, cX6_moves, 5, none)
abbrev mX6_within : Mt := (yX6_within, cX6_within, 3, (some .boolean))
abbrev mX6_size : Mt := (yX6_size, cX6_size, 1, (some .int))
abbrev mX6_bounded : Mt := (yX6_bounded, cX6_bounded, 1, (some .int))
abbrev mX6_record : Mt := (yX6_record, cX6_record, 2, none)
abbrev mX6_isCell : Mt := (yX6_isCell, cX6_isCell, 1, (some .boolean))
abbrev mX6_levelOf : Mt := (yX6_levelOf, cX6_levelOf, 2, (some .int))
abbrev mX6_paddlePart : Mt := (yX6_paddlePart, cX6_paddlePart, 3, (some .int))
abbrev mX6_setPaddle : Mt := (yX6_setPaddle, cX6_setPaddle, 4, none)
abbrev mX6_rankIn : Mt := (yX6_rankIn, cX6_rankIn, 4, (some .int))
abbrev mX6_gaugePart : Mt := (yX6_gaugePart, cX6_gaugePart, 3, (some .int))
abbrev mX6_push : Mt := (yX6_push, cX6_push, 6, (some .int))
abbrev mX6_pushAll : Mt := (yX6_pushAll, cX6_pushAll, 5, (some .int))
abbrev mX6_swing : Mt := (yX6_swing, cX6_swing, 5, none)
abbrev mX6_beach : Mt := (yX6_beach, cX6_beach, 3, none)
abbrev mX6_note : Mt := (yX6_note, cX6_note, 4, none)
abbrev mX6_step : Mt := (yX6_step, cX6_step, 2, (some .int))
abbrev mX6_passes : Mt := (yX6_passes, cX6_passes, 4, (some .int))
abbrev mX6_isValue : Mt := (yX6_isValue, cX6_isValue, 2, (some .boolean))
abbrev mX6_set : Mt := (yX6_set, cX6_set, 4, (some .int))
abbrev mX6_whyNoPaddle : Mt := (yX6_whyNoPaddle, cX6_whyNoPaddle, 6, (some .int))
abbrev mX6_lifts : Mt := (yX6_lifts, cX6_lifts, 3, none)
abbrev mX6_puts : Mt := (yX6_puts, cX6_puts, 8, none)
abbrev mX6_paddle : Mt := (yX6_paddle, cX6_paddle, 7, (some .int))
abbrev mX6_lift : Mt := (yX6_lift, cX6_lift, 2, (some .int))
abbrev mX6_again : Mt := (yX6_again, cX6_again, 4, (some .int))
abbrev mX6_whyNoGauge : Mt := (yX6_whyNoGauge, cX6_whyNoGauge, 2, (some .int))
abbrev mX6_comesGauge : Mt := (yX6_comesGauge, cX6_comesGauge, 4, (some .int))
abbrev mX6_gauge : Mt := (yX6_gauge, cX6_gauge, 3, (some .int))
abbrev mX6_level : Mt := (yX6_level, cX6_level, 4, (some .int))
abbrev mX6_whyNotPassed : Mt := (yX6_whyNotPassed, cX6_whyNotPassed, 2, (some .int))
abbrev mX6_pass : Mt := (yX6_pass, cX6_pass, 3, (some .int))
abbrev mX6_isCrest : Mt := (yX6_isCrest, cX6_isCrest, 2, (some .boolean))
abbrev mX6_isTrough : Mt := (yX6_isTrough, cX6_isTrough, 2, (some .boolean))
abbrev mX6_cell : Mt := (yX6_cell, cX6_cell, 3, (some .int))
abbrev mX6_isRank : Mt := (yX6_isRank, cX6_isRank, 2, (some .boolean))
abbrev mX6_ofPaddle : Mt := (yX6_ofPaddle, cX6_ofPaddle, 3, (some .int))
abbrev mX6_extreme : Mt := (yX6_extreme, cX6_extreme, 7, (some .int))
abbrev mX6_risings : Mt := (yX6_risings, cX6_risings, 4, (some .int))
abbrev mX6_isGauge : Mt := (yX6_isGauge, cX6_isGauge, 2, (some .boolean))
abbrev mX6_ofGauge : Mt := (yX6_ofGauge, cX6_ofGauge, 3, (some .int))
abbrev mX6_noted : Mt := (yX6_noted, cX6_noted, 3, (some .int))
abbrev mX6_isPlace : Mt := (yX6_isPlace, cX6_isPlace, 4, (some .boolean))
abbrev mX6_places : Mt := (yX6_places, cX6_places, 5, (some .long))
abbrev mX6_stopped : Mt := (yX6_stopped, cX6_stopped, 3, (some .int))
abbrev mX6_sumOfLevels : Mt := (yX6_sumOfLevels, cX6_sumOfLevels, 3, (some .int))
abbrev mX6_swings : Mt := (yX6_swings, cX6_swings, 3, (some .int))
abbrev mX6_greatest : Mt := (yX6_greatest, cX6_greatest, 3, (some .int))
abbrev mX6_lastSwung : Mt := (yX6_lastSwung, cX6_lastSwung, 3, (some .int))
abbrev mX6_count : Mt := (yX6_count, cX6_count, 2, (some .int))
abbrev mX6_reaches : Mt := (yX6_reaches, cX6_reaches, 5, (some .int))
abbrev mX6_bestPeriod : Mt := (yX6_bestPeriod, cX6_bestPeriod, 10, (some .int))
abbrev mX6_calmIn : Mt := (yX6_calmIn, cX6_calmIn, 3, (some .int))
abbrev mX6_put : Mt := (yX6_put, cX6_put, 8, (some .int))
abbrev mX6_wipe : Mt := (yX6_wipe, cX6_wipe, 2, (some .int))
abbrev mX6_character : Mt := (yX6_character, cX6_character, 2, (some .int))
abbrev mX6_isNext : Mt := (yX6_isNext, cX6_isNext, 3, (some .boolean))
abbrev mX6_isDigit : Mt := (yX6_isDigit, cX6_isDigit, 1, (some .boolean))
abbrev mX6_takesNumber : Mt := (yX6_takesNumber, cX6_takesNumber, 3, (some .boolean))
abbrev mX6_takesValue : Mt := (yX6_takesValue, cX6_takesValue, 1, (some .boolean))
abbrev mX6_takesSort : Mt := (yX6_takesSort, cX6_takesSort, 2, (some .boolean))
abbrev mX6_takesRecipe : Mt := (yX6_takesRecipe, cX6_takesRecipe, 2, (some .boolean))
abbrev mX6_readsOrder : Mt := (yX6_readsOrder, cX6_readsOrder, 1, (some .boolean))
abbrev mX6_findFault : Mt := (yX6_findFault, cX6_findFault, 1, (some .int))
abbrev mX6_fault : Mt := (yX6_fault, cX6_fault, 1, (some .int))
abbrev mX6_canDo : Mt := (yX6_canDo, cX6_canDo, 1, (some .boolean))
abbrev mX6_does : Mt := (yX6_does, cX6_does, 1, none)
abbrev mX6_carryOut : Mt := (yX6_carryOut, cX6_carryOut, 3, (some .int))
abbrev mX6_undo : Mt := (yX6_undo, cX6_undo, 1, (some .int))
abbrev mX6_save : Mt := (yX6_save, cX6_save, 2, (some .int))
abbrev mX6_restore : Mt := (yX6_restore, cX6_restore, 2, (some .int))
abbrev mJ13_bitCount_95d88 : Mt := (yJ13_bitCount_95d88, cJ13_bitCount_95d88, 2, (some .int))
abbrev mJ9_floorMod_7cf53 : Mt := (yJ9_floorMod_7cf53, cJ9_floorMod_7cf53, 3, (some .int))
abbrev mJ9_abs_0f7a4 : Mt := (yJ9_abs_0f7a4, cJ9_abs_0f7a4, 1, (some .int))
abbrev mJ9_max_7cf53 : Mt := (yJ9_max_7cf53, cJ9_max_7cf53, 2, (some .int))
abbrev mJ9_min_7cf53 : Mt := (yJ9_min_7cf53, cJ9_min_7cf53, 2, (some .int))
abbrev mL_law : Mt := (yL_law, cL_law, 4, some .boolean)
