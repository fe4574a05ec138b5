section
-- ===== PART A: goes FIRST, ahead of the names: the tables' words, and 'selects' of the private methods out of them =====
/-- a private method of a class that the tables say can be made, by its rows of tables_1 -/
def lw_okq (q : MethodName × Nat) : Prop := (q.1.cls ≠ "java/lang/invoke/MethodHandle" ∧ q.1.cls ≠ "java/lang/invoke/VarHandle") ∧ Cond.instantiable q.1.cls q.2 ∈ tables_1 ∧ Cond.privateMethod q.1 ∈ tables_1 ∧ Cond.instanceMethod q.1 ∈ tables_1
theorem lw_p0 : lw_okq (⟨"PaddleRows", "recorded", "(I)I"⟩, 7) := ⟨⟨by decide +kernel, by decide +kernel⟩, List.mem_of_getElem? (i := 12) (by decide +kernel), List.mem_of_getElem? (i := 244) (by decide +kernel), List.mem_of_getElem? (i := 245) (by decide +kernel)⟩
theorem lw_p1 : lw_okq (⟨"PaddleRows", "peakWithPeriod", "(IIII)I"⟩, 7) := ⟨⟨by decide +kernel, by decide +kernel⟩, List.mem_of_getElem? (i := 12) (by decide +kernel), List.mem_of_getElem? (i := 464) (by decide +kernel), List.mem_of_getElem? (i := 465) (by decide +kernel)⟩
theorem lw_p2 : lw_okq (⟨"PaddleRows", "carryOrders", "()I"⟩, 7) := ⟨⟨by decide +kernel, by decide +kernel⟩, List.mem_of_getElem? (i := 12) (by decide +kernel), List.mem_of_getElem? (i := 540) (by decide +kernel), List.mem_of_getElem? (i := 541) (by decide +kernel)⟩
theorem lw_p3 : lw_okq (⟨"PaddleRows", "carryOneOrder", "()I"⟩, 7) := ⟨⟨by decide +kernel, by decide +kernel⟩, List.mem_of_getElem? (i := 12) (by decide +kernel), List.mem_of_getElem? (i := 545) (by decide +kernel), List.mem_of_getElem? (i := 546) (by decide +kernel)⟩
theorem lw_p4 : lw_okq (⟨"PaddleRowsModel", "record", "()V"⟩, 13) := ⟨⟨by decide +kernel, by decide +kernel⟩, List.mem_of_getElem? (i := 566) (by decide +kernel), List.mem_of_getElem? (i := 622) (by decide +kernel), List.mem_of_getElem? (i := 623) (by decide +kernel)⟩
theorem lw_p5 : lw_okq (⟨"PaddleRowsModel", "whyNoPaddle", "(IIIII)I"⟩, 13) := ⟨⟨by decide +kernel, by decide +kernel⟩, List.mem_of_getElem? (i := 566) (by decide +kernel), List.mem_of_getElem? (i := 633) (by decide +kernel), List.mem_of_getElem? (i := 634) (by decide +kernel)⟩
theorem lw_p6 : lw_okq (⟨"PaddleRowsModel", "rankIn", "(I)I"⟩, 13) := ⟨⟨by decide +kernel, by decide +kernel⟩, List.mem_of_getElem? (i := 566) (by decide +kernel), List.mem_of_getElem? (i := 637) (by decide +kernel), List.mem_of_getElem? (i := 638) (by decide +kernel)⟩
theorem lw_p7 : lw_okq (⟨"PaddleRowsModel", "paddlePart", "(II)I"⟩, 13) := ⟨⟨by decide +kernel, by decide +kernel⟩, List.mem_of_getElem? (i := 566) (by decide +kernel), List.mem_of_getElem? (i := 641) (by decide +kernel), List.mem_of_getElem? (i := 642) (by decide +kernel)⟩
theorem lw_p8 : lw_okq (⟨"PaddleRowsModel", "puts", "(IIIII)V"⟩, 13) := ⟨⟨by decide +kernel, by decide +kernel⟩, List.mem_of_getElem? (i := 566) (by decide +kernel), List.mem_of_getElem? (i := 645) (by decide +kernel), List.mem_of_getElem? (i := 646) (by decide +kernel)⟩
theorem lw_p9 : lw_okq (⟨"PaddleRowsModel", "lifts", "(I)V"⟩, 13) := ⟨⟨by decide +kernel, by decide +kernel⟩, List.mem_of_getElem? (i := 566) (by decide +kernel), List.mem_of_getElem? (i := 649) (by decide +kernel), List.mem_of_getElem? (i := 650) (by decide +kernel)⟩
theorem lw_p10 : lw_okq (⟨"PaddleRowsModel", "setPaddle", "(III)V"⟩, 13) := ⟨⟨by decide +kernel, by decide +kernel⟩, List.mem_of_getElem? (i := 566) (by decide +kernel), List.mem_of_getElem? (i := 653) (by decide +kernel), List.mem_of_getElem? (i := 654) (by decide +kernel)⟩
theorem lw_p11 : lw_okq (⟨"PaddleRowsModel", "whyNoGauge", "(I)I"⟩, 13) := ⟨⟨by decide +kernel, by decide +kernel⟩, List.mem_of_getElem? (i := 566) (by decide +kernel), List.mem_of_getElem? (i := 669) (by decide +kernel), List.mem_of_getElem? (i := 670) (by decide +kernel)⟩
theorem lw_p12 : lw_okq (⟨"PaddleRowsModel", "comesGauge", "(I)I"⟩, 13) := ⟨⟨by decide +kernel, by decide +kernel⟩, List.mem_of_getElem? (i := 566) (by decide +kernel), List.mem_of_getElem? (i := 676) (by decide +kernel), List.mem_of_getElem? (i := 677) (by decide +kernel)⟩
theorem lw_p13 : lw_okq (⟨"PaddleRowsModel", "levelOf", "(I)I"⟩, 13) := ⟨⟨by decide +kernel, by decide +kernel⟩, List.mem_of_getElem? (i := 566) (by decide +kernel), List.mem_of_getElem? (i := 684) (by decide +kernel), List.mem_of_getElem? (i := 685) (by decide +kernel)⟩
theorem lw_p14 : lw_okq (⟨"PaddleRowsModel", "whyNotPassed", "(I)I"⟩, 13) := ⟨⟨by decide +kernel, by decide +kernel⟩, List.mem_of_getElem? (i := 566) (by decide +kernel), List.mem_of_getElem? (i := 692) (by decide +kernel), List.mem_of_getElem? (i := 693) (by decide +kernel)⟩
theorem lw_p15 : lw_okq (⟨"PaddleRowsModel", "passes", "(I)I"⟩, 13) := ⟨⟨by decide +kernel, by decide +kernel⟩, List.mem_of_getElem? (i := 566) (by decide +kernel), List.mem_of_getElem? (i := 697) (by decide +kernel), List.mem_of_getElem? (i := 698) (by decide +kernel)⟩
def lw_privs_1 : List (MethodName × Nat) := [(⟨"PaddleRows", "recorded", "(I)I"⟩, 7), (⟨"PaddleRows", "peakWithPeriod", "(IIII)I"⟩, 7), (⟨"PaddleRows", "carryOrders", "()I"⟩, 7), (⟨"PaddleRows", "carryOneOrder", "()I"⟩, 7), (⟨"PaddleRowsModel", "record", "()V"⟩, 13), (⟨"PaddleRowsModel", "whyNoPaddle", "(IIIII)I"⟩, 13), (⟨"PaddleRowsModel", "rankIn", "(I)I"⟩, 13), (⟨"PaddleRowsModel", "paddlePart", "(II)I"⟩, 13), (⟨"PaddleRowsModel", "puts", "(IIIII)V"⟩, 13), (⟨"PaddleRowsModel", "lifts", "(I)V"⟩, 13), (⟨"PaddleRowsModel", "setPaddle", "(III)V"⟩, 13), (⟨"PaddleRowsModel", "whyNoGauge", "(I)I"⟩, 13), (⟨"PaddleRowsModel", "comesGauge", "(I)I"⟩, 13), (⟨"PaddleRowsModel", "levelOf", "(I)I"⟩, 13), (⟨"PaddleRowsModel", "whyNotPassed", "(I)I"⟩, 13), (⟨"PaddleRowsModel", "passes", "(I)I"⟩, 13)]
theorem lw_r1 : ∀ q ∈ lw_privs_1, lw_okq q := List.forall_mem_cons.mpr ⟨lw_p0, List.forall_mem_cons.mpr ⟨lw_p1, List.forall_mem_cons.mpr ⟨lw_p2, List.forall_mem_cons.mpr ⟨lw_p3, List.forall_mem_cons.mpr ⟨lw_p4, List.forall_mem_cons.mpr ⟨lw_p5, List.forall_mem_cons.mpr ⟨lw_p6, List.forall_mem_cons.mpr ⟨lw_p7, List.forall_mem_cons.mpr ⟨lw_p8, List.forall_mem_cons.mpr ⟨lw_p9, List.forall_mem_cons.mpr ⟨lw_p10, List.forall_mem_cons.mpr ⟨lw_p11, List.forall_mem_cons.mpr ⟨lw_p12, List.forall_mem_cons.mpr ⟨lw_p13, List.forall_mem_cons.mpr ⟨lw_p14, List.forall_mem_cons.mpr ⟨lw_p15, fun _ h => absurd h List.not_mem_nil⟩⟩⟩⟩⟩⟩⟩⟩⟩⟩⟩⟩⟩⟩⟩⟩
theorem lw_p16 : lw_okq (⟨"PaddleRowsModel", "step", "()I"⟩, 13) := ⟨⟨by decide +kernel, by decide +kernel⟩, List.mem_of_getElem? (i := 566) (by decide +kernel), List.mem_of_getElem? (i := 701) (by decide +kernel), List.mem_of_getElem? (i := 702) (by decide +kernel)⟩
theorem lw_p17 : lw_okq (⟨"PaddleRowsModel", "pushAll", "()I"⟩, 13) := ⟨⟨by decide +kernel, by decide +kernel⟩, List.mem_of_getElem? (i := 566) (by decide +kernel), List.mem_of_getElem? (i := 705) (by decide +kernel), List.mem_of_getElem? (i := 706) (by decide +kernel)⟩
theorem lw_p18 : lw_okq (⟨"PaddleRowsModel", "push", "(I)I"⟩, 13) := ⟨⟨by decide +kernel, by decide +kernel⟩, List.mem_of_getElem? (i := 566) (by decide +kernel), List.mem_of_getElem? (i := 712) (by decide +kernel), List.mem_of_getElem? (i := 713) (by decide +kernel)⟩
theorem lw_p19 : lw_okq (⟨"PaddleRowsModel", "swing", "()V"⟩, 13) := ⟨⟨by decide +kernel, by decide +kernel⟩, List.mem_of_getElem? (i := 566) (by decide +kernel), List.mem_of_getElem? (i := 716) (by decide +kernel), List.mem_of_getElem? (i := 717) (by decide +kernel)⟩
theorem lw_p20 : lw_okq (⟨"PaddleRowsModel", "beach", "()V"⟩, 13) := ⟨⟨by decide +kernel, by decide +kernel⟩, List.mem_of_getElem? (i := 566) (by decide +kernel), List.mem_of_getElem? (i := 723) (by decide +kernel), List.mem_of_getElem? (i := 724) (by decide +kernel)⟩
theorem lw_p21 : lw_okq (⟨"PaddleRowsModel", "note", "()V"⟩, 13) := ⟨⟨by decide +kernel, by decide +kernel⟩, List.mem_of_getElem? (i := 566) (by decide +kernel), List.mem_of_getElem? (i := 727) (by decide +kernel), List.mem_of_getElem? (i := 728) (by decide +kernel)⟩
theorem lw_p22 : lw_okq (⟨"PaddleRowsModel", "isCrest", "(I)Z"⟩, 13) := ⟨⟨by decide +kernel, by decide +kernel⟩, List.mem_of_getElem? (i := 566) (by decide +kernel), List.mem_of_getElem? (i := 735) (by decide +kernel), List.mem_of_getElem? (i := 736) (by decide +kernel)⟩
theorem lw_p23 : lw_okq (⟨"PaddleRowsModel", "isTrough", "(I)Z"⟩, 13) := ⟨⟨by decide +kernel, by decide +kernel⟩, List.mem_of_getElem? (i := 566) (by decide +kernel), List.mem_of_getElem? (i := 739) (by decide +kernel), List.mem_of_getElem? (i := 740) (by decide +kernel)⟩
theorem lw_p24 : lw_okq (⟨"PaddleRowsModel", "isRank", "(I)Z"⟩, 13) := ⟨⟨by decide +kernel, by decide +kernel⟩, List.mem_of_getElem? (i := 566) (by decide +kernel), List.mem_of_getElem? (i := 747) (by decide +kernel), List.mem_of_getElem? (i := 748) (by decide +kernel)⟩
theorem lw_p25 : lw_okq (⟨"PaddleRowsModel", "isGauge", "(I)Z"⟩, 13) := ⟨⟨by decide +kernel, by decide +kernel⟩, List.mem_of_getElem? (i := 566) (by decide +kernel), List.mem_of_getElem? (i := 755) (by decide +kernel), List.mem_of_getElem? (i := 756) (by decide +kernel)⟩
theorem lw_p26 : lw_okq (⟨"PaddleRowsModel", "gaugePart", "(II)I"⟩, 13) := ⟨⟨by decide +kernel, by decide +kernel⟩, List.mem_of_getElem? (i := 566) (by decide +kernel), List.mem_of_getElem? (i := 759) (by decide +kernel), List.mem_of_getElem? (i := 760) (by decide +kernel)⟩
theorem lw_p27 : lw_okq (⟨"PaddleRowsModel", "extreme", "(IZ)I"⟩, 13) := ⟨⟨by decide +kernel, by decide +kernel⟩, List.mem_of_getElem? (i := 566) (by decide +kernel), List.mem_of_getElem? (i := 763) (by decide +kernel), List.mem_of_getElem? (i := 764) (by decide +kernel)⟩
theorem lw_p28 : lw_okq (⟨"PaddleRowsModel", "risings", "(I)I"⟩, 13) := ⟨⟨by decide +kernel, by decide +kernel⟩, List.mem_of_getElem? (i := 566) (by decide +kernel), List.mem_of_getElem? (i := 767) (by decide +kernel), List.mem_of_getElem? (i := 768) (by decide +kernel)⟩
theorem lw_p29 : lw_okq (⟨"PaddleRowsModel", "isPlace", "(II)Z"⟩, 13) := ⟨⟨by decide +kernel, by decide +kernel⟩, List.mem_of_getElem? (i := 566) (by decide +kernel), List.mem_of_getElem? (i := 780) (by decide +kernel), List.mem_of_getElem? (i := 781) (by decide +kernel)⟩
theorem lw_p30 : lw_okq (⟨"PaddleRowsModel", "stopped", "()I"⟩, 13) := ⟨⟨by decide +kernel, by decide +kernel⟩, List.mem_of_getElem? (i := 566) (by decide +kernel), List.mem_of_getElem? (i := 788) (by decide +kernel), List.mem_of_getElem? (i := 789) (by decide +kernel)⟩
theorem lw_p31 : lw_okq (⟨"PaddleRowsModel", "sumOfLevels", "()I"⟩, 13) := ⟨⟨by decide +kernel, by decide +kernel⟩, List.mem_of_getElem? (i := 566) (by decide +kernel), List.mem_of_getElem? (i := 792) (by decide +kernel), List.mem_of_getElem? (i := 793) (by decide +kernel)⟩
def lw_privs_2 : List (MethodName × Nat) := [(⟨"PaddleRowsModel", "step", "()I"⟩, 13), (⟨"PaddleRowsModel", "pushAll", "()I"⟩, 13), (⟨"PaddleRowsModel", "push", "(I)I"⟩, 13), (⟨"PaddleRowsModel", "swing", "()V"⟩, 13), (⟨"PaddleRowsModel", "beach", "()V"⟩, 13), (⟨"PaddleRowsModel", "note", "()V"⟩, 13), (⟨"PaddleRowsModel", "isCrest", "(I)Z"⟩, 13), (⟨"PaddleRowsModel", "isTrough", "(I)Z"⟩, 13), (⟨"PaddleRowsModel", "isRank", "(I)Z"⟩, 13), (⟨"PaddleRowsModel", "isGauge", "(I)Z"⟩, 13), (⟨"PaddleRowsModel", "gaugePart", "(II)I"⟩, 13), (⟨"PaddleRowsModel", "extreme", "(IZ)I"⟩, 13), (⟨"PaddleRowsModel", "risings", "(I)I"⟩, 13), (⟨"PaddleRowsModel", "isPlace", "(II)Z"⟩, 13), (⟨"PaddleRowsModel", "stopped", "()I"⟩, 13), (⟨"PaddleRowsModel", "sumOfLevels", "()I"⟩, 13)]
theorem lw_r2 : ∀ q ∈ lw_privs_2, lw_okq q := List.forall_mem_cons.mpr ⟨lw_p16, List.forall_mem_cons.mpr ⟨lw_p17, List.forall_mem_cons.mpr ⟨lw_p18, List.forall_mem_cons.mpr ⟨lw_p19, List.forall_mem_cons.mpr ⟨lw_p20, List.forall_mem_cons.mpr ⟨lw_p21, List.forall_mem_cons.mpr ⟨lw_p22, List.forall_mem_cons.mpr ⟨lw_p23, List.forall_mem_cons.mpr ⟨lw_p24, List.forall_mem_cons.mpr ⟨lw_p25, List.forall_mem_cons.mpr ⟨lw_p26, List.forall_mem_cons.mpr ⟨lw_p27, List.forall_mem_cons.mpr ⟨lw_p28, List.forall_mem_cons.mpr ⟨lw_p29, List.forall_mem_cons.mpr ⟨lw_p30, List.forall_mem_cons.mpr ⟨lw_p31, fun _ h => absurd h List.not_mem_nil⟩⟩⟩⟩⟩⟩⟩⟩⟩⟩⟩⟩⟩⟩⟩⟩
theorem lw_p32 : lw_okq (⟨"PaddleRowsModel", "swings", "()I"⟩, 13) := ⟨⟨by decide +kernel, by decide +kernel⟩, List.mem_of_getElem? (i := 566) (by decide +kernel), List.mem_of_getElem? (i := 797) (by decide +kernel), List.mem_of_getElem? (i := 798) (by decide +kernel)⟩
theorem lw_p33 : lw_okq (⟨"PaddleRowsModel", "greatest", "()I"⟩, 13) := ⟨⟨by decide +kernel, by decide +kernel⟩, List.mem_of_getElem? (i := 566) (by decide +kernel), List.mem_of_getElem? (i := 801) (by decide +kernel), List.mem_of_getElem? (i := 802) (by decide +kernel)⟩
theorem lw_p34 : lw_okq (⟨"PaddleRowsModel", "lastSwung", "()I"⟩, 13) := ⟨⟨by decide +kernel, by decide +kernel⟩, List.mem_of_getElem? (i := 566) (by decide +kernel), List.mem_of_getElem? (i := 805) (by decide +kernel), List.mem_of_getElem? (i := 806) (by decide +kernel)⟩
theorem lw_p35 : lw_okq (⟨"PaddleRowsModel", "findFault", "()I"⟩, 13) := ⟨⟨by decide +kernel, by decide +kernel⟩, List.mem_of_getElem? (i := 566) (by decide +kernel), List.mem_of_getElem? (i := 834) (by decide +kernel), List.mem_of_getElem? (i := 835) (by decide +kernel)⟩
theorem lw_p36 : lw_okq (⟨"PaddleRowsModel", "readsOrder", "()Z"⟩, 13) := ⟨⟨by decide +kernel, by decide +kernel⟩, List.mem_of_getElem? (i := 566) (by decide +kernel), List.mem_of_getElem? (i := 838) (by decide +kernel), List.mem_of_getElem? (i := 839) (by decide +kernel)⟩
theorem lw_p37 : lw_okq (⟨"PaddleRowsModel", "character", "(I)I"⟩, 13) := ⟨⟨by decide +kernel, by decide +kernel⟩, List.mem_of_getElem? (i := 566) (by decide +kernel), List.mem_of_getElem? (i := 842) (by decide +kernel), List.mem_of_getElem? (i := 843) (by decide +kernel)⟩
theorem lw_p38 : lw_okq (⟨"PaddleRowsModel", "takesRecipe", "()Z"⟩, 13) := ⟨⟨by decide +kernel, by decide +kernel⟩, List.mem_of_getElem? (i := 566) (by decide +kernel), List.mem_of_getElem? (i := 846) (by decide +kernel), List.mem_of_getElem? (i := 847) (by decide +kernel)⟩
theorem lw_p39 : lw_okq (⟨"PaddleRowsModel", "takesNumber", "(I)Z"⟩, 13) := ⟨⟨by decide +kernel, by decide +kernel⟩, List.mem_of_getElem? (i := 566) (by decide +kernel), List.mem_of_getElem? (i := 850) (by decide +kernel), List.mem_of_getElem? (i := 851) (by decide +kernel)⟩
theorem lw_p40 : lw_okq (⟨"PaddleRowsModel", "isDigit", "()Z"⟩, 13) := ⟨⟨by decide +kernel, by decide +kernel⟩, List.mem_of_getElem? (i := 566) (by decide +kernel), List.mem_of_getElem? (i := 854) (by decide +kernel), List.mem_of_getElem? (i := 855) (by decide +kernel)⟩
theorem lw_p41 : lw_okq (⟨"PaddleRowsModel", "takesSort", "()Z"⟩, 13) := ⟨⟨by decide +kernel, by decide +kernel⟩, List.mem_of_getElem? (i := 566) (by decide +kernel), List.mem_of_getElem? (i := 858) (by decide +kernel), List.mem_of_getElem? (i := 859) (by decide +kernel)⟩
theorem lw_p42 : lw_okq (⟨"PaddleRowsModel", "takesValue", "()Z"⟩, 13) := ⟨⟨by decide +kernel, by decide +kernel⟩, List.mem_of_getElem? (i := 566) (by decide +kernel), List.mem_of_getElem? (i := 862) (by decide +kernel), List.mem_of_getElem? (i := 863) (by decide +kernel)⟩
theorem lw_p43 : lw_okq (⟨"PaddleRowsModel", "isNext", "(I)Z"⟩, 13) := ⟨⟨by decide +kernel, by decide +kernel⟩, List.mem_of_getElem? (i := 566) (by decide +kernel), List.mem_of_getElem? (i := 866) (by decide +kernel), List.mem_of_getElem? (i := 867) (by decide +kernel)⟩
theorem lw_p44 : lw_okq (⟨"PaddleRowsModel", "canDo", "()Z"⟩, 13) := ⟨⟨by decide +kernel, by decide +kernel⟩, List.mem_of_getElem? (i := 566) (by decide +kernel), List.mem_of_getElem? (i := 874) (by decide +kernel), List.mem_of_getElem? (i := 875) (by decide +kernel)⟩
theorem lw_p45 : lw_okq (⟨"PaddleRowsModel", "does", "()V"⟩, 13) := ⟨⟨by decide +kernel, by decide +kernel⟩, List.mem_of_getElem? (i := 566) (by decide +kernel), List.mem_of_getElem? (i := 878) (by decide +kernel), List.mem_of_getElem? (i := 879) (by decide +kernel)⟩
def lw_privs_3 : List (MethodName × Nat) := [(⟨"PaddleRowsModel", "swings", "()I"⟩, 13), (⟨"PaddleRowsModel", "greatest", "()I"⟩, 13), (⟨"PaddleRowsModel", "lastSwung", "()I"⟩, 13), (⟨"PaddleRowsModel", "findFault", "()I"⟩, 13), (⟨"PaddleRowsModel", "readsOrder", "()Z"⟩, 13), (⟨"PaddleRowsModel", "character", "(I)I"⟩, 13), (⟨"PaddleRowsModel", "takesRecipe", "()Z"⟩, 13), (⟨"PaddleRowsModel", "takesNumber", "(I)Z"⟩, 13), (⟨"PaddleRowsModel", "isDigit", "()Z"⟩, 13), (⟨"PaddleRowsModel", "takesSort", "()Z"⟩, 13), (⟨"PaddleRowsModel", "takesValue", "()Z"⟩, 13), (⟨"PaddleRowsModel", "isNext", "(I)Z"⟩, 13), (⟨"PaddleRowsModel", "canDo", "()Z"⟩, 13), (⟨"PaddleRowsModel", "does", "()V"⟩, 13)]
theorem lw_r3 : ∀ q ∈ lw_privs_3, lw_okq q := List.forall_mem_cons.mpr ⟨lw_p32, List.forall_mem_cons.mpr ⟨lw_p33, List.forall_mem_cons.mpr ⟨lw_p34, List.forall_mem_cons.mpr ⟨lw_p35, List.forall_mem_cons.mpr ⟨lw_p36, List.forall_mem_cons.mpr ⟨lw_p37, List.forall_mem_cons.mpr ⟨lw_p38, List.forall_mem_cons.mpr ⟨lw_p39, List.forall_mem_cons.mpr ⟨lw_p40, List.forall_mem_cons.mpr ⟨lw_p41, List.forall_mem_cons.mpr ⟨lw_p42, List.forall_mem_cons.mpr ⟨lw_p43, List.forall_mem_cons.mpr ⟨lw_p44, List.forall_mem_cons.mpr ⟨lw_p45, fun _ h => absurd h List.not_mem_nil⟩⟩⟩⟩⟩⟩⟩⟩⟩⟩⟩⟩⟩⟩
def lw_privs : List (MethodName × Nat) := lw_privs_1 ++ (lw_privs_2 ++ (lw_privs_3))
def lw_tbl : List Cond := k2_sels lw_privs ++ tables_1
theorem lw_privs_ok : ∀ q ∈ lw_privs, lw_okq q := by
  show ∀ q ∈ lw_privs_1 ++ (lw_privs_2 ++ (lw_privs_3)), lw_okq q
  exact List.forall_mem_append.mpr ⟨lw_r1, List.forall_mem_append.mpr ⟨lw_r2, lw_r3⟩⟩
-- ===== end of PART A
/-! names (out of claim/NAMES.whole.lean.txt: its head of names and its decode rows) -/
def RX0 : String := "PaddleRows$Gauge"
def TX0 : u_T := fun k => match k with
  | 0 => ("PaddleRows$Gauge", "notes", "[I", true)
  | 1 => ("PaddleRows$Gauge", "cell", "I", false)
  | 2 => ("PaddleRows$Gauge", "known", "I", false)
  | _ => ("PaddleRows$Gauge", "next", "I", false)
def tyX0 : Nat → FieldType := fun k => match k with
  | 0 => .array .int
  | 1 => .int
  | 2 => .int
  | _ => .int
theorem nmX0 : ∀ a, a < 4 → ∀ b, b < 4 → a ≠ b → (TX0 a).2.1 ≠ (TX0 b).2.1 := by decide +kernel
theorem tyX0_ok : ∀ k, k < 4 → parseFieldDescriptor (TX0 k).2.2.1 = some (tyX0 k) := by decide +kernel
abbrev cX0_init : ByteArray := prog_2_method_1_code
def yX0_init : MethodName := ⟨RX0, "<init>", "()V"⟩
abbrev cX0_copyFrom : ByteArray := prog_2_method_2_code
def yX0_copyFrom : MethodName := ⟨RX0, "copyFrom", "(LPaddleRows$Gauge;)V"⟩
abbrev cX0_startIn : ByteArray := prog_2_method_3_code
def yX0_startIn : MethodName := ⟨RX0, "startIn", "(I)V"⟩
abbrev cX0_note : ByteArray := prog_2_method_4_code
def yX0_note : MethodName := ⟨RX0, "note", "(I)V"⟩
abbrev cX0_levelAgo : ByteArray := prog_2_method_5_code
def yX0_levelAgo : MethodName := ⟨RX0, "levelAgo", "(I)I"⟩
abbrev cX0_greatest : ByteArray := prog_2_method_6_code
def yX0_greatest : MethodName := ⟨RX0, "greatest", "()I"⟩
abbrev cX0_least : ByteArray := prog_2_method_7_code
def yX0_least : MethodName := ⟨RX0, "least", "()I"⟩
abbrev cX0_rises : ByteArray := prog_2_method_8_code
def yX0_rises : MethodName := ⟨RX0, "rises", "()I"⟩
def RX1 : String := "PaddleRows$History"
def TX1 : u_T := fun k => match k with
  | 0 => ("PaddleRows$History", "states", "[LPaddleRows$Tank;", true)
  | _ => ("PaddleRows$History", "size", "I", false)
def tyX1 : Nat → FieldType := fun k => match k with
  | 0 => .array (.object "PaddleRows$Tank")
  | _ => .int
theorem nmX1 : ∀ a, a < 2 → ∀ b, b < 2 → a ≠ b → (TX1 a).2.1 ≠ (TX1 b).2.1 := by decide +kernel
theorem tyX1_ok : ∀ k, k < 2 → parseFieldDescriptor (TX1 k).2.2.1 = some (tyX1 k) := by decide +kernel
abbrev cX1_init : ByteArray := prog_3_method_1_code
def yX1_init : MethodName := ⟨RX1, "<init>", "()V"⟩
abbrev cX1_push : ByteArray := prog_3_method_2_code
def yX1_push : MethodName := ⟨RX1, "push", "(LPaddleRows$Tank;)V"⟩
abbrev cX1_dropOldest : ByteArray := prog_3_method_3_code
def yX1_dropOldest : MethodName := ⟨RX1, "dropOldest", "()V"⟩
abbrev cX1_popInto : ByteArray := prog_3_method_4_code
def yX1_popInto : MethodName := ⟨RX1, "popInto", "(LPaddleRows$Tank;)V"⟩
def RX2 : String := "PaddleRows$Pad"
def TX2 : u_T := fun k => match k with
  | 0 => ("PaddleRows$Pad", "signs", "[C", true)
  | 1 => ("PaddleRows$Pad", "length", "I", false)
  | 2 => ("PaddleRows$Pad", "at", "I", false)
  | 3 => ("PaddleRows$Pad", "kind", "I", false)
  | 4 => ("PaddleRows$Pad", "target", "I", false)
  | 5 => ("PaddleRows$Pad", "sort", "I", false)
  | 6 => ("PaddleRows$Pad", "value", "I", false)
  | 7 => ("PaddleRows$Pad", "period", "I", false)
  | _ => ("PaddleRows$Pad", "phase", "I", false)
def tyX2 : Nat → FieldType := fun k => match k with
  | 0 => .array .char
  | 1 => .int
  | 2 => .int
  | 3 => .int
  | 4 => .int
  | 5 => .int
  | 6 => .int
  | 7 => .int
  | _ => .int
theorem nmX2 : ∀ a, a < 9 → ∀ b, b < 9 → a ≠ b → (TX2 a).2.1 ≠ (TX2 b).2.1 := by decide +kernel
theorem tyX2_ok : ∀ k, k < 9 → parseFieldDescriptor (TX2 k).2.2.1 = some (tyX2 k) := by decide +kernel
abbrev cX2_init : ByteArray := prog_4_method_1_code
def yX2_init : MethodName := ⟨RX2, "<init>", "()V"⟩
abbrev cX2_append : ByteArray := prog_4_method_2_code
def yX2_append : MethodName := ⟨RX2, "append", "(J)I"⟩
abbrev cX2_countOf : ByteArray := prog_4_method_3_code
def yX2_countOf : MethodName := ⟨RX2, "countOf", "(J)I"⟩
abbrev cX2_findFault : ByteArray := prog_4_method_4_code
def yX2_findFault : MethodName := ⟨RX2, "findFault", "()I"⟩
abbrev cX2_readOrder : ByteArray := prog_4_method_5_code
def yX2_readOrder : MethodName := ⟨RX2, "readOrder", "()Z"⟩
abbrev cX2_readPaddle : ByteArray := prog_4_method_6_code
def yX2_readPaddle : MethodName := ⟨RX2, "readPaddle", "()Z"⟩
abbrev cX2_readTarget : ByteArray := prog_4_method_7_code
def yX2_readTarget : MethodName := ⟨RX2, "readTarget", "()Z"⟩
abbrev cX2_readSort : ByteArray := prog_4_method_8_code
def yX2_readSort : MethodName := ⟨RX2, "readSort", "()Z"⟩
abbrev cX2_readValue : ByteArray := prog_4_method_9_code
def yX2_readValue : MethodName := ⟨RX2, "readValue", "()Z"⟩
abbrev cX2_readNumber : ByteArray := prog_4_method_10_code
def yX2_readNumber : MethodName := ⟨RX2, "readNumber", "()I"⟩
abbrev cX2_isDigitHere : ByteArray := prog_4_method_11_code
def yX2_isDigitHere : MethodName := ⟨RX2, "isDigitHere", "()Z"⟩
abbrev cX2_accept : ByteArray := prog_4_method_12_code
def yX2_accept : MethodName := ⟨RX2, "accept", "(C)Z"⟩
abbrev cX2_signHere : ByteArray := prog_4_method_13_code
def yX2_signHere : MethodName := ⟨RX2, "signHere", "()I"⟩
def RX3 : String := "PaddleRows$Paddle"
def TX3 : u_T := fun k => match k with
  | 0 => ("PaddleRows$Paddle", "cell", "I", false)
  | 1 => ("PaddleRows$Paddle", "sort", "I", false)
  | 2 => ("PaddleRows$Paddle", "height", "I", false)
  | 3 => ("PaddleRows$Paddle", "period", "I", false)
  | 4 => ("PaddleRows$Paddle", "phase", "I", false)
  | _ => ("PaddleRows$Paddle", "goes", "Z", false)
def tyX3 : Nat → FieldType := fun k => match k with
  | 0 => .int
  | 1 => .int
  | 2 => .int
  | 3 => .int
  | 4 => .int
  | _ => .boolean
theorem nmX3 : ∀ a, a < 6 → ∀ b, b < 6 → a ≠ b → (TX3 a).2.1 ≠ (TX3 b).2.1 := by decide +kernel
theorem tyX3_ok : ∀ k, k < 6 → parseFieldDescriptor (TX3 k).2.2.1 = some (tyX3 k) := by decide +kernel
abbrev cX3_init : ByteArray := prog_5_method_1_code
def yX3_init : MethodName := ⟨RX3, "<init>", "()V"⟩
abbrev cX3_copyFrom : ByteArray := prog_5_method_2_code
def yX3_copyFrom : MethodName := ⟨RX3, "copyFrom", "(LPaddleRows$Paddle;)V"⟩
abbrev cX3_isRecipe : ByteArray := prog_5_method_3_code
def yX3_isRecipe : MethodName := ⟨RX3, "isRecipe", "(IIII)Z"⟩
abbrev cX3_pushAt : ByteArray := prog_5_method_4_code
def yX3_pushAt : MethodName := ⟨RX3, "pushAt", "(I)I"⟩
def RX4 : String := "PaddleRows$Tank"
def TX4 : u_T := fun k => match k with
  | 0 => ("PaddleRows$Tank", "settings", "[I", true)
  | 1 => ("PaddleRows$Tank", "levels", "[I", true)
  | 2 => ("PaddleRows$Tank", "speeds", "[I", true)
  | 3 => ("PaddleRows$Tank", "paddles", "[LPaddleRows$Paddle;", true)
  | 4 => ("PaddleRows$Tank", "gauges", "[LPaddleRows$Gauge;", true)
  | 5 => ("PaddleRows$Tank", "paddleCount", "I", false)
  | 6 => ("PaddleRows$Tank", "gaugeCount", "I", false)
  | _ => ("PaddleRows$Tank", "steps", "I", false)
def tyX4 : Nat → FieldType := fun k => match k with
  | 0 => .array .int
  | 1 => .array .int
  | 2 => .array .int
  | 3 => .array (.object "PaddleRows$Paddle")
  | 4 => .array (.object "PaddleRows$Gauge")
  | 5 => .int
  | 6 => .int
  | _ => .int
theorem nmX4 : ∀ a, a < 8 → ∀ b, b < 8 → a ≠ b → (TX4 a).2.1 ≠ (TX4 b).2.1 := by decide +kernel
theorem tyX4_ok : ∀ k, k < 8 → parseFieldDescriptor (TX4 k).2.2.1 = some (tyX4 k) := by decide +kernel
abbrev cX4_init : ByteArray := prog_6_method_1_code
def yX4_init : MethodName := ⟨RX4, "<init>", "()V"⟩
abbrev cX4_copyFrom : ByteArray := prog_6_method_2_code
def yX4_copyFrom : MethodName := ⟨RX4, "copyFrom", "(LPaddleRows$Tank;)V"⟩
abbrev cX4_changeSetting : ByteArray := prog_6_method_3_code
def yX4_changeSetting : MethodName := ⟨RX4, "changeSetting", "(II)I"⟩
abbrev cX4_placePaddle : ByteArray := prog_6_method_4_code
def yX4_placePaddle : MethodName := ⟨RX4, "placePaddle", "(IIIII)I"⟩
abbrev cX4_rankIn : ByteArray := prog_6_method_5_code
def yX4_rankIn : MethodName := ⟨RX4, "rankIn", "(I)I"⟩
abbrev cX4_openRank : ByteArray := prog_6_method_6_code
def yX4_openRank : MethodName := ⟨RX4, "openRank", "(I)I"⟩
abbrev cX4_removePaddle : ByteArray := prog_6_method_7_code
def yX4_removePaddle : MethodName := ⟨RX4, "removePaddle", "(I)I"⟩
abbrev cX4_startPaddle : ByteArray := prog_6_method_8_code
def yX4_startPaddle : MethodName := ⟨RX4, "startPaddle", "(I)I"⟩
abbrev cX4_placeGauge : ByteArray := prog_6_method_9_code
def yX4_placeGauge : MethodName := ⟨RX4, "placeGauge", "(I)I"⟩
abbrev cX4_changeLevel : ByteArray := prog_6_method_10_code
def yX4_changeLevel : MethodName := ⟨RX4, "changeLevel", "(II)I"⟩
abbrev cX4_passSteps : ByteArray := prog_6_method_11_code
def yX4_passSteps : MethodName := ⟨RX4, "passSteps", "(I)I"⟩
abbrev cX4_step : ByteArray := prog_6_method_12_code
def yX4_step : MethodName := ⟨RX4, "step", "()I"⟩
abbrev cX4_movePaddles : ByteArray := prog_6_method_13_code
def yX4_movePaddles : MethodName := ⟨RX4, "movePaddles", "()I"⟩
abbrev cX4_moveWater : ByteArray := prog_6_method_14_code
def yX4_moveWater : MethodName := ⟨RX4, "moveWater", "()V"⟩
abbrev cX4_calmBeach : ByteArray := prog_6_method_15_code
def yX4_calmBeach : MethodName := ⟨RX4, "calmBeach", "()V"⟩
abbrev cX4_isCrest : ByteArray := prog_6_method_16_code
def yX4_isCrest : MethodName := ⟨RX4, "isCrest", "(I)Z"⟩
abbrev cX4_isTrough : ByteArray := prog_6_method_17_code
def yX4_isTrough : MethodName := ⟨RX4, "isTrough", "(I)Z"⟩
abbrev cX4_isCalm : ByteArray := prog_6_method_18_code
def yX4_isCalm : MethodName := ⟨RX4, "isCalm", "()Z"⟩
abbrev cX4_cellsThatAre : ByteArray := prog_6_method_19_code
def yX4_cellsThatAre : MethodName := ⟨RX4, "cellsThatAre", "(I)J"⟩
abbrev cX4_isPlace : ByteArray := prog_6_method_20_code
def yX4_isPlace : MethodName := ⟨RX4, "isPlace", "(II)Z"⟩
abbrev cX4_sumOfLevels : ByteArray := prog_6_method_21_code
def yX4_sumOfLevels : MethodName := ⟨RX4, "sumOfLevels", "()I"⟩
abbrev cX4_motion : ByteArray := prog_6_method_22_code
def yX4_motion : MethodName := ⟨RX4, "motion", "()I"⟩
abbrev cX4_farthestLevel : ByteArray := prog_6_method_23_code
def yX4_farthestLevel : MethodName := ⟨RX4, "farthestLevel", "()I"⟩
abbrev cX4_lastUnevenCell : ByteArray := prog_6_method_24_code
def yX4_lastUnevenCell : MethodName := ⟨RX4, "lastUnevenCell", "()I"⟩
def RX5 : String := "PaddleRows"
def TX5 : u_T := fun k => match k with
  | 0 => ("PaddleRows", "tank", "LPaddleRows$Tank;", true)
  | 1 => ("PaddleRows", "pad", "LPaddleRows$Pad;", true)
  | 2 => ("PaddleRows", "history", "LPaddleRows$History;", true)
  | 3 => ("PaddleRows", "slots", "[LPaddleRows$Tank;", true)
  | 4 => ("PaddleRows", "slotFilled", "[Z", true)
  | 5 => ("PaddleRows", "before", "LPaddleRows$Tank;", true)
  | _ => ("PaddleRows", "trial", "LPaddleRows$Tank;", true)
def tyX5 : Nat → FieldType := fun k => match k with
  | 0 => .object "PaddleRows$Tank"
  | 1 => .object "PaddleRows$Pad"
  | 2 => .object "PaddleRows$History"
  | 3 => .array (.object "PaddleRows$Tank")
  | 4 => .array .boolean
  | 5 => .object "PaddleRows$Tank"
  | _ => .object "PaddleRows$Tank"
theorem nmX5 : ∀ a, a < 7 → ∀ b, b < 7 → a ≠ b → (TX5 a).2.1 ≠ (TX5 b).2.1 := by decide +kernel
theorem tyX5_ok : ∀ k, k < 7 → parseFieldDescriptor (TX5 k).2.2.1 = some (tyX5 k) := by decide +kernel
abbrev cX5_init : ByteArray := prog_1_method_1_code
def yX5_init : MethodName := ⟨RX5, "<init>", "()V"⟩
abbrev cX5_set : ByteArray := prog_1_method_2_code
def yX5_set : MethodName := ⟨RX5, "set", "(II)I"⟩
abbrev cX5_paddle : ByteArray := prog_1_method_3_code
def yX5_paddle : MethodName := ⟨RX5, "paddle", "(IIIII)I"⟩
abbrev cX5_lift : ByteArray := prog_1_method_4_code
def yX5_lift : MethodName := ⟨RX5, "lift", "(I)I"⟩
abbrev cX5_again : ByteArray := prog_1_method_5_code
def yX5_again : MethodName := ⟨RX5, "again", "(I)I"⟩
abbrev cX5_gauge : ByteArray := prog_1_method_6_code
def yX5_gauge : MethodName := ⟨RX5, "gauge", "(I)I"⟩
abbrev cX5_level : ByteArray := prog_1_method_7_code
def yX5_level : MethodName := ⟨RX5, "level", "(II)I"⟩
abbrev cX5_pass : ByteArray := prog_1_method_8_code
def yX5_pass : MethodName := ⟨RX5, "pass", "(I)I"⟩
abbrev cX5_recorded : ByteArray := prog_1_method_9_code
def yX5_recorded : MethodName := ⟨RX5, "recorded", "(I)I"⟩
abbrev cX5_cell : ByteArray := prog_1_method_10_code
def yX5_cell : MethodName := ⟨RX5, "cell", "(II)I"⟩
abbrev cX5_ofPaddle : ByteArray := prog_1_method_11_code
def yX5_ofPaddle : MethodName := ⟨RX5, "ofPaddle", "(II)I"⟩
abbrev cX5_ofGauge : ByteArray := prog_1_method_12_code
def yX5_ofGauge : MethodName := ⟨RX5, "ofGauge", "(II)I"⟩
abbrev cX5_noted : ByteArray := prog_1_method_13_code
def yX5_noted : MethodName := ⟨RX5, "noted", "(II)I"⟩
abbrev cX5_places : ByteArray := prog_1_method_14_code
def yX5_places : MethodName := ⟨RX5, "places", "(I)J"⟩
abbrev cX5_count : ByteArray := prog_1_method_15_code
def yX5_count : MethodName := ⟨RX5, "count", "(I)I"⟩
abbrev cX5_reaches : ByteArray := prog_1_method_16_code
def yX5_reaches : MethodName := ⟨RX5, "reaches", "(II)I"⟩
abbrev cX5_bestPeriod : ByteArray := prog_1_method_17_code
def yX5_bestPeriod : MethodName := ⟨RX5, "bestPeriod", "(IIII)I"⟩
abbrev cX5_peakWithPeriod : ByteArray := prog_1_method_18_code
def yX5_peakWithPeriod : MethodName := ⟨RX5, "peakWithPeriod", "(IIII)I"⟩
abbrev cX5_calmIn : ByteArray := prog_1_method_19_code
def yX5_calmIn : MethodName := ⟨RX5, "calmIn", "()I"⟩
abbrev cX5_put : ByteArray := prog_1_method_20_code
def yX5_put : MethodName := ⟨RX5, "put", "(J)I"⟩
abbrev cX5_wipe : ByteArray := prog_1_method_21_code
def yX5_wipe : MethodName := ⟨RX5, "wipe", "()I"⟩
abbrev cX5_fault : ByteArray := prog_1_method_22_code
def yX5_fault : MethodName := ⟨RX5, "fault", "()I"⟩
abbrev cX5_carryOut : ByteArray := prog_1_method_23_code
def yX5_carryOut : MethodName := ⟨RX5, "carryOut", "()I"⟩
abbrev cX5_carryOrders : ByteArray := prog_1_method_24_code
def yX5_carryOrders : MethodName := ⟨RX5, "carryOrders", "()I"⟩
abbrev cX5_carryOneOrder : ByteArray := prog_1_method_25_code
def yX5_carryOneOrder : MethodName := ⟨RX5, "carryOneOrder", "()I"⟩
abbrev cX5_undo : ByteArray := prog_1_method_26_code
def yX5_undo : MethodName := ⟨RX5, "undo", "()I"⟩
abbrev cX5_save : ByteArray := prog_1_method_27_code
def yX5_save : MethodName := ⟨RX5, "save", "(I)I"⟩
abbrev cX5_restore : ByteArray := prog_1_method_28_code
def yX5_restore : MethodName := ⟨RX5, "restore", "(I)I"⟩
abbrev cX5_isOutside : ByteArray := prog_1_method_29_code
def yX5_isOutside : MethodName := ⟨RX5, "isOutside", "(II)Z"⟩
abbrev cX5_asNumber : ByteArray := prog_1_method_30_code
def yX5_asNumber : MethodName := ⟨RX5, "asNumber", "(Z)I"⟩
abbrev cX5_withinBounds : ByteArray := prog_1_method_31_code
def yX5_withinBounds : MethodName := ⟨RX5, "withinBounds", "(I)I"⟩
def RX6 : String := "PaddleRowsModel"
def TX6 : u_T := fun k => match k with
  | 0 => ("PaddleRowsModel", "state", "[I", true)
  | 1 => ("PaddleRowsModel", "kept", "[I", true)
  | 2 => ("PaddleRowsModel", "history", "[I", true)
  | 3 => ("PaddleRowsModel", "recorded", "I", false)
  | 4 => ("PaddleRowsModel", "slots", "[I", true)
  | 5 => ("PaddleRowsModel", "isSaved", "[I", true)
  | 6 => ("PaddleRowsModel", "pad", "[I", true)
  | 7 => ("PaddleRowsModel", "padLength", "I", false)
  | 8 => ("PaddleRowsModel", "at", "I", false)
  | 9 => ("PaddleRowsModel", "letter", "I", false)
  | 10 => ("PaddleRowsModel", "sortTold", "I", false)
  | 11 => ("PaddleRowsModel", "numbers", "[I", true)
  | _ => ("PaddleRowsModel", "numbersMany", "I", false)
def tyX6 : Nat → FieldType := fun k => match k with
  | 0 => .array .int
  | 1 => .array .int
  | 2 => .array .int
  | 3 => .int
  | 4 => .array .int
  | 5 => .array .int
  | 6 => .array .int
  | 7 => .int
  | 8 => .int
  | 9 => .int
  | 10 => .int
  | 11 => .array .int
  | _ => .int
theorem nmX6 : ∀ a, a < 13 → ∀ b, b < 13 → a ≠ b → (TX6 a).2.1 ≠ (TX6 b).2.1 := by decide +kernel
theorem tyX6_ok : ∀ k, k < 13 → parseFieldDescriptor (TX6 k).2.2.1 = some (tyX6 k) := by decide +kernel
abbrev cX6_init : ByteArray := prog_8_method_1_code
def yX6_init : MethodName := ⟨RX6, "<init>", "()V"⟩
abbrev cX6_moves : ByteArray := prog_8_method_3_code
def yX6_moves : MethodName := ⟨RX6, "moves", "([II[II)V"⟩
abbrev cX6_within : ByteArray := prog_8_method_4_code
def yX6_within : MethodName := ⟨RX6, "within", "(III)Z"⟩
abbrev cX6_size : ByteArray := prog_8_method_5_code
def yX6_size : MethodName := ⟨RX6, "size", "(I)I"⟩
abbrev cX6_bounded : ByteArray := prog_8_method_6_code
def yX6_bounded : MethodName := ⟨RX6, "bounded", "(I)I"⟩
abbrev cX6_record : ByteArray := prog_8_method_7_code
def yX6_record : MethodName := ⟨RX6, "record", "()V"⟩
abbrev cX6_isCell : ByteArray := prog_8_method_8_code
def yX6_isCell : MethodName := ⟨RX6, "isCell", "(I)Z"⟩
abbrev cX6_levelOf : ByteArray := prog_8_method_9_code
def yX6_levelOf : MethodName := ⟨RX6, "levelOf", "(I)I"⟩
abbrev cX6_paddlePart : ByteArray := prog_8_method_10_code
def yX6_paddlePart : MethodName := ⟨RX6, "paddlePart", "(II)I"⟩
abbrev cX6_setPaddle : ByteArray := prog_8_method_11_code
def yX6_setPaddle : MethodName := ⟨RX6, "setPaddle", "(III)V"⟩
abbrev cX6_rankIn : ByteArray := prog_8_method_12_code
def yX6_rankIn : MethodName := ⟨RX6, "rankIn", "(I)I"⟩
abbrev cX6_gaugePart : ByteArray := prog_8_method_13_code
def yX6_gaugePart : MethodName := ⟨RX6, "gaugePart", "(II)I"⟩
abbrev cX6_push : ByteArray := prog_8_method_14_code
def yX6_push : MethodName := ⟨RX6, "push", "(I)I"⟩
abbrev cX6_pushAll : ByteArray := prog_8_method_15_code
def yX6_pushAll : MethodName := ⟨RX6, "pushAll", "()I"⟩
abbrev cX6_swing : ByteArray := prog_8_method_16_code
def yX6_swing : MethodName := ⟨RX6, "swing", "()V"⟩
abbrev cX6_beach : ByteArray := prog_8_method_17_code
def yX6_beach : MethodName := ⟨RX6, "beach", "()V"⟩
abbrev cX6_note : ByteArray := prog_8_method_18_code
def yX6_note : MethodName := ⟨RX6, "note", "()V"⟩
abbrev cX6_step : ByteArray := prog_8_method_19_code
def yX6_step : MethodName := ⟨RX6, "step", "()I"⟩
abbrev cX6_passes : ByteArray := prog_8_method_20_code
def yX6_passes : MethodName := ⟨RX6, "passes", "(I)I"⟩
abbrev cX6_isValue : ByteArray := prog_8_method_21_code
def yX6_isValue : MethodName := ⟨RX6, "isValue", "(II)Z"⟩
abbrev cX6_set : ByteArray := prog_8_method_22_code
def yX6_set : MethodName := ⟨RX6, "set", "(II)I"⟩
abbrev cX6_whyNoPaddle : ByteArray := prog_8_method_23_code
def yX6_whyNoPaddle : MethodName := ⟨RX6, "whyNoPaddle", "(IIIII)I"⟩
abbrev cX6_lifts : ByteArray := prog_8_method_24_code
def yX6_lifts : MethodName := ⟨RX6, "lifts", "(I)V"⟩
abbrev cX6_puts : ByteArray := prog_8_method_25_code
def yX6_puts : MethodName := ⟨RX6, "puts", "(IIIII)V"⟩
abbrev cX6_paddle : ByteArray := prog_8_method_26_code
def yX6_paddle : MethodName := ⟨RX6, "paddle", "(IIIII)I"⟩
abbrev cX6_lift : ByteArray := prog_8_method_27_code
def yX6_lift : MethodName := ⟨RX6, "lift", "(I)I"⟩
abbrev cX6_again : ByteArray := prog_8_method_28_code
def yX6_again : MethodName := ⟨RX6, "again", "(I)I"⟩
abbrev cX6_whyNoGauge : ByteArray := prog_8_method_29_code
def yX6_whyNoGauge : MethodName := ⟨RX6, "whyNoGauge", "(I)I"⟩
abbrev cX6_comesGauge : ByteArray := prog_8_method_30_code
def yX6_comesGauge : MethodName := ⟨RX6, "comesGauge", "(I)I"⟩
abbrev cX6_gauge : ByteArray := prog_8_method_31_code
def yX6_gauge : MethodName := ⟨RX6, "gauge", "(I)I"⟩
abbrev cX6_level : ByteArray := prog_8_method_32_code
def yX6_level : MethodName := ⟨RX6, "level", "(II)I"⟩
abbrev cX6_whyNotPassed : ByteArray := prog_8_method_33_code
def yX6_whyNotPassed : MethodName := ⟨RX6, "whyNotPassed", "(I)I"⟩
abbrev cX6_pass : ByteArray := prog_8_method_34_code
def yX6_pass : MethodName := ⟨RX6, "pass", "(I)I"⟩
abbrev cX6_isCrest : ByteArray := prog_8_method_35_code
def yX6_isCrest : MethodName := ⟨RX6, "isCrest", "(I)Z"⟩
abbrev cX6_isTrough : ByteArray := prog_8_method_36_code
def yX6_isTrough : MethodName := ⟨RX6, "isTrough", "(I)Z"⟩
abbrev cX6_cell : ByteArray := prog_8_method_37_code
def yX6_cell : MethodName := ⟨RX6, "cell", "(II)I"⟩
abbrev cX6_isRank : ByteArray := prog_8_method_38_code
def yX6_isRank : MethodName := ⟨RX6, "isRank", "(I)Z"⟩
abbrev cX6_ofPaddle : ByteArray := prog_8_method_39_code
def yX6_ofPaddle : MethodName := ⟨RX6, "ofPaddle", "(II)I"⟩
abbrev cX6_extreme : ByteArray := prog_8_method_40_code
def yX6_extreme : MethodName := ⟨RX6, "extreme", "(IZ)I"⟩
abbrev cX6_risings : ByteArray := prog_8_method_41_code
def yX6_risings : MethodName := ⟨RX6, "risings", "(I)I"⟩
abbrev cX6_isGauge : ByteArray := prog_8_method_42_code
def yX6_isGauge : MethodName := ⟨RX6, "isGauge", "(I)Z"⟩
abbrev cX6_ofGauge : ByteArray := prog_8_method_43_code
def yX6_ofGauge : MethodName := ⟨RX6, "ofGauge", "(II)I"⟩
abbrev cX6_noted : ByteArray := prog_8_method_44_code
def yX6_noted : MethodName := ⟨RX6, "noted", "(II)I"⟩
abbrev cX6_isPlace : ByteArray := prog_8_method_45_code
def yX6_isPlace : MethodName := ⟨RX6, "isPlace", "(II)Z"⟩
abbrev cX6_places : ByteArray := prog_8_method_46_code
def yX6_places : MethodName := ⟨RX6, "places", "(I)J"⟩
abbrev cX6_stopped : ByteArray := prog_8_method_47_code
def yX6_stopped : MethodName := ⟨RX6, "stopped", "()I"⟩
abbrev cX6_sumOfLevels : ByteArray := prog_8_method_48_code
def yX6_sumOfLevels : MethodName := ⟨RX6, "sumOfLevels", "()I"⟩
abbrev cX6_swings : ByteArray := prog_8_method_49_code
def yX6_swings : MethodName := ⟨RX6, "swings", "()I"⟩
abbrev cX6_greatest : ByteArray := prog_8_method_50_code
def yX6_greatest : MethodName := ⟨RX6, "greatest", "()I"⟩
abbrev cX6_lastSwung : ByteArray := prog_8_method_51_code
def yX6_lastSwung : MethodName := ⟨RX6, "lastSwung", "()I"⟩
abbrev cX6_count : ByteArray := prog_8_method_52_code
def yX6_count : MethodName := ⟨RX6, "count", "(I)I"⟩
abbrev cX6_reaches : ByteArray := prog_8_method_53_code
def yX6_reaches : MethodName := ⟨RX6, "reaches", "(II)I"⟩
abbrev cX6_bestPeriod : ByteArray := prog_8_method_54_code
def yX6_bestPeriod : MethodName := ⟨RX6, "bestPeriod", "(IIII)I"⟩
abbrev cX6_calmIn : ByteArray := prog_8_method_55_code
def yX6_calmIn : MethodName := ⟨RX6, "calmIn", "()I"⟩
abbrev cX6_put : ByteArray := prog_8_method_56_code
def yX6_put : MethodName := ⟨RX6, "put", "(J)I"⟩
abbrev cX6_wipe : ByteArray := prog_8_method_57_code
def yX6_wipe : MethodName := ⟨RX6, "wipe", "()I"⟩
abbrev cX6_character : ByteArray := prog_8_method_58_code
def yX6_character : MethodName := ⟨RX6, "character", "(I)I"⟩
abbrev cX6_isNext : ByteArray := prog_8_method_59_code
def yX6_isNext : MethodName := ⟨RX6, "isNext", "(I)Z"⟩
abbrev cX6_isDigit : ByteArray := prog_8_method_60_code
def yX6_isDigit : MethodName := ⟨RX6, "isDigit", "()Z"⟩
abbrev cX6_takesNumber : ByteArray := prog_8_method_61_code
def yX6_takesNumber : MethodName := ⟨RX6, "takesNumber", "(I)Z"⟩
abbrev cX6_takesValue : ByteArray := prog_8_method_62_code
def yX6_takesValue : MethodName := ⟨RX6, "takesValue", "()Z"⟩
abbrev cX6_takesSort : ByteArray := prog_8_method_63_code
def yX6_takesSort : MethodName := ⟨RX6, "takesSort", "()Z"⟩
abbrev cX6_takesRecipe : ByteArray := prog_8_method_64_code
def yX6_takesRecipe : MethodName := ⟨RX6, "takesRecipe", "()Z"⟩
abbrev cX6_readsOrder : ByteArray := prog_8_method_65_code
def yX6_readsOrder : MethodName := ⟨RX6, "readsOrder", "()Z"⟩
abbrev cX6_findFault : ByteArray := prog_8_method_66_code
def yX6_findFault : MethodName := ⟨RX6, "findFault", "()I"⟩
abbrev cX6_fault : ByteArray := prog_8_method_67_code
def yX6_fault : MethodName := ⟨RX6, "fault", "()I"⟩
abbrev cX6_canDo : ByteArray := prog_8_method_68_code
def yX6_canDo : MethodName := ⟨RX6, "canDo", "()Z"⟩
abbrev cX6_does : ByteArray := prog_8_method_69_code
def yX6_does : MethodName := ⟨RX6, "does", "()V"⟩
abbrev cX6_carryOut : ByteArray := prog_8_method_70_code
def yX6_carryOut : MethodName := ⟨RX6, "carryOut", "()I"⟩
abbrev cX6_undo : ByteArray := prog_8_method_71_code
def yX6_undo : MethodName := ⟨RX6, "undo", "()I"⟩
abbrev cX6_save : ByteArray := prog_8_method_72_code
def yX6_save : MethodName := ⟨RX6, "save", "(I)I"⟩
abbrev cX6_restore : ByteArray := prog_8_method_73_code
def yX6_restore : MethodName := ⟨RX6, "restore", "(I)I"⟩
def RJ13 : String := "java/lang/Long"
abbrev cJ13_bitCount_95d88 : ByteArray := prog_10_method_50_code
def yJ13_bitCount_95d88 : MethodName := ⟨RJ13, "bitCount", "(J)I"⟩
def RJ9 : String := "java/lang/Math"
abbrev cJ9_floorMod_7cf53 : ByteArray := prog_11_method_50_code
def yJ9_floorMod_7cf53 : MethodName := ⟨RJ9, "floorMod", "(II)I"⟩
abbrev cJ9_abs_0f7a4 : ByteArray := prog_11_method_59_code
def yJ9_abs_0f7a4 : MethodName := ⟨RJ9, "abs", "(I)I"⟩
abbrev cJ9_max_7cf53 : ByteArray := prog_11_method_65_code
def yJ9_max_7cf53 : MethodName := ⟨RJ9, "max", "(II)I"⟩
abbrev cJ9_min_7cf53 : ByteArray := prog_11_method_69_code
def yJ9_min_7cf53 : MethodName := ⟨RJ9, "min", "(II)I"⟩
def RJ10 : String := "java/lang/System"
def RL : String := "PaddleRowsLaw"
abbrev cL_law : ByteArray := code
def yL_law : MethodName := ⟨RL, "law", "([I)Z"⟩
abbrev vwCl : List vw_C := [(RX0, TX0, 4), (RX1, TX1, 2), (RX2, TX2, 9), (RX3, TX3, 6), (RX4, TX4, 8), (RX5, TX5, 7), (RX6, TX6, 13)]
/-- a method: its name, its code, the size of its locals, what it returns -/
abbrev Mt : Type := MethodName × ByteArray × Nat × Option FieldType
abbrev mX0_init : Mt := (yX0_init, cX0_init, 1, none)
abbrev mX0_copyFrom : Mt := (yX0_copyFrom, cX0_copyFrom, 2, none)
abbrev mX0_startIn : Mt := (yX0_startIn, cX0_startIn, 2, none)
abbrev mX0_note : Mt := (yX0_note, cX0_note, 2, none)
abbrev mX0_levelAgo : Mt := (yX0_levelAgo, cX0_levelAgo, 2, (some .int))
abbrev mX0_greatest : Mt := (yX0_greatest, cX0_greatest, 3, (some .int))
abbrev mX0_least : Mt := (yX0_least, cX0_least, 3, (some .int))
abbrev mX0_rises : Mt := (yX0_rises, cX0_rises, 3, (some .int))
abbrev mX1_init : Mt := (yX1_init, cX1_init, 2, none)
abbrev mX1_push : Mt := (yX1_push, cX1_push, 2, none)
abbrev mX1_dropOldest : Mt := (yX1_dropOldest, cX1_dropOldest, 3, none)
abbrev mX1_popInto : Mt := (yX1_popInto, cX1_popInto, 2, none)
abbrev mX2_init : Mt := (yX2_init, cX2_init, 1, none)
abbrev mX2_append : Mt := (yX2_append, cX2_append, 7, (some .int))
abbrev mX2_countOf : Mt := (yX2_countOf, cX2_countOf, 6, (some .int))
abbrev mX2_findFault : Mt := (yX2_findFault, cX2_findFault, 2, (some .int))
abbrev mX2_readOrder : Mt := (yX2_readOrder, cX2_readOrder, 1, (some .boolean))
abbrev mX2_readPaddle : Mt := (yX2_readPaddle, cX2_readPaddle, 1, (some .boolean))
abbrev mX2_readTarget : Mt := (yX2_readTarget, cX2_readTarget, 1, (some .boolean))
abbrev mX2_readSort : Mt := (yX2_readSort, cX2_readSort, 1, (some .boolean))
abbrev mX2_readValue : Mt := (yX2_readValue, cX2_readValue, 3, (some .boolean))
abbrev mX2_readNumber : Mt := (yX2_readNumber, cX2_readNumber, 3, (some .int))
abbrev mX2_isDigitHere : Mt := (yX2_isDigitHere, cX2_isDigitHere, 1, (some .boolean))
abbrev mX2_accept : Mt := (yX2_accept, cX2_accept, 2, (some .boolean))
abbrev mX2_signHere : Mt := (yX2_signHere, cX2_signHere, 1, (some .int))
abbrev mX3_init : Mt := (yX3_init, cX3_init, 1, none)
abbrev mX3_copyFrom : Mt := (yX3_copyFrom, cX3_copyFrom, 2, none)
abbrev mX3_isRecipe : Mt := (yX3_isRecipe, cX3_isRecipe, 4, (some .boolean))
abbrev mX3_pushAt : Mt := (yX3_pushAt, cX3_pushAt, 3, (some .int))
abbrev mX4_init : Mt := (yX4_init, cX4_init, 2, none)
abbrev mX4_copyFrom : Mt := (yX4_copyFrom, cX4_copyFrom, 3, none)
abbrev mX4_changeSetting : Mt := (yX4_changeSetting, cX4_changeSetting, 4, (some .int))
abbrev mX4_placePaddle : Mt := (yX4_placePaddle, cX4_placePaddle, 8, (some .int))
abbrev mX4_rankIn : Mt := (yX4_rankIn, cX4_rankIn, 3, (some .int))
abbrev mX4_openRank : Mt := (yX4_openRank, cX4_openRank, 4, (some .int))
abbrev mX4_removePaddle : Mt := (yX4_removePaddle, cX4_removePaddle, 5, (some .int))
abbrev mX4_startPaddle : Mt := (yX4_startPaddle, cX4_startPaddle, 4, (some .int))
abbrev mX4_placeGauge : Mt := (yX4_placeGauge, cX4_placeGauge, 2, (some .int))
abbrev mX4_changeLevel : Mt := (yX4_changeLevel, cX4_changeLevel, 4, (some .int))
abbrev mX4_passSteps : Mt := (yX4_passSteps, cX4_passSteps, 4, (some .int))
abbrev mX4_step : Mt := (yX4_step, cX4_step, 3, (some .int))
abbrev mX4_movePaddles : Mt := (yX4_movePaddles, cX4_movePaddles, 4, (some .int))
abbrev mX4_moveWater : Mt := (yX4_moveWater, cX4_moveWater, 6, none)
abbrev mX4_calmBeach : Mt := (yX4_calmBeach, cX4_calmBeach, 3, none)
abbrev mX4_isCrest : Mt := (yX4_isCrest, cX4_isCrest, 2, (some .boolean))
abbrev mX4_isTrough : Mt := (yX4_isTrough, cX4_isTrough, 2, (some .boolean))
abbrev mX4_isCalm : Mt := (yX4_isCalm, cX4_isCalm, 2, (some .boolean))
abbrev mX4_cellsThatAre : Mt := (yX4_cellsThatAre, cX4_cellsThatAre, 5, (some .long))
abbrev mX4_isPlace : Mt := (yX4_isPlace, cX4_isPlace, 4, (some .boolean))
abbrev mX4_sumOfLevels : Mt := (yX4_sumOfLevels, cX4_sumOfLevels, 3, (some .int))
abbrev mX4_motion : Mt := (yX4_motion, cX4_motion, 3, (some .int))
abbrev mX4_farthestLevel : Mt := (yX4_farthestLevel, cX4_farthestLevel, 3, (some .int))
abbrev mX4_lastUnevenCell : Mt := (yX4_lastUnevenCell, cX4_lastUnevenCell, 2, (some .int))
abbrev mX5_init : Mt := (yX5_init, cX5_init, 2, none)
abbrev mX5_set : Mt := (yX5_set, cX5_set, 3, (some .int))
abbrev mX5_paddle : Mt := (yX5_paddle, cX5_paddle, 6, (some .int))
abbrev mX5_lift : Mt := (yX5_lift, cX5_lift, 2, (some .int))
abbrev mX5_again : Mt := (yX5_again, cX5_again, 2, (some .int))
abbrev mX5_gauge : Mt := (yX5_gauge, cX5_gauge, 2, (some .int))
abbrev mX5_level : Mt := (yX5_level, cX5_level, 3, (some .int))
abbrev mX5_pass : Mt := (yX5_pass, cX5_pass, 2, (some .int))
abbrev mX5_recorded : Mt := (yX5_recorded, cX5_recorded, 2, (some .int))
abbrev mX5_cell : Mt := (yX5_cell, cX5_cell, 3, (some .int))
abbrev mX5_ofPaddle : Mt := (yX5_ofPaddle, cX5_ofPaddle, 4, (some .int))
abbrev mX5_ofGauge : Mt := (yX5_ofGauge, cX5_ofGauge, 4, (some .int))
abbrev mX5_noted : Mt := (yX5_noted, cX5_noted, 4, (some .int))
abbrev mX5_places : Mt := (yX5_places, cX5_places, 2, (some .long))
abbrev mX5_count : Mt := (yX5_count, cX5_count, 2, (some .int))
abbrev mX5_reaches : Mt := (yX5_reaches, cX5_reaches, 4, (some .int))
abbrev mX5_bestPeriod : Mt := (yX5_bestPeriod, cX5_bestPeriod, 9, (some .int))
abbrev mX5_peakWithPeriod : Mt := (yX5_peakWithPeriod, cX5_peakWithPeriod, 7, (some .int))
abbrev mX5_calmIn : Mt := (yX5_calmIn, cX5_calmIn, 2, (some .int))
abbrev mX5_put : Mt := (yX5_put, cX5_put, 3, (some .int))
abbrev mX5_wipe : Mt := (yX5_wipe, cX5_wipe, 2, (some .int))
abbrev mX5_fault : Mt := (yX5_fault, cX5_fault, 1, (some .int))
abbrev mX5_carryOut : Mt := (yX5_carryOut, cX5_carryOut, 2, (some .int))
abbrev mX5_carryOrders : Mt := (yX5_carryOrders, cX5_carryOrders, 2, (some .int))
abbrev mX5_carryOneOrder : Mt := (yX5_carryOneOrder, cX5_carryOneOrder, 1, (some .int))
abbrev mX5_undo : Mt := (yX5_undo, cX5_undo, 1, (some .int))
abbrev mX5_save : Mt := (yX5_save, cX5_save, 2, (some .int))
abbrev mX5_restore : Mt := (yX5_restore, cX5_restore, 2, (some .int))
abbrev mX5_isOutside : Mt := (yX5_isOutside, cX5_isOutside, 2, (some .boolean))
abbrev mX5_asNumber : Mt := (yX5_asNumber, cX5_asNumber, 1, (some .int))
abbrev mX5_withinBounds : Mt := (yX5_withinBounds, cX5_withinBounds, 1, (some .int))
abbrev mX6_init : Mt := (yX6_init, cX6_init, 1, none)
abbrev mX6_moves : Mt := (yX6_moves, cX6_moves, 5, none)
abbrev mX6_within : Mt := (yX6_within, cX6_within, 3, (some .boolean))
abbrev mX6_size : Mt := (yX6_size, cX6_size, 1, (some .int))
abbrev mX6_bounded : Mt := (yX6_bounded, cX6_bounded, 1, (some .int))
abbrev mX6_record : Mt := (yX6_record, cX6_record, 2, none)
abbrev mX6_isCell : Mt := (yX6_isCell, cX6_isCell, 1, (some .boolean))
abbrev mX6_levelOf : Mt := (yX6_levelOf, cX6_levelOf, 2, (some .int))
abbrev mX6_paddlePart : Mt := (yX6_paddlePart, cX6_paddlePart, 3, (some .int))
abbrev mX6_setPaddle : Mt := (yX6_setPaddle, cX6_setPaddle, 4, none)
abbrev mX6_rankIn : Mt := (yX6_rankIn, cX6_rankIn, 4, (some .int))
abbrev mX6_gaugePart : Mt := (yX6_gaugePart, cX6_gaugePart, 3, (some .int))
abbrev mX6_push : Mt := (yX6_push, cX6_push, 6, (some .int))
abbrev mX6_pushAll : Mt := (yX6_pushAll, cX6_pushAll, 5, (some .int))
abbrev mX6_swing : Mt := (yX6_swing, cX6_swing, 5, none)
abbrev mX6_beach : Mt := (yX6_beach, cX6_beach, 3, none)
abbrev mX6_note : Mt := (yX6_note, cX6_note, 4, none)
abbrev mX6_step : Mt := (yX6_step, cX6_step, 2, (some .int))
abbrev mX6_passes : Mt := (yX6_passes, cX6_passes, 4, (some .int))
abbrev mX6_isValue : Mt := (yX6_isValue, cX6_isValue, 2, (some .boolean))
abbrev mX6_set : Mt := (yX6_set, cX6_set, 4, (some .int))
abbrev mX6_whyNoPaddle : Mt := (yX6_whyNoPaddle, cX6_whyNoPaddle, 6, (some .int))
abbrev mX6_lifts : Mt := (yX6_lifts, cX6_lifts, 3, none)
abbrev mX6_puts : Mt := (yX6_puts, cX6_puts, 8, none)
abbrev mX6_paddle : Mt := (yX6_paddle, cX6_paddle, 7, (some .int))
abbrev mX6_lift : Mt := (yX6_lift, cX6_lift, 2, (some .int))
abbrev mX6_again : Mt := (yX6_again, cX6_again, 4, (some .int))
abbrev mX6_whyNoGauge : Mt := (yX6_whyNoGauge, cX6_whyNoGauge, 2, (some .int))
abbrev mX6_comesGauge : Mt := (yX6_comesGauge, cX6_comesGauge, 4, (some .int))
abbrev mX6_gauge : Mt := (yX6_gauge, cX6_gauge, 3, (some .int))
abbrev mX6_level : Mt := (yX6_level, cX6_level, 4, (some .int))
abbrev mX6_whyNotPassed : Mt := (yX6_whyNotPassed, cX6_whyNotPassed, 2, (some .int))
abbrev mX6_pass : Mt := (yX6_pass, cX6_pass, 3, (some .int))
abbrev mX6_isCrest : Mt := (yX6_isCrest, cX6_isCrest, 2, (some .boolean))
abbrev mX6_isTrough : Mt := (yX6_isTrough, cX6_isTrough, 2, (some .boolean))
abbrev mX6_cell : Mt := (yX6_cell, cX6_cell, 3, (some .int))
abbrev mX6_isRank : Mt := (yX6_isRank, cX6_isRank, 2, (some .boolean))
abbrev mX6_ofPaddle : Mt := (yX6_ofPaddle, cX6_ofPaddle, 3, (some .int))
abbrev mX6_extreme : Mt := (yX6_extreme, cX6_extreme, 7, (some .int))
abbrev mX6_risings : Mt := (yX6_risings, cX6_risings, 4, (some .int))
abbrev mX6_isGauge : Mt := (yX6_isGauge, cX6_isGauge, 2, (some .boolean))
abbrev mX6_ofGauge : Mt := (yX6_ofGauge, cX6_ofGauge, 3, (some .int))
abbrev mX6_noted : Mt := (yX6_noted, cX6_noted, 3, (some .int))
abbrev mX6_isPlace : Mt := (yX6_isPlace, cX6_isPlace, 4, (some .boolean))
abbrev mX6_places : Mt := (yX6_places, cX6_places, 5, (some .long))
abbrev mX6_stopped : Mt := (yX6_stopped, cX6_stopped, 3, (some .int))
abbrev mX6_sumOfLevels : Mt := (yX6_sumOfLevels, cX6_sumOfLevels, 3, (some .int))
abbrev mX6_swings : Mt := (yX6_swings, cX6_swings, 3, (some .int))
abbrev mX6_greatest : Mt := (yX6_greatest, cX6_greatest, 3, (some .int))
abbrev mX6_lastSwung : Mt := (yX6_lastSwung, cX6_lastSwung, 3, (some .int))
abbrev mX6_count : Mt := (yX6_count, cX6_count, 2, (some .int))
abbrev mX6_reaches : Mt := (yX6_reaches, cX6_reaches, 5, (some .int))
abbrev mX6_bestPeriod : Mt := (yX6_bestPeriod, cX6_bestPeriod, 10, (some .int))
abbrev mX6_calmIn : Mt := (yX6_calmIn, cX6_calmIn, 3, (some .int))
abbrev mX6_put : Mt := (yX6_put, cX6_put, 8, (some .int))
abbrev mX6_wipe : Mt := (yX6_wipe, cX6_wipe, 2, (some .int))
abbrev mX6_character : Mt := (yX6_character, cX6_character, 2, (some .int))
abbrev mX6_isNext : Mt := (yX6_isNext, cX6_isNext, 3, (some .boolean))
abbrev mX6_isDigit : Mt := (yX6_isDigit, cX6_isDigit, 1, (some .boolean))
abbrev mX6_takesNumber : Mt := (yX6_takesNumber, cX6_takesNumber, 3, (some .boolean))
abbrev mX6_takesValue : Mt := (yX6_takesValue, cX6_takesValue, 1, (some .boolean))
abbrev mX6_takesSort : Mt := (yX6_takesSort, cX6_takesSort, 2, (some .boolean))
abbrev mX6_takesRecipe : Mt := (yX6_takesRecipe, cX6_takesRecipe, 2, (some .boolean))
abbrev mX6_readsOrder : Mt := (yX6_readsOrder, cX6_readsOrder, 1, (some .boolean))
abbrev mX6_findFault : Mt := (yX6_findFault, cX6_findFault, 1, (some .int))
abbrev mX6_fault : Mt := (yX6_fault, cX6_fault, 1, (some .int))
abbrev mX6_canDo : Mt := (yX6_canDo, cX6_canDo, 1, (some .boolean))
abbrev mX6_does : Mt := (yX6_does, cX6_does, 1, none)
abbrev mX6_carryOut : Mt := (yX6_carryOut, cX6_carryOut, 3, (some .int))
abbrev mX6_undo : Mt := (yX6_undo, cX6_undo, 1, (some .int))
abbrev mX6_save : Mt := (yX6_save, cX6_save, 2, (some .int))
abbrev mX6_restore : Mt := (yX6_restore, cX6_restore, 2, (some .int))
abbrev mJ13_bitCount_95d88 : Mt := (yJ13_bitCount_95d88, cJ13_bitCount_95d88, 2, (some .int))
abbrev mJ9_floorMod_7cf53 : Mt := (yJ9_floorMod_7cf53, cJ9_floorMod_7cf53, 3, (some .int))
abbrev mJ9_abs_0f7a4 : Mt := (yJ9_abs_0f7a4, cJ9_abs_0f7a4, 1, (some .int))
abbrev mJ9_max_7cf53 : Mt := (yJ9_max_7cf53, cJ9_max_7cf53, 2, (some .int))
abbrev mJ9_min_7cf53 : Mt := (yJ9_min_7cf53, cJ9_min_7cf53, 2, (some .int))
abbrev mL_law : Mt := (yL_law, cL_law, 4, some .boolean)
end
section
theorem dX0_init_0 : decode cX0_init 0 = .ok (.aload_n 0, 1) := by decide +kernel
theorem dX0_init_1 : decode cX0_init 1 = .ok (.invokespecial 3, 3) := by decide +kernel
theorem dX0_init_4 : decode cX0_init 4 = .ok (.aload_n 0, 1) := by decide +kernel
theorem dX0_init_5 : decode cX0_init 5 = .ok (.bipush 60, 2) := by decide +kernel
theorem dX0_init_7 : decode cX0_init 7 = .ok (.newarray .int, 2) := by decide +kernel
theorem dX0_init_9 : decode cX0_init 9 = .ok (.putfield 9, 3) := by decide +kernel
theorem dX0_init_12 : decode cX0_init 12 = .ok (.return_, 1) := by decide +kernel
theorem dX0_copyFrom_0 : decode cX0_copyFrom 0 = .ok (.aload_n 1, 1) := by decide +kernel
theorem dX0_copyFrom_1 : decode cX0_copyFrom 1 = .ok (.getfield 9, 3) := by decide +kernel
theorem dX0_copyFrom_4 : decode cX0_copyFrom 4 = .ok (.iconst 0, 1) := by decide +kernel
theorem dX0_copyFrom_5 : decode cX0_copyFrom 5 = .ok (.aload_n 0, 1) := by decide +kernel
theorem dX0_copyFrom_6 : decode cX0_copyFrom 6 = .ok (.getfield 9, 3) := by decide +kernel
theorem dX0_copyFrom_9 : decode cX0_copyFrom 9 = .ok (.iconst 0, 1) := by decide +kernel
theorem dX0_copyFrom_10 : decode cX0_copyFrom 10 = .ok (.bipush 60, 2) := by decide +kernel
theorem dX0_copyFrom_12 : decode cX0_copyFrom 12 = .ok (.invokestatic 15, 3) := by decide +kernel
theorem dX0_copyFrom_15 : decode cX0_copyFrom 15 = .ok (.aload_n 0, 1) := by decide +kernel
theorem dX0_copyFrom_16 : decode cX0_copyFrom 16 = .ok (.aload_n 1, 1) := by decide +kernel
theorem dX0_copyFrom_17 : decode cX0_copyFrom 17 = .ok (.getfield 21, 3) := by decide +kernel
theorem dX0_copyFrom_20 : decode cX0_copyFrom 20 = .ok (.putfield 21, 3) := by decide +kernel
theorem dX0_copyFrom_23 : decode cX0_copyFrom 23 = .ok (.aload_n 0, 1) := by decide +kernel
theorem dX0_copyFrom_24 : decode cX0_copyFrom 24 = .ok (.aload_n 1, 1) := by decide +kernel
theorem dX0_copyFrom_25 : decode cX0_copyFrom 25 = .ok (.getfield 25, 3) := by decide +kernel
theorem dX0_copyFrom_28 : decode cX0_copyFrom 28 = .ok (.putfield 25, 3) := by decide +kernel
theorem dX0_copyFrom_31 : decode cX0_copyFrom 31 = .ok (.aload_n 0, 1) := by decide +kernel
theorem dX0_copyFrom_32 : decode cX0_copyFrom 32 = .ok (.aload_n 1, 1) := by decide +kernel
theorem dX0_copyFrom_33 : decode cX0_copyFrom 33 = .ok (.getfield 28, 3) := by decide +kernel
theorem dX0_copyFrom_36 : decode cX0_copyFrom 36 = .ok (.putfield 28, 3) := by decide +kernel
theorem dX0_copyFrom_39 : decode cX0_copyFrom 39 = .ok (.return_, 1) := by decide +kernel
theorem dX0_startIn_0 : decode cX0_startIn 0 = .ok (.aload_n 0, 1) := by decide +kernel
theorem dX0_startIn_1 : decode cX0_startIn 1 = .ok (.iload_n 1, 1) := by decide +kernel
theorem dX0_startIn_2 : decode cX0_startIn 2 = .ok (.putfield 21, 3) := by decide +kernel
theorem dX0_startIn_5 : decode cX0_startIn 5 = .ok (.aload_n 0, 1) := by decide +kernel
theorem dX0_startIn_6 : decode cX0_startIn 6 = .ok (.iconst 0, 1) := by decide +kernel
theorem dX0_startIn_7 : decode cX0_startIn 7 = .ok (.putfield 25, 3) := by decide +kernel
theorem dX0_startIn_10 : decode cX0_startIn 10 = .ok (.aload_n 0, 1) := by decide +kernel
theorem dX0_startIn_11 : decode cX0_startIn 11 = .ok (.iconst 0, 1) := by decide +kernel
theorem dX0_startIn_12 : decode cX0_startIn 12 = .ok (.putfield 28, 3) := by decide +kernel
theorem dX0_startIn_15 : decode cX0_startIn 15 = .ok (.return_, 1) := by decide +kernel
theorem dX0_note_0 : decode cX0_note 0 = .ok (.aload_n 0, 1) := by decide +kernel
theorem dX0_note_1 : decode cX0_note 1 = .ok (.getfield 9, 3) := by decide +kernel
theorem dX0_note_4 : decode cX0_note 4 = .ok (.aload_n 0, 1) := by decide +kernel
theorem dX0_note_5 : decode cX0_note 5 = .ok (.getfield 28, 3) := by decide +kernel
theorem dX0_note_8 : decode cX0_note 8 = .ok (.iload_n 1, 1) := by decide +kernel
theorem dX0_note_9 : decode cX0_note 9 = .ok (.iastore, 1) := by decide +kernel
theorem dX0_note_10 : decode cX0_note 10 = .ok (.aload_n 0, 1) := by decide +kernel
theorem dX0_note_11 : decode cX0_note 11 = .ok (.aload_n 0, 1) := by decide +kernel
theorem dX0_note_12 : decode cX0_note 12 = .ok (.getfield 28, 3) := by decide +kernel
theorem dX0_note_15 : decode cX0_note 15 = .ok (.iconst 1, 1) := by decide +kernel
theorem dX0_note_16 : decode cX0_note 16 = .ok (.iadd, 1) := by decide +kernel
theorem dX0_note_17 : decode cX0_note 17 = .ok (.bipush 60, 2) := by decide +kernel
theorem dX0_note_19 : decode cX0_note 19 = .ok (.irem, 1) := by decide +kernel
theorem dX0_note_20 : decode cX0_note 20 = .ok (.putfield 28, 3) := by decide +kernel
theorem dX0_note_23 : decode cX0_note 23 = .ok (.aload_n 0, 1) := by decide +kernel
theorem dX0_note_24 : decode cX0_note 24 = .ok (.aload_n 0, 1) := by decide +kernel
theorem dX0_note_25 : decode cX0_note 25 = .ok (.getfield 25, 3) := by decide +kernel
theorem dX0_note_28 : decode cX0_note 28 = .ok (.iconst 1, 1) := by decide +kernel
theorem dX0_note_29 : decode cX0_note 29 = .ok (.iadd, 1) := by decide +kernel
theorem dX0_note_30 : decode cX0_note 30 = .ok (.bipush 60, 2) := by decide +kernel
theorem dX0_note_32 : decode cX0_note 32 = .ok (.invokestatic 31, 3) := by decide +kernel
theorem dX0_note_35 : decode cX0_note 35 = .ok (.putfield 25, 3) := by decide +kernel
theorem dX0_note_38 : decode cX0_note 38 = .ok (.return_, 1) := by decide +kernel
theorem dX0_levelAgo_0 : decode cX0_levelAgo 0 = .ok (.aload_n 0, 1) := by decide +kernel
theorem dX0_levelAgo_1 : decode cX0_levelAgo 1 = .ok (.getfield 9, 3) := by decide +kernel
theorem dX0_levelAgo_4 : decode cX0_levelAgo 4 = .ok (.aload_n 0, 1) := by decide +kernel
theorem dX0_levelAgo_5 : decode cX0_levelAgo 5 = .ok (.getfield 28, 3) := by decide +kernel
theorem dX0_levelAgo_8 : decode cX0_levelAgo 8 = .ok (.iconst 1, 1) := by decide +kernel
theorem dX0_levelAgo_9 : decode cX0_levelAgo 9 = .ok (.isub, 1) := by decide +kernel
theorem dX0_levelAgo_10 : decode cX0_levelAgo 10 = .ok (.iload_n 1, 1) := by decide +kernel
theorem dX0_levelAgo_11 : decode cX0_levelAgo 11 = .ok (.isub, 1) := by decide +kernel
theorem dX0_levelAgo_12 : decode cX0_levelAgo 12 = .ok (.bipush 60, 2) := by decide +kernel
theorem dX0_levelAgo_14 : decode cX0_levelAgo 14 = .ok (.invokestatic 37, 3) := by decide +kernel
theorem dX0_levelAgo_17 : decode cX0_levelAgo 17 = .ok (.iaload, 1) := by decide +kernel
theorem dX0_levelAgo_18 : decode cX0_levelAgo 18 = .ok (.ireturn, 1) := by decide +kernel
theorem dX0_greatest_0 : decode cX0_greatest 0 = .ok (.sipush (-9999), 3) := by decide +kernel
theorem dX0_greatest_3 : decode cX0_greatest 3 = .ok (.istore_n 1, 1) := by decide +kernel
theorem dX0_greatest_4 : decode cX0_greatest 4 = .ok (.iconst 0, 1) := by decide +kernel
theorem dX0_greatest_5 : decode cX0_greatest 5 = .ok (.istore_n 2, 1) := by decide +kernel
theorem dX0_greatest_6 : decode cX0_greatest 6 = .ok (.iload_n 2, 1) := by decide +kernel
theorem dX0_greatest_7 : decode cX0_greatest 7 = .ok (.aload_n 0, 1) := by decide +kernel
theorem dX0_greatest_8 : decode cX0_greatest 8 = .ok (.getfield 25, 3) := by decide +kernel
theorem dX0_greatest_11 : decode cX0_greatest 11 = .ok (.if_icmp .ge 19, 3) := by decide +kernel
theorem dX0_greatest_14 : decode cX0_greatest 14 = .ok (.iload_n 1, 1) := by decide +kernel
theorem dX0_greatest_15 : decode cX0_greatest 15 = .ok (.aload_n 0, 1) := by decide +kernel
theorem dX0_greatest_16 : decode cX0_greatest 16 = .ok (.iload_n 2, 1) := by decide +kernel
theorem dX0_greatest_17 : decode cX0_greatest 17 = .ok (.invokevirtual 40, 3) := by decide +kernel
theorem dX0_greatest_20 : decode cX0_greatest 20 = .ok (.invokestatic 44, 3) := by decide +kernel
theorem dX0_greatest_23 : decode cX0_greatest 23 = .ok (.istore_n 1, 1) := by decide +kernel
theorem dX0_greatest_24 : decode cX0_greatest 24 = .ok (.iinc 2 1, 3) := by decide +kernel
theorem dX0_greatest_27 : decode cX0_greatest 27 = .ok (.goto (-21), 3) := by decide +kernel
theorem dX0_greatest_30 : decode cX0_greatest 30 = .ok (.iload_n 1, 1) := by decide +kernel
theorem dX0_greatest_31 : decode cX0_greatest 31 = .ok (.ireturn, 1) := by decide +kernel
theorem dX0_least_0 : decode cX0_least 0 = .ok (.sipush 9999, 3) := by decide +kernel
theorem dX0_least_3 : decode cX0_least 3 = .ok (.istore_n 1, 1) := by decide +kernel
theorem dX0_least_4 : decode cX0_least 4 = .ok (.iconst 0, 1) := by decide +kernel
theorem dX0_least_5 : decode cX0_least 5 = .ok (.istore_n 2, 1) := by decide +kernel
theorem dX0_least_6 : decode cX0_least 6 = .ok (.iload_n 2, 1) := by decide +kernel
theorem dX0_least_7 : decode cX0_least 7 = .ok (.aload_n 0, 1) := by decide +kernel
theorem dX0_least_8 : decode cX0_least 8 = .ok (.getfield 25, 3) := by decide +kernel
theorem dX0_least_11 : decode cX0_least 11 = .ok (.if_icmp .ge 19, 3) := by decide +kernel
theorem dX0_least_14 : decode cX0_least 14 = .ok (.iload_n 1, 1) := by decide +kernel
theorem dX0_least_15 : decode cX0_least 15 = .ok (.aload_n 0, 1) := by decide +kernel
theorem dX0_least_16 : decode cX0_least 16 = .ok (.iload_n 2, 1) := by decide +kernel
theorem dX0_least_17 : decode cX0_least 17 = .ok (.invokevirtual 40, 3) := by decide +kernel
theorem dX0_least_20 : decode cX0_least 20 = .ok (.invokestatic 31, 3) := by decide +kernel
theorem dX0_least_23 : decode cX0_least 23 = .ok (.istore_n 1, 1) := by decide +kernel
theorem dX0_least_24 : decode cX0_least 24 = .ok (.iinc 2 1, 3) := by decide +kernel
theorem dX0_least_27 : decode cX0_least 27 = .ok (.goto (-21), 3) := by decide +kernel
theorem dX0_least_30 : decode cX0_least 30 = .ok (.iload_n 1, 1) := by decide +kernel
theorem dX0_least_31 : decode cX0_least 31 = .ok (.ireturn, 1) := by decide +kernel
theorem dX0_rises_0 : decode cX0_rises 0 = .ok (.iconst 0, 1) := by decide +kernel
theorem dX0_rises_1 : decode cX0_rises 1 = .ok (.istore_n 1, 1) := by decide +kernel
theorem dX0_rises_2 : decode cX0_rises 2 = .ok (.iconst 0, 1) := by decide +kernel
theorem dX0_rises_3 : decode cX0_rises 3 = .ok (.istore_n 2, 1) := by decide +kernel
theorem dX0_rises_4 : decode cX0_rises 4 = .ok (.iload_n 2, 1) := by decide +kernel
theorem dX0_rises_5 : decode cX0_rises 5 = .ok (.iconst 1, 1) := by decide +kernel
theorem dX0_rises_6 : decode cX0_rises 6 = .ok (.iadd, 1) := by decide +kernel
theorem dX0_rises_7 : decode cX0_rises 7 = .ok (.aload_n 0, 1) := by decide +kernel
theorem dX0_rises_8 : decode cX0_rises 8 = .ok (.getfield 25, 3) := by decide +kernel
theorem dX0_rises_11 : decode cX0_rises 11 = .ok (.if_icmp .ge 30, 3) := by decide +kernel
theorem dX0_rises_14 : decode cX0_rises 14 = .ok (.aload_n 0, 1) := by decide +kernel
theorem dX0_rises_15 : decode cX0_rises 15 = .ok (.iload_n 2, 1) := by decide +kernel
theorem dX0_rises_16 : decode cX0_rises 16 = .ok (.invokevirtual 40, 3) := by decide +kernel
theorem dX0_rises_19 : decode cX0_rises 19 = .ok (.ifCond .lt 16, 3) := by decide +kernel
theorem dX0_rises_22 : decode cX0_rises 22 = .ok (.aload_n 0, 1) := by decide +kernel
theorem dX0_rises_23 : decode cX0_rises 23 = .ok (.iload_n 2, 1) := by decide +kernel
theorem dX0_rises_24 : decode cX0_rises 24 = .ok (.iconst 1, 1) := by decide +kernel
theorem dX0_rises_25 : decode cX0_rises 25 = .ok (.iadd, 1) := by decide +kernel
theorem dX0_rises_26 : decode cX0_rises 26 = .ok (.invokevirtual 40, 3) := by decide +kernel
theorem dX0_rises_29 : decode cX0_rises 29 = .ok (.ifCond .ge 6, 3) := by decide +kernel
theorem dX0_rises_32 : decode cX0_rises 32 = .ok (.iinc 1 1, 3) := by decide +kernel
theorem dX0_rises_35 : decode cX0_rises 35 = .ok (.iinc 2 1, 3) := by decide +kernel
theorem dX0_rises_38 : decode cX0_rises 38 = .ok (.goto (-34), 3) := by decide +kernel
theorem dX0_rises_41 : decode cX0_rises 41 = .ok (.iload_n 1, 1) := by decide +kernel
theorem dX0_rises_42 : decode cX0_rises 42 = .ok (.ireturn, 1) := by decide +kernel
theorem dX1_init_0 : decode cX1_init 0 = .ok (.aload_n 0, 1) := by decide +kernel
theorem dX1_init_1 : decode cX1_init 1 = .ok (.invokespecial 3, 3) := by decide +kernel
theorem dX1_init_4 : decode cX1_init 4 = .ok (.aload_n 0, 1) := by decide +kernel
theorem dX1_init_5 : decode cX1_init 5 = .ok (.bipush 6, 2) := by decide +kernel
theorem dX1_init_7 : decode cX1_init 7 = .ok (.anewarray 9, 3) := by decide +kernel
theorem dX1_init_10 : decode cX1_init 10 = .ok (.putfield 11, 3) := by decide +kernel
theorem dX1_init_13 : decode cX1_init 13 = .ok (.iconst 0, 1) := by decide +kernel
theorem dX1_init_14 : decode cX1_init 14 = .ok (.istore_n 1, 1) := by decide +kernel
theorem dX1_init_15 : decode cX1_init 15 = .ok (.iload_n 1, 1) := by decide +kernel
theorem dX1_init_16 : decode cX1_init 16 = .ok (.bipush 6, 2) := by decide +kernel
theorem dX1_init_18 : decode cX1_init 18 = .ok (.if_icmp .ge 22, 3) := by decide +kernel
theorem dX1_init_21 : decode cX1_init 21 = .ok (.aload_n 0, 1) := by decide +kernel
theorem dX1_init_22 : decode cX1_init 22 = .ok (.getfield 11, 3) := by decide +kernel
theorem dX1_init_25 : decode cX1_init 25 = .ok (.iload_n 1, 1) := by decide +kernel
theorem dX1_init_26 : decode cX1_init 26 = .ok (.new 9, 3) := by decide +kernel
theorem dX1_init_29 : decode cX1_init 29 = .ok (.dup, 1) := by decide +kernel
theorem dX1_init_30 : decode cX1_init 30 = .ok (.invokespecial 17, 3) := by decide +kernel
theorem dX1_init_33 : decode cX1_init 33 = .ok (.aastore, 1) := by decide +kernel
theorem dX1_init_34 : decode cX1_init 34 = .ok (.iinc 1 1, 3) := by decide +kernel
theorem dX1_init_37 : decode cX1_init 37 = .ok (.goto (-22), 3) := by decide +kernel
theorem dX1_init_40 : decode cX1_init 40 = .ok (.return_, 1) := by decide +kernel
theorem dX1_push_0 : decode cX1_push 0 = .ok (.aload_n 0, 1) := by decide +kernel
theorem dX1_push_1 : decode cX1_push 1 = .ok (.getfield 18, 3) := by decide +kernel
theorem dX1_push_4 : decode cX1_push 4 = .ok (.bipush 6, 2) := by decide +kernel
theorem dX1_push_6 : decode cX1_push 6 = .ok (.if_icmp .lt 7, 3) := by decide +kernel
theorem dX1_push_9 : decode cX1_push 9 = .ok (.aload_n 0, 1) := by decide +kernel
theorem dX1_push_10 : decode cX1_push 10 = .ok (.invokevirtual 22, 3) := by decide +kernel
theorem dX1_push_13 : decode cX1_push 13 = .ok (.aload_n 0, 1) := by decide +kernel
theorem dX1_push_14 : decode cX1_push 14 = .ok (.getfield 11, 3) := by decide +kernel
theorem dX1_push_17 : decode cX1_push 17 = .ok (.aload_n 0, 1) := by decide +kernel
theorem dX1_push_18 : decode cX1_push 18 = .ok (.getfield 18, 3) := by decide +kernel
theorem dX1_push_21 : decode cX1_push 21 = .ok (.aaload, 1) := by decide +kernel
theorem dX1_push_22 : decode cX1_push 22 = .ok (.aload_n 1, 1) := by decide +kernel
theorem dX1_push_23 : decode cX1_push 23 = .ok (.invokevirtual 25, 3) := by decide +kernel
theorem dX1_push_26 : decode cX1_push 26 = .ok (.aload_n 0, 1) := by decide +kernel
theorem dX1_push_27 : decode cX1_push 27 = .ok (.dup, 1) := by decide +kernel
theorem dX1_push_28 : decode cX1_push 28 = .ok (.getfield 18, 3) := by decide +kernel
theorem dX1_push_31 : decode cX1_push 31 = .ok (.iconst 1, 1) := by decide +kernel
theorem dX1_push_32 : decode cX1_push 32 = .ok (.iadd, 1) := by decide +kernel
theorem dX1_push_33 : decode cX1_push 33 = .ok (.putfield 18, 3) := by decide +kernel
theorem dX1_push_36 : decode cX1_push 36 = .ok (.return_, 1) := by decide +kernel
theorem dX1_dropOldest_0 : decode cX1_dropOldest 0 = .ok (.aload_n 0, 1) := by decide +kernel
theorem dX1_dropOldest_1 : decode cX1_dropOldest 1 = .ok (.getfield 11, 3) := by decide +kernel
theorem dX1_dropOldest_4 : decode cX1_dropOldest 4 = .ok (.iconst 0, 1) := by decide +kernel
theorem dX1_dropOldest_5 : decode cX1_dropOldest 5 = .ok (.aaload, 1) := by decide +kernel
theorem dX1_dropOldest_6 : decode cX1_dropOldest 6 = .ok (.astore_n 1, 1) := by decide +kernel
theorem dX1_dropOldest_7 : decode cX1_dropOldest 7 = .ok (.iconst 1, 1) := by decide +kernel
theorem dX1_dropOldest_8 : decode cX1_dropOldest 8 = .ok (.istore_n 2, 1) := by decide +kernel
theorem dX1_dropOldest_9 : decode cX1_dropOldest 9 = .ok (.iload_n 2, 1) := by decide +kernel
theorem dX1_dropOldest_10 : decode cX1_dropOldest 10 = .ok (.bipush 6, 2) := by decide +kernel
theorem dX1_dropOldest_12 : decode cX1_dropOldest 12 = .ok (.if_icmp .ge 23, 3) := by decide +kernel
theorem dX1_dropOldest_15 : decode cX1_dropOldest 15 = .ok (.aload_n 0, 1) := by decide +kernel
theorem dX1_dropOldest_16 : decode cX1_dropOldest 16 = .ok (.getfield 11, 3) := by decide +kernel
theorem dX1_dropOldest_19 : decode cX1_dropOldest 19 = .ok (.iload_n 2, 1) := by decide +kernel
theorem dX1_dropOldest_20 : decode cX1_dropOldest 20 = .ok (.iconst 1, 1) := by decide +kernel
theorem dX1_dropOldest_21 : decode cX1_dropOldest 21 = .ok (.isub, 1) := by decide +kernel
theorem dX1_dropOldest_22 : decode cX1_dropOldest 22 = .ok (.aload_n 0, 1) := by decide +kernel
theorem dX1_dropOldest_23 : decode cX1_dropOldest 23 = .ok (.getfield 11, 3) := by decide +kernel
theorem dX1_dropOldest_26 : decode cX1_dropOldest 26 = .ok (.iload_n 2, 1) := by decide +kernel
theorem dX1_dropOldest_27 : decode cX1_dropOldest 27 = .ok (.aaload, 1) := by decide +kernel
theorem dX1_dropOldest_28 : decode cX1_dropOldest 28 = .ok (.aastore, 1) := by decide +kernel
theorem dX1_dropOldest_29 : decode cX1_dropOldest 29 = .ok (.iinc 2 1, 3) := by decide +kernel
theorem dX1_dropOldest_32 : decode cX1_dropOldest 32 = .ok (.goto (-23), 3) := by decide +kernel
theorem dX1_dropOldest_35 : decode cX1_dropOldest 35 = .ok (.aload_n 0, 1) := by decide +kernel
theorem dX1_dropOldest_36 : decode cX1_dropOldest 36 = .ok (.getfield 11, 3) := by decide +kernel
theorem dX1_dropOldest_39 : decode cX1_dropOldest 39 = .ok (.iconst 5, 1) := by decide +kernel
theorem dX1_dropOldest_40 : decode cX1_dropOldest 40 = .ok (.aload_n 1, 1) := by decide +kernel
theorem dX1_dropOldest_41 : decode cX1_dropOldest 41 = .ok (.aastore, 1) := by decide +kernel
theorem dX1_dropOldest_42 : decode cX1_dropOldest 42 = .ok (.aload_n 0, 1) := by decide +kernel
theorem dX1_dropOldest_43 : decode cX1_dropOldest 43 = .ok (.iconst 5, 1) := by decide +kernel
theorem dX1_dropOldest_44 : decode cX1_dropOldest 44 = .ok (.putfield 18, 3) := by decide +kernel
theorem dX1_dropOldest_47 : decode cX1_dropOldest 47 = .ok (.return_, 1) := by decide +kernel
theorem dX1_popInto_0 : decode cX1_popInto 0 = .ok (.aload_n 0, 1) := by decide +kernel
theorem dX1_popInto_1 : decode cX1_popInto 1 = .ok (.getfield 18, 3) := by decide +kernel
theorem dX1_popInto_4 : decode cX1_popInto 4 = .ok (.ifCond .le 26, 3) := by decide +kernel
theorem dX1_popInto_7 : decode cX1_popInto 7 = .ok (.aload_n 0, 1) := by decide +kernel
theorem dX1_popInto_8 : decode cX1_popInto 8 = .ok (.dup, 1) := by decide +kernel
theorem dX1_popInto_9 : decode cX1_popInto 9 = .ok (.getfield 18, 3) := by decide +kernel
theorem dX1_popInto_12 : decode cX1_popInto 12 = .ok (.iconst 1, 1) := by decide +kernel
theorem dX1_popInto_13 : decode cX1_popInto 13 = .ok (.isub, 1) := by decide +kernel
theorem dX1_popInto_14 : decode cX1_popInto 14 = .ok (.putfield 18, 3) := by decide +kernel
theorem dX1_popInto_17 : decode cX1_popInto 17 = .ok (.aload_n 1, 1) := by decide +kernel
theorem dX1_popInto_18 : decode cX1_popInto 18 = .ok (.aload_n 0, 1) := by decide +kernel
theorem dX1_popInto_19 : decode cX1_popInto 19 = .ok (.getfield 11, 3) := by decide +kernel
theorem dX1_popInto_22 : decode cX1_popInto 22 = .ok (.aload_n 0, 1) := by decide +kernel
theorem dX1_popInto_23 : decode cX1_popInto 23 = .ok (.getfield 18, 3) := by decide +kernel
theorem dX1_popInto_26 : decode cX1_popInto 26 = .ok (.aaload, 1) := by decide +kernel
theorem dX1_popInto_27 : decode cX1_popInto 27 = .ok (.invokevirtual 25, 3) := by decide +kernel
theorem dX1_popInto_30 : decode cX1_popInto 30 = .ok (.return_, 1) := by decide +kernel
theorem dX2_init_0 : decode cX2_init 0 = .ok (.aload_n 0, 1) := by decide +kernel
theorem dX2_init_1 : decode cX2_init 1 = .ok (.invokespecial 3, 3) := by decide +kernel
theorem dX2_init_4 : decode cX2_init 4 = .ok (.aload_n 0, 1) := by decide +kernel
theorem dX2_init_5 : decode cX2_init 5 = .ok (.bipush 80, 2) := by decide +kernel
theorem dX2_init_7 : decode cX2_init 7 = .ok (.newarray .char, 2) := by decide +kernel
theorem dX2_init_9 : decode cX2_init 9 = .ok (.putfield 9, 3) := by decide +kernel
theorem dX2_init_12 : decode cX2_init 12 = .ok (.return_, 1) := by decide +kernel
theorem dX2_append_0 : decode cX2_append 0 = .ok (.lload_n 1, 1) := by decide +kernel
theorem dX2_append_1 : decode cX2_append 1 = .ok (.invokestatic 15, 3) := by decide +kernel
theorem dX2_append_4 : decode cX2_append 4 = .ok (.istore_n 3, 1) := by decide +kernel
theorem dX2_append_5 : decode cX2_append 5 = .ok (.iload_n 3, 1) := by decide +kernel
theorem dX2_append_6 : decode cX2_append 6 = .ok (.ifCond .ge 6, 3) := by decide +kernel
theorem dX2_append_9 : decode cX2_append 9 = .ok (.bipush (-2), 2) := by decide +kernel
theorem dX2_append_11 : decode cX2_append 11 = .ok (.ireturn, 1) := by decide +kernel
theorem dX2_append_12 : decode cX2_append 12 = .ok (.aload_n 0, 1) := by decide +kernel
theorem dX2_append_13 : decode cX2_append 13 = .ok (.getfield 19, 3) := by decide +kernel
theorem dX2_append_16 : decode cX2_append 16 = .ok (.iload_n 3, 1) := by decide +kernel
theorem dX2_append_17 : decode cX2_append 17 = .ok (.iadd, 1) := by decide +kernel
theorem dX2_append_18 : decode cX2_append 18 = .ok (.bipush 80, 2) := by decide +kernel
theorem dX2_append_20 : decode cX2_append 20 = .ok (.if_icmp .le 6, 3) := by decide +kernel
theorem dX2_append_23 : decode cX2_append 23 = .ok (.bipush (-4), 2) := by decide +kernel
theorem dX2_append_25 : decode cX2_append 25 = .ok (.ireturn, 1) := by decide +kernel
theorem dX2_append_26 : decode cX2_append 26 = .ok (.lload_n 1, 1) := by decide +kernel
theorem dX2_append_27 : decode cX2_append 27 = .ok (.lstore 4, 2) := by decide +kernel
theorem dX2_append_29 : decode cX2_append 29 = .ok (.aload_n 0, 1) := by decide +kernel
theorem dX2_append_30 : decode cX2_append 30 = .ok (.getfield 19, 3) := by decide +kernel
theorem dX2_append_33 : decode cX2_append 33 = .ok (.iload_n 3, 1) := by decide +kernel
theorem dX2_append_34 : decode cX2_append 34 = .ok (.iadd, 1) := by decide +kernel
theorem dX2_append_35 : decode cX2_append 35 = .ok (.iconst 1, 1) := by decide +kernel
theorem dX2_append_36 : decode cX2_append 36 = .ok (.isub, 1) := by decide +kernel
theorem dX2_append_37 : decode cX2_append 37 = .ok (.istore 6, 2) := by decide +kernel
theorem dX2_append_39 : decode cX2_append 39 = .ok (.iload 6, 2) := by decide +kernel
theorem dX2_append_41 : decode cX2_append 41 = .ok (.aload_n 0, 1) := by decide +kernel
theorem dX2_append_42 : decode cX2_append 42 = .ok (.getfield 19, 3) := by decide +kernel
theorem dX2_append_45 : decode cX2_append 45 = .ok (.if_icmp .lt 31, 3) := by decide +kernel
theorem dX2_append_48 : decode cX2_append 48 = .ok (.aload_n 0, 1) := by decide +kernel
theorem dX2_append_49 : decode cX2_append 49 = .ok (.getfield 9, 3) := by decide +kernel
theorem dX2_append_52 : decode cX2_append 52 = .ok (.iload 6, 2) := by decide +kernel
theorem dX2_append_54 : decode cX2_append 54 = .ok (.lload 4, 2) := by decide +kernel
theorem dX2_append_56 : decode cX2_append 56 = .ok (.ldc2_w 23, 3) := by decide +kernel
theorem dX2_append_59 : decode cX2_append 59 = .ok (.land, 1) := by decide +kernel
theorem dX2_append_60 : decode cX2_append 60 = .ok (.l2i, 1) := by decide +kernel
theorem dX2_append_61 : decode cX2_append 61 = .ok (.i2c, 1) := by decide +kernel
theorem dX2_append_62 : decode cX2_append 62 = .ok (.castore, 1) := by decide +kernel
theorem dX2_append_63 : decode cX2_append 63 = .ok (.lload 4, 2) := by decide +kernel
theorem dX2_append_65 : decode cX2_append 65 = .ok (.bipush 8, 2) := by decide +kernel
theorem dX2_append_67 : decode cX2_append 67 = .ok (.lushr, 1) := by decide +kernel
theorem dX2_append_68 : decode cX2_append 68 = .ok (.lstore 4, 2) := by decide +kernel
theorem dX2_append_70 : decode cX2_append 70 = .ok (.iinc 6 (-1), 3) := by decide +kernel
theorem dX2_append_73 : decode cX2_append 73 = .ok (.goto (-34), 3) := by decide +kernel
theorem dX2_append_76 : decode cX2_append 76 = .ok (.aload_n 0, 1) := by decide +kernel
theorem dX2_append_77 : decode cX2_append 77 = .ok (.dup, 1) := by decide +kernel
theorem dX2_append_78 : decode cX2_append 78 = .ok (.getfield 19, 3) := by decide +kernel
theorem dX2_append_81 : decode cX2_append 81 = .ok (.iload_n 3, 1) := by decide +kernel
theorem dX2_append_82 : decode cX2_append 82 = .ok (.iadd, 1) := by decide +kernel
theorem dX2_append_83 : decode cX2_append 83 = .ok (.putfield 19, 3) := by decide +kernel
theorem dX2_append_86 : decode cX2_append 86 = .ok (.aload_n 0, 1) := by decide +kernel
theorem dX2_append_87 : decode cX2_append 87 = .ok (.getfield 19, 3) := by decide +kernel
theorem dX2_append_90 : decode cX2_append 90 = .ok (.ireturn, 1) := by decide +kernel
theorem dX2_countOf_0 : decode cX2_countOf 0 = .ok (.iconst 0, 1) := by decide +kernel
theorem dX2_countOf_1 : decode cX2_countOf 1 = .ok (.istore_n 2, 1) := by decide +kernel
theorem dX2_countOf_2 : decode cX2_countOf 2 = .ok (.lload_n 0, 1) := by decide +kernel
theorem dX2_countOf_3 : decode cX2_countOf 3 = .ok (.lstore_n 3, 1) := by decide +kernel
theorem dX2_countOf_4 : decode cX2_countOf 4 = .ok (.iload_n 2, 1) := by decide +kernel
theorem dX2_countOf_5 : decode cX2_countOf 5 = .ok (.bipush 8, 2) := by decide +kernel
theorem dX2_countOf_7 : decode cX2_countOf 7 = .ok (.if_icmp .ge 49, 3) := by decide +kernel
theorem dX2_countOf_10 : decode cX2_countOf 10 = .ok (.lload_n 3, 1) := by decide +kernel
theorem dX2_countOf_11 : decode cX2_countOf 11 = .ok (.ldc2_w 23, 3) := by decide +kernel
theorem dX2_countOf_14 : decode cX2_countOf 14 = .ok (.land, 1) := by decide +kernel
theorem dX2_countOf_15 : decode cX2_countOf 15 = .ok (.lconst 0, 1) := by decide +kernel
theorem dX2_countOf_16 : decode cX2_countOf 16 = .ok (.lcmp, 1) := by decide +kernel
theorem dX2_countOf_17 : decode cX2_countOf 17 = .ok (.ifCond .eq 39, 3) := by decide +kernel
theorem dX2_countOf_20 : decode cX2_countOf 20 = .ok (.lload_n 3, 1) := by decide +kernel
theorem dX2_countOf_21 : decode cX2_countOf 21 = .ok (.ldc2_w 23, 3) := by decide +kernel
theorem dX2_countOf_24 : decode cX2_countOf 24 = .ok (.land, 1) := by decide +kernel
theorem dX2_countOf_25 : decode cX2_countOf 25 = .ok (.l2i, 1) := by decide +kernel
theorem dX2_countOf_26 : decode cX2_countOf 26 = .ok (.istore 5, 2) := by decide +kernel
theorem dX2_countOf_28 : decode cX2_countOf 28 = .ok (.iload 5, 2) := by decide +kernel
theorem dX2_countOf_30 : decode cX2_countOf 30 = .ok (.bipush 33, 2) := by decide +kernel
theorem dX2_countOf_32 : decode cX2_countOf 32 = .ok (.if_icmp .lt 10, 3) := by decide +kernel
theorem dX2_countOf_35 : decode cX2_countOf 35 = .ok (.iload 5, 2) := by decide +kernel
theorem dX2_countOf_37 : decode cX2_countOf 37 = .ok (.bipush 126, 2) := by decide +kernel
theorem dX2_countOf_39 : decode cX2_countOf 39 = .ok (.if_icmp .le 6, 3) := by decide +kernel
theorem dX2_countOf_42 : decode cX2_countOf 42 = .ok (.bipush (-2), 2) := by decide +kernel
theorem dX2_countOf_44 : decode cX2_countOf 44 = .ok (.ireturn, 1) := by decide +kernel
theorem dX2_countOf_45 : decode cX2_countOf 45 = .ok (.iinc 2 1, 3) := by decide +kernel
theorem dX2_countOf_48 : decode cX2_countOf 48 = .ok (.lload_n 3, 1) := by decide +kernel
theorem dX2_countOf_49 : decode cX2_countOf 49 = .ok (.bipush 8, 2) := by decide +kernel
theorem dX2_countOf_51 : decode cX2_countOf 51 = .ok (.lushr, 1) := by decide +kernel
theorem dX2_countOf_52 : decode cX2_countOf 52 = .ok (.lstore_n 3, 1) := by decide +kernel
theorem dX2_countOf_53 : decode cX2_countOf 53 = .ok (.goto (-49), 3) := by decide +kernel
theorem dX2_countOf_56 : decode cX2_countOf 56 = .ok (.iload_n 2, 1) := by decide +kernel
theorem dX2_countOf_57 : decode cX2_countOf 57 = .ok (.ifCond .eq 9, 3) := by decide +kernel
theorem dX2_countOf_60 : decode cX2_countOf 60 = .ok (.lload_n 3, 1) := by decide +kernel
theorem dX2_countOf_61 : decode cX2_countOf 61 = .ok (.lconst 0, 1) := by decide +kernel
theorem dX2_countOf_62 : decode cX2_countOf 62 = .ok (.lcmp, 1) := by decide +kernel
theorem dX2_countOf_63 : decode cX2_countOf 63 = .ok (.ifCond .eq 8, 3) := by decide +kernel
theorem dX2_countOf_66 : decode cX2_countOf 66 = .ok (.bipush (-2), 2) := by decide +kernel
theorem dX2_countOf_68 : decode cX2_countOf 68 = .ok (.goto 4, 3) := by decide +kernel
theorem dX2_countOf_71 : decode cX2_countOf 71 = .ok (.iload_n 2, 1) := by decide +kernel
theorem dX2_countOf_72 : decode cX2_countOf 72 = .ok (.ireturn, 1) := by decide +kernel
theorem dX2_findFault_0 : decode cX2_findFault 0 = .ok (.aload_n 0, 1) := by decide +kernel
theorem dX2_findFault_1 : decode cX2_findFault 1 = .ok (.iconst 0, 1) := by decide +kernel
theorem dX2_findFault_2 : decode cX2_findFault 2 = .ok (.putfield 25, 3) := by decide +kernel
theorem dX2_findFault_5 : decode cX2_findFault 5 = .ok (.iconst 0, 1) := by decide +kernel
theorem dX2_findFault_6 : decode cX2_findFault 6 = .ok (.istore_n 1, 1) := by decide +kernel
theorem dX2_findFault_7 : decode cX2_findFault 7 = .ok (.iload_n 1, 1) := by decide +kernel
theorem dX2_findFault_8 : decode cX2_findFault 8 = .ok (.bipush 80, 2) := by decide +kernel
theorem dX2_findFault_10 : decode cX2_findFault 10 = .ok (.if_icmp .ge 49, 3) := by decide +kernel
theorem dX2_findFault_13 : decode cX2_findFault 13 = .ok (.aload_n 0, 1) := by decide +kernel
theorem dX2_findFault_14 : decode cX2_findFault 14 = .ok (.invokevirtual 28, 3) := by decide +kernel
theorem dX2_findFault_17 : decode cX2_findFault 17 = .ok (.ifCond .ne 8, 3) := by decide +kernel
theorem dX2_findFault_20 : decode cX2_findFault 20 = .ok (.aload_n 0, 1) := by decide +kernel
theorem dX2_findFault_21 : decode cX2_findFault 21 = .ok (.getfield 25, 3) := by decide +kernel
theorem dX2_findFault_24 : decode cX2_findFault 24 = .ok (.ireturn, 1) := by decide +kernel
theorem dX2_findFault_25 : decode cX2_findFault 25 = .ok (.aload_n 0, 1) := by decide +kernel
theorem dX2_findFault_26 : decode cX2_findFault 26 = .ok (.getfield 25, 3) := by decide +kernel
theorem dX2_findFault_29 : decode cX2_findFault 29 = .ok (.aload_n 0, 1) := by decide +kernel
theorem dX2_findFault_30 : decode cX2_findFault 30 = .ok (.getfield 19, 3) := by decide +kernel
theorem dX2_findFault_33 : decode cX2_findFault 33 = .ok (.if_icmp .lt 6, 3) := by decide +kernel
theorem dX2_findFault_36 : decode cX2_findFault 36 = .ok (.bipush (-6), 2) := by decide +kernel
theorem dX2_findFault_38 : decode cX2_findFault 38 = .ok (.ireturn, 1) := by decide +kernel
theorem dX2_findFault_39 : decode cX2_findFault 39 = .ok (.aload_n 0, 1) := by decide +kernel
theorem dX2_findFault_40 : decode cX2_findFault 40 = .ok (.bipush 59, 2) := by decide +kernel
theorem dX2_findFault_42 : decode cX2_findFault 42 = .ok (.invokevirtual 32, 3) := by decide +kernel
theorem dX2_findFault_45 : decode cX2_findFault 45 = .ok (.ifCond .ne 8, 3) := by decide +kernel
theorem dX2_findFault_48 : decode cX2_findFault 48 = .ok (.aload_n 0, 1) := by decide +kernel
theorem dX2_findFault_49 : decode cX2_findFault 49 = .ok (.getfield 25, 3) := by decide +kernel
theorem dX2_findFault_52 : decode cX2_findFault 52 = .ok (.ireturn, 1) := by decide +kernel
theorem dX2_findFault_53 : decode cX2_findFault 53 = .ok (.iinc 1 1, 3) := by decide +kernel
theorem dX2_findFault_56 : decode cX2_findFault 56 = .ok (.goto (-49), 3) := by decide +kernel
theorem dX2_findFault_59 : decode cX2_findFault 59 = .ok (.aload_n 0, 1) := by decide +kernel
theorem dX2_findFault_60 : decode cX2_findFault 60 = .ok (.getfield 25, 3) := by decide +kernel
theorem dX2_findFault_63 : decode cX2_findFault 63 = .ok (.ireturn, 1) := by decide +kernel
theorem dX2_readOrder_0 : decode cX2_readOrder 0 = .ok (.aload_n 0, 1) := by decide +kernel
theorem dX2_readOrder_1 : decode cX2_readOrder 1 = .ok (.aload_n 0, 1) := by decide +kernel
theorem dX2_readOrder_2 : decode cX2_readOrder 2 = .ok (.invokevirtual 36, 3) := by decide +kernel
theorem dX2_readOrder_5 : decode cX2_readOrder 5 = .ok (.putfield 40, 3) := by decide +kernel
theorem dX2_readOrder_8 : decode cX2_readOrder 8 = .ok (.aload_n 0, 1) := by decide +kernel
theorem dX2_readOrder_9 : decode cX2_readOrder 9 = .ok (.getfield 40, 3) := by decide +kernel
theorem dX2_readOrder_12 : decode cX2_readOrder 12 = .ok (.lookupswitch 121 #[(103, 106), (108, 67), (112, 52), (116, 106), (120, 106)], 52) := by decide +kernel
theorem dX2_readOrder_64 : decode cX2_readOrder 64 = .ok (.aload_n 0, 1) := by decide +kernel
theorem dX2_readOrder_65 : decode cX2_readOrder 65 = .ok (.dup, 1) := by decide +kernel
theorem dX2_readOrder_66 : decode cX2_readOrder 66 = .ok (.getfield 25, 3) := by decide +kernel
theorem dX2_readOrder_69 : decode cX2_readOrder 69 = .ok (.iconst 1, 1) := by decide +kernel
theorem dX2_readOrder_70 : decode cX2_readOrder 70 = .ok (.iadd, 1) := by decide +kernel
theorem dX2_readOrder_71 : decode cX2_readOrder 71 = .ok (.putfield 25, 3) := by decide +kernel
theorem dX2_readOrder_74 : decode cX2_readOrder 74 = .ok (.aload_n 0, 1) := by decide +kernel
theorem dX2_readOrder_75 : decode cX2_readOrder 75 = .ok (.invokevirtual 43, 3) := by decide +kernel
theorem dX2_readOrder_78 : decode cX2_readOrder 78 = .ok (.ireturn, 1) := by decide +kernel
theorem dX2_readOrder_79 : decode cX2_readOrder 79 = .ok (.aload_n 0, 1) := by decide +kernel
theorem dX2_readOrder_80 : decode cX2_readOrder 80 = .ok (.dup, 1) := by decide +kernel
theorem dX2_readOrder_81 : decode cX2_readOrder 81 = .ok (.getfield 25, 3) := by decide +kernel
theorem dX2_readOrder_84 : decode cX2_readOrder 84 = .ok (.iconst 1, 1) := by decide +kernel
theorem dX2_readOrder_85 : decode cX2_readOrder 85 = .ok (.iadd, 1) := by decide +kernel
theorem dX2_readOrder_86 : decode cX2_readOrder 86 = .ok (.putfield 25, 3) := by decide +kernel
theorem dX2_readOrder_89 : decode cX2_readOrder 89 = .ok (.aload_n 0, 1) := by decide +kernel
theorem dX2_readOrder_90 : decode cX2_readOrder 90 = .ok (.invokevirtual 46, 3) := by decide +kernel
theorem dX2_readOrder_93 : decode cX2_readOrder 93 = .ok (.ifCond .eq 23, 3) := by decide +kernel
theorem dX2_readOrder_96 : decode cX2_readOrder 96 = .ok (.aload_n 0, 1) := by decide +kernel
theorem dX2_readOrder_97 : decode cX2_readOrder 97 = .ok (.bipush 61, 2) := by decide +kernel
theorem dX2_readOrder_99 : decode cX2_readOrder 99 = .ok (.invokevirtual 32, 3) := by decide +kernel
theorem dX2_readOrder_102 : decode cX2_readOrder 102 = .ok (.ifCond .eq 14, 3) := by decide +kernel
theorem dX2_readOrder_105 : decode cX2_readOrder 105 = .ok (.aload_n 0, 1) := by decide +kernel
theorem dX2_readOrder_106 : decode cX2_readOrder 106 = .ok (.invokevirtual 49, 3) := by decide +kernel
theorem dX2_readOrder_109 : decode cX2_readOrder 109 = .ok (.ifCond .eq 7, 3) := by decide +kernel
theorem dX2_readOrder_112 : decode cX2_readOrder 112 = .ok (.iconst 1, 1) := by decide +kernel
theorem dX2_readOrder_113 : decode cX2_readOrder 113 = .ok (.goto 4, 3) := by decide +kernel
theorem dX2_readOrder_116 : decode cX2_readOrder 116 = .ok (.iconst 0, 1) := by decide +kernel
theorem dX2_readOrder_117 : decode cX2_readOrder 117 = .ok (.ireturn, 1) := by decide +kernel
theorem dX2_readOrder_118 : decode cX2_readOrder 118 = .ok (.aload_n 0, 1) := by decide +kernel
theorem dX2_readOrder_119 : decode cX2_readOrder 119 = .ok (.dup, 1) := by decide +kernel
theorem dX2_readOrder_120 : decode cX2_readOrder 120 = .ok (.getfield 25, 3) := by decide +kernel
theorem dX2_readOrder_123 : decode cX2_readOrder 123 = .ok (.iconst 1, 1) := by decide +kernel
theorem dX2_readOrder_124 : decode cX2_readOrder 124 = .ok (.iadd, 1) := by decide +kernel
theorem dX2_readOrder_125 : decode cX2_readOrder 125 = .ok (.putfield 25, 3) := by decide +kernel
theorem dX2_readOrder_128 : decode cX2_readOrder 128 = .ok (.aload_n 0, 1) := by decide +kernel
theorem dX2_readOrder_129 : decode cX2_readOrder 129 = .ok (.invokevirtual 46, 3) := by decide +kernel
theorem dX2_readOrder_132 : decode cX2_readOrder 132 = .ok (.ireturn, 1) := by decide +kernel
theorem dX2_readOrder_133 : decode cX2_readOrder 133 = .ok (.iconst 0, 1) := by decide +kernel
theorem dX2_readOrder_134 : decode cX2_readOrder 134 = .ok (.ireturn, 1) := by decide +kernel
theorem dX2_readPaddle_0 : decode cX2_readPaddle 0 = .ok (.aload_n 0, 1) := by decide +kernel
theorem dX2_readPaddle_1 : decode cX2_readPaddle 1 = .ok (.invokevirtual 46, 3) := by decide +kernel
theorem dX2_readPaddle_4 : decode cX2_readPaddle 4 = .ok (.ifCond .eq 26, 3) := by decide +kernel
theorem dX2_readPaddle_7 : decode cX2_readPaddle 7 = .ok (.aload_n 0, 1) := by decide +kernel
theorem dX2_readPaddle_8 : decode cX2_readPaddle 8 = .ok (.invokevirtual 52, 3) := by decide +kernel
theorem dX2_readPaddle_11 : decode cX2_readPaddle 11 = .ok (.ifCond .eq 19, 3) := by decide +kernel
theorem dX2_readPaddle_14 : decode cX2_readPaddle 14 = .ok (.aload_n 0, 1) := by decide +kernel
theorem dX2_readPaddle_15 : decode cX2_readPaddle 15 = .ok (.invokevirtual 49, 3) := by decide +kernel
theorem dX2_readPaddle_18 : decode cX2_readPaddle 18 = .ok (.ifCond .eq 12, 3) := by decide +kernel
theorem dX2_readPaddle_21 : decode cX2_readPaddle 21 = .ok (.aload_n 0, 1) := by decide +kernel
theorem dX2_readPaddle_22 : decode cX2_readPaddle 22 = .ok (.bipush 47, 2) := by decide +kernel
theorem dX2_readPaddle_24 : decode cX2_readPaddle 24 = .ok (.invokevirtual 32, 3) := by decide +kernel
theorem dX2_readPaddle_27 : decode cX2_readPaddle 27 = .ok (.ifCond .ne 5, 3) := by decide +kernel
theorem dX2_readPaddle_30 : decode cX2_readPaddle 30 = .ok (.iconst 0, 1) := by decide +kernel
theorem dX2_readPaddle_31 : decode cX2_readPaddle 31 = .ok (.ireturn, 1) := by decide +kernel
theorem dX2_readPaddle_32 : decode cX2_readPaddle 32 = .ok (.aload_n 0, 1) := by decide +kernel
theorem dX2_readPaddle_33 : decode cX2_readPaddle 33 = .ok (.aload_n 0, 1) := by decide +kernel
theorem dX2_readPaddle_34 : decode cX2_readPaddle 34 = .ok (.invokevirtual 55, 3) := by decide +kernel
theorem dX2_readPaddle_37 : decode cX2_readPaddle 37 = .ok (.putfield 58, 3) := by decide +kernel
theorem dX2_readPaddle_40 : decode cX2_readPaddle 40 = .ok (.aload_n 0, 1) := by decide +kernel
theorem dX2_readPaddle_41 : decode cX2_readPaddle 41 = .ok (.iconst 0, 1) := by decide +kernel
theorem dX2_readPaddle_42 : decode cX2_readPaddle 42 = .ok (.putfield 61, 3) := by decide +kernel
theorem dX2_readPaddle_45 : decode cX2_readPaddle 45 = .ok (.aload_n 0, 1) := by decide +kernel
theorem dX2_readPaddle_46 : decode cX2_readPaddle 46 = .ok (.getfield 58, 3) := by decide +kernel
theorem dX2_readPaddle_49 : decode cX2_readPaddle 49 = .ok (.ifCond .lt 20, 3) := by decide +kernel
theorem dX2_readPaddle_52 : decode cX2_readPaddle 52 = .ok (.aload_n 0, 1) := by decide +kernel
theorem dX2_readPaddle_53 : decode cX2_readPaddle 53 = .ok (.bipush 43, 2) := by decide +kernel
theorem dX2_readPaddle_55 : decode cX2_readPaddle 55 = .ok (.invokevirtual 32, 3) := by decide +kernel
theorem dX2_readPaddle_58 : decode cX2_readPaddle 58 = .ok (.ifCond .eq 11, 3) := by decide +kernel
theorem dX2_readPaddle_61 : decode cX2_readPaddle 61 = .ok (.aload_n 0, 1) := by decide +kernel
theorem dX2_readPaddle_62 : decode cX2_readPaddle 62 = .ok (.aload_n 0, 1) := by decide +kernel
theorem dX2_readPaddle_63 : decode cX2_readPaddle 63 = .ok (.invokevirtual 55, 3) := by decide +kernel
theorem dX2_readPaddle_66 : decode cX2_readPaddle 66 = .ok (.putfield 61, 3) := by decide +kernel
theorem dX2_readPaddle_69 : decode cX2_readPaddle 69 = .ok (.aload_n 0, 1) := by decide +kernel
theorem dX2_readPaddle_70 : decode cX2_readPaddle 70 = .ok (.getfield 58, 3) := by decide +kernel
theorem dX2_readPaddle_73 : decode cX2_readPaddle 73 = .ok (.ifCond .lt 14, 3) := by decide +kernel
theorem dX2_readPaddle_76 : decode cX2_readPaddle 76 = .ok (.aload_n 0, 1) := by decide +kernel
theorem dX2_readPaddle_77 : decode cX2_readPaddle 77 = .ok (.getfield 61, 3) := by decide +kernel
theorem dX2_readPaddle_80 : decode cX2_readPaddle 80 = .ok (.ifCond .lt 7, 3) := by decide +kernel
theorem dX2_readPaddle_83 : decode cX2_readPaddle 83 = .ok (.iconst 1, 1) := by decide +kernel
theorem dX2_readPaddle_84 : decode cX2_readPaddle 84 = .ok (.goto 4, 3) := by decide +kernel
theorem dX2_readPaddle_87 : decode cX2_readPaddle 87 = .ok (.iconst 0, 1) := by decide +kernel
theorem dX2_readPaddle_88 : decode cX2_readPaddle 88 = .ok (.ireturn, 1) := by decide +kernel
theorem dX2_readTarget_0 : decode cX2_readTarget 0 = .ok (.aload_n 0, 1) := by decide +kernel
theorem dX2_readTarget_1 : decode cX2_readTarget 1 = .ok (.aload_n 0, 1) := by decide +kernel
theorem dX2_readTarget_2 : decode cX2_readTarget 2 = .ok (.invokevirtual 55, 3) := by decide +kernel
theorem dX2_readTarget_5 : decode cX2_readTarget 5 = .ok (.putfield 64, 3) := by decide +kernel
theorem dX2_readTarget_8 : decode cX2_readTarget 8 = .ok (.aload_n 0, 1) := by decide +kernel
theorem dX2_readTarget_9 : decode cX2_readTarget 9 = .ok (.getfield 64, 3) := by decide +kernel
theorem dX2_readTarget_12 : decode cX2_readTarget 12 = .ok (.ifCond .lt 7, 3) := by decide +kernel
theorem dX2_readTarget_15 : decode cX2_readTarget 15 = .ok (.iconst 1, 1) := by decide +kernel
theorem dX2_readTarget_16 : decode cX2_readTarget 16 = .ok (.goto 4, 3) := by decide +kernel
theorem dX2_readTarget_19 : decode cX2_readTarget 19 = .ok (.iconst 0, 1) := by decide +kernel
theorem dX2_readTarget_20 : decode cX2_readTarget 20 = .ok (.ireturn, 1) := by decide +kernel
theorem dX2_readSort_0 : decode cX2_readSort 0 = .ok (.aload_n 0, 1) := by decide +kernel
theorem dX2_readSort_1 : decode cX2_readSort 1 = .ok (.invokevirtual 36, 3) := by decide +kernel
theorem dX2_readSort_4 : decode cX2_readSort 4 = .ok (.lookupswitch 76 #[(98, 60), (102, 44), (115, 52), (116, 68)], 44) := by decide +kernel
theorem dX2_readSort_48 : decode cX2_readSort 48 = .ok (.aload_n 0, 1) := by decide +kernel
theorem dX2_readSort_49 : decode cX2_readSort 49 = .ok (.iconst 0, 1) := by decide +kernel
theorem dX2_readSort_50 : decode cX2_readSort 50 = .ok (.putfield 67, 3) := by decide +kernel
theorem dX2_readSort_53 : decode cX2_readSort 53 = .ok (.goto 29, 3) := by decide +kernel
theorem dX2_readSort_56 : decode cX2_readSort 56 = .ok (.aload_n 0, 1) := by decide +kernel
theorem dX2_readSort_57 : decode cX2_readSort 57 = .ok (.iconst 1, 1) := by decide +kernel
theorem dX2_readSort_58 : decode cX2_readSort 58 = .ok (.putfield 67, 3) := by decide +kernel
theorem dX2_readSort_61 : decode cX2_readSort 61 = .ok (.goto 21, 3) := by decide +kernel
theorem dX2_readSort_64 : decode cX2_readSort 64 = .ok (.aload_n 0, 1) := by decide +kernel
theorem dX2_readSort_65 : decode cX2_readSort 65 = .ok (.iconst 2, 1) := by decide +kernel
theorem dX2_readSort_66 : decode cX2_readSort 66 = .ok (.putfield 67, 3) := by decide +kernel
theorem dX2_readSort_69 : decode cX2_readSort 69 = .ok (.goto 13, 3) := by decide +kernel
theorem dX2_readSort_72 : decode cX2_readSort 72 = .ok (.aload_n 0, 1) := by decide +kernel
theorem dX2_readSort_73 : decode cX2_readSort 73 = .ok (.iconst 3, 1) := by decide +kernel
theorem dX2_readSort_74 : decode cX2_readSort 74 = .ok (.putfield 67, 3) := by decide +kernel
theorem dX2_readSort_77 : decode cX2_readSort 77 = .ok (.goto 5, 3) := by decide +kernel
theorem dX2_readSort_80 : decode cX2_readSort 80 = .ok (.iconst 0, 1) := by decide +kernel
theorem dX2_readSort_81 : decode cX2_readSort 81 = .ok (.ireturn, 1) := by decide +kernel
theorem dX2_readSort_82 : decode cX2_readSort 82 = .ok (.aload_n 0, 1) := by decide +kernel
theorem dX2_readSort_83 : decode cX2_readSort 83 = .ok (.dup, 1) := by decide +kernel
theorem dX2_readSort_84 : decode cX2_readSort 84 = .ok (.getfield 25, 3) := by decide +kernel
theorem dX2_readSort_87 : decode cX2_readSort 87 = .ok (.iconst 1, 1) := by decide +kernel
theorem dX2_readSort_88 : decode cX2_readSort 88 = .ok (.iadd, 1) := by decide +kernel
theorem dX2_readSort_89 : decode cX2_readSort 89 = .ok (.putfield 25, 3) := by decide +kernel
theorem dX2_readSort_92 : decode cX2_readSort 92 = .ok (.iconst 1, 1) := by decide +kernel
theorem dX2_readSort_93 : decode cX2_readSort 93 = .ok (.ireturn, 1) := by decide +kernel
theorem dX2_readValue_0 : decode cX2_readValue 0 = .ok (.aload_n 0, 1) := by decide +kernel
theorem dX2_readValue_1 : decode cX2_readValue 1 = .ok (.bipush 45, 2) := by decide +kernel
theorem dX2_readValue_3 : decode cX2_readValue 3 = .ok (.invokevirtual 32, 3) := by decide +kernel
theorem dX2_readValue_6 : decode cX2_readValue 6 = .ok (.istore_n 1, 1) := by decide +kernel
theorem dX2_readValue_7 : decode cX2_readValue 7 = .ok (.aload_n 0, 1) := by decide +kernel
theorem dX2_readValue_8 : decode cX2_readValue 8 = .ok (.invokevirtual 55, 3) := by decide +kernel
theorem dX2_readValue_11 : decode cX2_readValue 11 = .ok (.istore_n 2, 1) := by decide +kernel
theorem dX2_readValue_12 : decode cX2_readValue 12 = .ok (.aload_n 0, 1) := by decide +kernel
theorem dX2_readValue_13 : decode cX2_readValue 13 = .ok (.iload_n 1, 1) := by decide +kernel
theorem dX2_readValue_14 : decode cX2_readValue 14 = .ok (.ifCond .eq 8, 3) := by decide +kernel
theorem dX2_readValue_17 : decode cX2_readValue 17 = .ok (.iload_n 2, 1) := by decide +kernel
theorem dX2_readValue_18 : decode cX2_readValue 18 = .ok (.ineg, 1) := by decide +kernel
theorem dX2_readValue_19 : decode cX2_readValue 19 = .ok (.goto 4, 3) := by decide +kernel
theorem dX2_readValue_22 : decode cX2_readValue 22 = .ok (.iload_n 2, 1) := by decide +kernel
theorem dX2_readValue_23 : decode cX2_readValue 23 = .ok (.putfield 70, 3) := by decide +kernel
theorem dX2_readValue_26 : decode cX2_readValue 26 = .ok (.iload_n 2, 1) := by decide +kernel
theorem dX2_readValue_27 : decode cX2_readValue 27 = .ok (.ifCond .lt 7, 3) := by decide +kernel
theorem dX2_readValue_30 : decode cX2_readValue 30 = .ok (.iconst 1, 1) := by decide +kernel
theorem dX2_readValue_31 : decode cX2_readValue 31 = .ok (.goto 4, 3) := by decide +kernel
theorem dX2_readValue_34 : decode cX2_readValue 34 = .ok (.iconst 0, 1) := by decide +kernel
theorem dX2_readValue_35 : decode cX2_readValue 35 = .ok (.ireturn, 1) := by decide +kernel
theorem dX2_readNumber_0 : decode cX2_readNumber 0 = .ok (.aload_n 0, 1) := by decide +kernel
theorem dX2_readNumber_1 : decode cX2_readNumber 1 = .ok (.invokevirtual 73, 3) := by decide +kernel
theorem dX2_readNumber_4 : decode cX2_readNumber 4 = .ok (.ifCond .ne 6, 3) := by decide +kernel
theorem dX2_readNumber_7 : decode cX2_readNumber 7 = .ok (.bipush (-3), 2) := by decide +kernel
theorem dX2_readNumber_9 : decode cX2_readNumber 9 = .ok (.ireturn, 1) := by decide +kernel
theorem dX2_readNumber_10 : decode cX2_readNumber 10 = .ok (.aload_n 0, 1) := by decide +kernel
theorem dX2_readNumber_11 : decode cX2_readNumber 11 = .ok (.invokevirtual 36, 3) := by decide +kernel
theorem dX2_readNumber_14 : decode cX2_readNumber 14 = .ok (.bipush 48, 2) := by decide +kernel
theorem dX2_readNumber_16 : decode cX2_readNumber 16 = .ok (.isub, 1) := by decide +kernel
theorem dX2_readNumber_17 : decode cX2_readNumber 17 = .ok (.istore_n 1, 1) := by decide +kernel
theorem dX2_readNumber_18 : decode cX2_readNumber 18 = .ok (.aload_n 0, 1) := by decide +kernel
theorem dX2_readNumber_19 : decode cX2_readNumber 19 = .ok (.dup, 1) := by decide +kernel
theorem dX2_readNumber_20 : decode cX2_readNumber 20 = .ok (.getfield 25, 3) := by decide +kernel
theorem dX2_readNumber_23 : decode cX2_readNumber 23 = .ok (.iconst 1, 1) := by decide +kernel
theorem dX2_readNumber_24 : decode cX2_readNumber 24 = .ok (.iadd, 1) := by decide +kernel
theorem dX2_readNumber_25 : decode cX2_readNumber 25 = .ok (.putfield 25, 3) := by decide +kernel
theorem dX2_readNumber_28 : decode cX2_readNumber 28 = .ok (.iconst 1, 1) := by decide +kernel
theorem dX2_readNumber_29 : decode cX2_readNumber 29 = .ok (.istore_n 2, 1) := by decide +kernel
theorem dX2_readNumber_30 : decode cX2_readNumber 30 = .ok (.iload_n 2, 1) := by decide +kernel
theorem dX2_readNumber_31 : decode cX2_readNumber 31 = .ok (.iconst 3, 1) := by decide +kernel
theorem dX2_readNumber_32 : decode cX2_readNumber 32 = .ok (.if_icmp .ge 43, 3) := by decide +kernel
theorem dX2_readNumber_35 : decode cX2_readNumber 35 = .ok (.iload_n 1, 1) := by decide +kernel
theorem dX2_readNumber_36 : decode cX2_readNumber 36 = .ok (.ifCond .le 39, 3) := by decide +kernel
theorem dX2_readNumber_39 : decode cX2_readNumber 39 = .ok (.aload_n 0, 1) := by decide +kernel
theorem dX2_readNumber_40 : decode cX2_readNumber 40 = .ok (.invokevirtual 73, 3) := by decide +kernel
theorem dX2_readNumber_43 : decode cX2_readNumber 43 = .ok (.ifCond .eq 32, 3) := by decide +kernel
theorem dX2_readNumber_46 : decode cX2_readNumber 46 = .ok (.bipush 10, 2) := by decide +kernel
theorem dX2_readNumber_48 : decode cX2_readNumber 48 = .ok (.iload_n 1, 1) := by decide +kernel
theorem dX2_readNumber_49 : decode cX2_readNumber 49 = .ok (.imul, 1) := by decide +kernel
theorem dX2_readNumber_50 : decode cX2_readNumber 50 = .ok (.aload_n 0, 1) := by decide +kernel
theorem dX2_readNumber_51 : decode cX2_readNumber 51 = .ok (.invokevirtual 36, 3) := by decide +kernel
theorem dX2_readNumber_54 : decode cX2_readNumber 54 = .ok (.iadd, 1) := by decide +kernel
theorem dX2_readNumber_55 : decode cX2_readNumber 55 = .ok (.bipush 48, 2) := by decide +kernel
theorem dX2_readNumber_57 : decode cX2_readNumber 57 = .ok (.isub, 1) := by decide +kernel
theorem dX2_readNumber_58 : decode cX2_readNumber 58 = .ok (.istore_n 1, 1) := by decide +kernel
theorem dX2_readNumber_59 : decode cX2_readNumber 59 = .ok (.aload_n 0, 1) := by decide +kernel
theorem dX2_readNumber_60 : decode cX2_readNumber 60 = .ok (.dup, 1) := by decide +kernel
theorem dX2_readNumber_61 : decode cX2_readNumber 61 = .ok (.getfield 25, 3) := by decide +kernel
theorem dX2_readNumber_64 : decode cX2_readNumber 64 = .ok (.iconst 1, 1) := by decide +kernel
theorem dX2_readNumber_65 : decode cX2_readNumber 65 = .ok (.iadd, 1) := by decide +kernel
theorem dX2_readNumber_66 : decode cX2_readNumber 66 = .ok (.putfield 25, 3) := by decide +kernel
theorem dX2_readNumber_69 : decode cX2_readNumber 69 = .ok (.iinc 2 1, 3) := by decide +kernel
theorem dX2_readNumber_72 : decode cX2_readNumber 72 = .ok (.goto (-42), 3) := by decide +kernel
theorem dX2_readNumber_75 : decode cX2_readNumber 75 = .ok (.iload_n 1, 1) := by decide +kernel
theorem dX2_readNumber_76 : decode cX2_readNumber 76 = .ok (.ireturn, 1) := by decide +kernel
theorem dX2_isDigitHere_0 : decode cX2_isDigitHere 0 = .ok (.aload_n 0, 1) := by decide +kernel
theorem dX2_isDigitHere_1 : decode cX2_isDigitHere 1 = .ok (.invokevirtual 36, 3) := by decide +kernel
theorem dX2_isDigitHere_4 : decode cX2_isDigitHere 4 = .ok (.bipush 48, 2) := by decide +kernel
theorem dX2_isDigitHere_6 : decode cX2_isDigitHere 6 = .ok (.if_icmp .lt 16, 3) := by decide +kernel
theorem dX2_isDigitHere_9 : decode cX2_isDigitHere 9 = .ok (.aload_n 0, 1) := by decide +kernel
theorem dX2_isDigitHere_10 : decode cX2_isDigitHere 10 = .ok (.invokevirtual 36, 3) := by decide +kernel
theorem dX2_isDigitHere_13 : decode cX2_isDigitHere 13 = .ok (.bipush 57, 2) := by decide +kernel
theorem dX2_isDigitHere_15 : decode cX2_isDigitHere 15 = .ok (.if_icmp .gt 7, 3) := by decide +kernel
theorem dX2_isDigitHere_18 : decode cX2_isDigitHere 18 = .ok (.iconst 1, 1) := by decide +kernel
theorem dX2_isDigitHere_19 : decode cX2_isDigitHere 19 = .ok (.goto 4, 3) := by decide +kernel
theorem dX2_isDigitHere_22 : decode cX2_isDigitHere 22 = .ok (.iconst 0, 1) := by decide +kernel
theorem dX2_isDigitHere_23 : decode cX2_isDigitHere 23 = .ok (.ireturn, 1) := by decide +kernel
theorem dX2_accept_0 : decode cX2_accept 0 = .ok (.aload_n 0, 1) := by decide +kernel
theorem dX2_accept_1 : decode cX2_accept 1 = .ok (.invokevirtual 36, 3) := by decide +kernel
theorem dX2_accept_4 : decode cX2_accept 4 = .ok (.iload_n 1, 1) := by decide +kernel
theorem dX2_accept_5 : decode cX2_accept 5 = .ok (.if_icmp .eq 5, 3) := by decide +kernel
theorem dX2_accept_8 : decode cX2_accept 8 = .ok (.iconst 0, 1) := by decide +kernel
theorem dX2_accept_9 : decode cX2_accept 9 = .ok (.ireturn, 1) := by decide +kernel
theorem dX2_accept_10 : decode cX2_accept 10 = .ok (.aload_n 0, 1) := by decide +kernel
theorem dX2_accept_11 : decode cX2_accept 11 = .ok (.dup, 1) := by decide +kernel
theorem dX2_accept_12 : decode cX2_accept 12 = .ok (.getfield 25, 3) := by decide +kernel
theorem dX2_accept_15 : decode cX2_accept 15 = .ok (.iconst 1, 1) := by decide +kernel
theorem dX2_accept_16 : decode cX2_accept 16 = .ok (.iadd, 1) := by decide +kernel
theorem dX2_accept_17 : decode cX2_accept 17 = .ok (.putfield 25, 3) := by decide +kernel
theorem dX2_accept_20 : decode cX2_accept 20 = .ok (.iconst 1, 1) := by decide +kernel
theorem dX2_accept_21 : decode cX2_accept 21 = .ok (.ireturn, 1) := by decide +kernel
theorem dX2_signHere_0 : decode cX2_signHere 0 = .ok (.aload_n 0, 1) := by decide +kernel
theorem dX2_signHere_1 : decode cX2_signHere 1 = .ok (.getfield 25, 3) := by decide +kernel
theorem dX2_signHere_4 : decode cX2_signHere 4 = .ok (.aload_n 0, 1) := by decide +kernel
theorem dX2_signHere_5 : decode cX2_signHere 5 = .ok (.getfield 19, 3) := by decide +kernel
theorem dX2_signHere_8 : decode cX2_signHere 8 = .ok (.if_icmp .ge 15, 3) := by decide +kernel
theorem dX2_signHere_11 : decode cX2_signHere 11 = .ok (.aload_n 0, 1) := by decide +kernel
theorem dX2_signHere_12 : decode cX2_signHere 12 = .ok (.getfield 9, 3) := by decide +kernel
theorem dX2_signHere_15 : decode cX2_signHere 15 = .ok (.aload_n 0, 1) := by decide +kernel
theorem dX2_signHere_16 : decode cX2_signHere 16 = .ok (.getfield 25, 3) := by decide +kernel
theorem dX2_signHere_19 : decode cX2_signHere 19 = .ok (.caload, 1) := by decide +kernel
theorem dX2_signHere_20 : decode cX2_signHere 20 = .ok (.goto 4, 3) := by decide +kernel
theorem dX2_signHere_23 : decode cX2_signHere 23 = .ok (.iconst 0, 1) := by decide +kernel
theorem dX2_signHere_24 : decode cX2_signHere 24 = .ok (.ireturn, 1) := by decide +kernel
theorem dX3_init_0 : decode cX3_init 0 = .ok (.aload_n 0, 1) := by decide +kernel
theorem dX3_init_1 : decode cX3_init 1 = .ok (.invokespecial 3, 3) := by decide +kernel
theorem dX3_init_4 : decode cX3_init 4 = .ok (.aload_n 0, 1) := by decide +kernel
theorem dX3_init_5 : decode cX3_init 5 = .ok (.iconst 1, 1) := by decide +kernel
theorem dX3_init_6 : decode cX3_init 6 = .ok (.putfield 9, 3) := by decide +kernel
theorem dX3_init_9 : decode cX3_init 9 = .ok (.return_, 1) := by decide +kernel
theorem dX3_copyFrom_0 : decode cX3_copyFrom 0 = .ok (.aload_n 0, 1) := by decide +kernel
theorem dX3_copyFrom_1 : decode cX3_copyFrom 1 = .ok (.aload_n 1, 1) := by decide +kernel
theorem dX3_copyFrom_2 : decode cX3_copyFrom 2 = .ok (.getfield 15, 3) := by decide +kernel
theorem dX3_copyFrom_5 : decode cX3_copyFrom 5 = .ok (.putfield 15, 3) := by decide +kernel
theorem dX3_copyFrom_8 : decode cX3_copyFrom 8 = .ok (.aload_n 0, 1) := by decide +kernel
theorem dX3_copyFrom_9 : decode cX3_copyFrom 9 = .ok (.aload_n 1, 1) := by decide +kernel
theorem dX3_copyFrom_10 : decode cX3_copyFrom 10 = .ok (.getfield 18, 3) := by decide +kernel
theorem dX3_copyFrom_13 : decode cX3_copyFrom 13 = .ok (.putfield 18, 3) := by decide +kernel
theorem dX3_copyFrom_16 : decode cX3_copyFrom 16 = .ok (.aload_n 0, 1) := by decide +kernel
theorem dX3_copyFrom_17 : decode cX3_copyFrom 17 = .ok (.aload_n 1, 1) := by decide +kernel
theorem dX3_copyFrom_18 : decode cX3_copyFrom 18 = .ok (.getfield 21, 3) := by decide +kernel
theorem dX3_copyFrom_21 : decode cX3_copyFrom 21 = .ok (.putfield 21, 3) := by decide +kernel
theorem dX3_copyFrom_24 : decode cX3_copyFrom 24 = .ok (.aload_n 0, 1) := by decide +kernel
theorem dX3_copyFrom_25 : decode cX3_copyFrom 25 = .ok (.aload_n 1, 1) := by decide +kernel
theorem dX3_copyFrom_26 : decode cX3_copyFrom 26 = .ok (.getfield 9, 3) := by decide +kernel
theorem dX3_copyFrom_29 : decode cX3_copyFrom 29 = .ok (.putfield 9, 3) := by decide +kernel
theorem dX3_copyFrom_32 : decode cX3_copyFrom 32 = .ok (.aload_n 0, 1) := by decide +kernel
theorem dX3_copyFrom_33 : decode cX3_copyFrom 33 = .ok (.aload_n 1, 1) := by decide +kernel
theorem dX3_copyFrom_34 : decode cX3_copyFrom 34 = .ok (.getfield 24, 3) := by decide +kernel
theorem dX3_copyFrom_37 : decode cX3_copyFrom 37 = .ok (.putfield 24, 3) := by decide +kernel
theorem dX3_copyFrom_40 : decode cX3_copyFrom 40 = .ok (.aload_n 0, 1) := by decide +kernel
theorem dX3_copyFrom_41 : decode cX3_copyFrom 41 = .ok (.aload_n 1, 1) := by decide +kernel
theorem dX3_copyFrom_42 : decode cX3_copyFrom 42 = .ok (.getfield 27, 3) := by decide +kernel
theorem dX3_copyFrom_45 : decode cX3_copyFrom 45 = .ok (.putfield 27, 3) := by decide +kernel
theorem dX3_copyFrom_48 : decode cX3_copyFrom 48 = .ok (.return_, 1) := by decide +kernel
theorem dX3_isRecipe_0 : decode cX3_isRecipe 0 = .ok (.iload_n 0, 1) := by decide +kernel
theorem dX3_isRecipe_1 : decode cX3_isRecipe 1 = .ok (.iconst 4, 1) := by decide +kernel
theorem dX3_isRecipe_2 : decode cX3_isRecipe 2 = .ok (.invokestatic 31, 3) := by decide +kernel
theorem dX3_isRecipe_5 : decode cX3_isRecipe 5 = .ok (.ifCond .ne 41, 3) := by decide +kernel
theorem dX3_isRecipe_8 : decode cX3_isRecipe 8 = .ok (.iload_n 1, 1) := by decide +kernel
theorem dX3_isRecipe_9 : decode cX3_isRecipe 9 = .ok (.sipush (-999), 3) := by decide +kernel
theorem dX3_isRecipe_12 : decode cX3_isRecipe 12 = .ok (.if_icmp .lt 34, 3) := by decide +kernel
theorem dX3_isRecipe_15 : decode cX3_isRecipe 15 = .ok (.iload_n 1, 1) := by decide +kernel
theorem dX3_isRecipe_16 : decode cX3_isRecipe 16 = .ok (.sipush 999, 3) := by decide +kernel
theorem dX3_isRecipe_19 : decode cX3_isRecipe 19 = .ok (.if_icmp .gt 27, 3) := by decide +kernel
theorem dX3_isRecipe_22 : decode cX3_isRecipe 22 = .ok (.iload_n 2, 1) := by decide +kernel
theorem dX3_isRecipe_23 : decode cX3_isRecipe 23 = .ok (.iconst 1, 1) := by decide +kernel
theorem dX3_isRecipe_24 : decode cX3_isRecipe 24 = .ok (.if_icmp .lt 22, 3) := by decide +kernel
theorem dX3_isRecipe_27 : decode cX3_isRecipe 27 = .ok (.iload_n 2, 1) := by decide +kernel
theorem dX3_isRecipe_28 : decode cX3_isRecipe 28 = .ok (.bipush 60, 2) := by decide +kernel
theorem dX3_isRecipe_30 : decode cX3_isRecipe 30 = .ok (.if_icmp .gt 16, 3) := by decide +kernel
theorem dX3_isRecipe_33 : decode cX3_isRecipe 33 = .ok (.iload_n 3, 1) := by decide +kernel
theorem dX3_isRecipe_34 : decode cX3_isRecipe 34 = .ok (.bipush 60, 2) := by decide +kernel
theorem dX3_isRecipe_36 : decode cX3_isRecipe 36 = .ok (.invokestatic 31, 3) := by decide +kernel
theorem dX3_isRecipe_39 : decode cX3_isRecipe 39 = .ok (.ifCond .ne 7, 3) := by decide +kernel
theorem dX3_isRecipe_42 : decode cX3_isRecipe 42 = .ok (.iconst 1, 1) := by decide +kernel
theorem dX3_isRecipe_43 : decode cX3_isRecipe 43 = .ok (.goto 4, 3) := by decide +kernel
theorem dX3_isRecipe_46 : decode cX3_isRecipe 46 = .ok (.iconst 0, 1) := by decide +kernel
theorem dX3_isRecipe_47 : decode cX3_isRecipe 47 = .ok (.ireturn, 1) := by decide +kernel
theorem dX3_pushAt_0 : decode cX3_pushAt 0 = .ok (.aload_n 0, 1) := by decide +kernel
theorem dX3_pushAt_1 : decode cX3_pushAt 1 = .ok (.getfield 9, 3) := by decide +kernel
theorem dX3_pushAt_4 : decode cX3_pushAt 4 = .ok (.iconst 1, 1) := by decide +kernel
theorem dX3_pushAt_5 : decode cX3_pushAt 5 = .ok (.if_icmp .ge 5, 3) := by decide +kernel
theorem dX3_pushAt_8 : decode cX3_pushAt 8 = .ok (.iconst 0, 1) := by decide +kernel
theorem dX3_pushAt_9 : decode cX3_pushAt 9 = .ok (.ireturn, 1) := by decide +kernel
theorem dX3_pushAt_10 : decode cX3_pushAt 10 = .ok (.iload_n 1, 1) := by decide +kernel
theorem dX3_pushAt_11 : decode cX3_pushAt 11 = .ok (.aload_n 0, 1) := by decide +kernel
theorem dX3_pushAt_12 : decode cX3_pushAt 12 = .ok (.getfield 24, 3) := by decide +kernel
theorem dX3_pushAt_15 : decode cX3_pushAt 15 = .ok (.iadd, 1) := by decide +kernel
theorem dX3_pushAt_16 : decode cX3_pushAt 16 = .ok (.aload_n 0, 1) := by decide +kernel
theorem dX3_pushAt_17 : decode cX3_pushAt 17 = .ok (.getfield 9, 3) := by decide +kernel
theorem dX3_pushAt_20 : decode cX3_pushAt 20 = .ok (.irem, 1) := by decide +kernel
theorem dX3_pushAt_21 : decode cX3_pushAt 21 = .ok (.istore_n 2, 1) := by decide +kernel
theorem dX3_pushAt_22 : decode cX3_pushAt 22 = .ok (.aload_n 0, 1) := by decide +kernel
theorem dX3_pushAt_23 : decode cX3_pushAt 23 = .ok (.getfield 18, 3) := by decide +kernel
theorem dX3_pushAt_26 : decode cX3_pushAt 26 = .ok (.tableswitch 96 1 3 #[26, 45, 68], 26) := by decide +kernel
theorem dX3_pushAt_52 : decode cX3_pushAt 52 = .ok (.aload_n 0, 1) := by decide +kernel
theorem dX3_pushAt_53 : decode cX3_pushAt 53 = .ok (.getfield 21, 3) := by decide +kernel
theorem dX3_pushAt_56 : decode cX3_pushAt 56 = .ok (.iconst 2, 1) := by decide +kernel
theorem dX3_pushAt_57 : decode cX3_pushAt 57 = .ok (.iload_n 2, 1) := by decide +kernel
theorem dX3_pushAt_58 : decode cX3_pushAt 58 = .ok (.imul, 1) := by decide +kernel
theorem dX3_pushAt_59 : decode cX3_pushAt 59 = .ok (.aload_n 0, 1) := by decide +kernel
theorem dX3_pushAt_60 : decode cX3_pushAt 60 = .ok (.getfield 9, 3) := by decide +kernel
theorem dX3_pushAt_63 : decode cX3_pushAt 63 = .ok (.isub, 1) := by decide +kernel
theorem dX3_pushAt_64 : decode cX3_pushAt 64 = .ok (.imul, 1) := by decide +kernel
theorem dX3_pushAt_65 : decode cX3_pushAt 65 = .ok (.aload_n 0, 1) := by decide +kernel
theorem dX3_pushAt_66 : decode cX3_pushAt 66 = .ok (.getfield 9, 3) := by decide +kernel
theorem dX3_pushAt_69 : decode cX3_pushAt 69 = .ok (.idiv, 1) := by decide +kernel
theorem dX3_pushAt_70 : decode cX3_pushAt 70 = .ok (.ireturn, 1) := by decide +kernel
theorem dX3_pushAt_71 : decode cX3_pushAt 71 = .ok (.iconst 2, 1) := by decide +kernel
theorem dX3_pushAt_72 : decode cX3_pushAt 72 = .ok (.iload_n 2, 1) := by decide +kernel
theorem dX3_pushAt_73 : decode cX3_pushAt 73 = .ok (.imul, 1) := by decide +kernel
theorem dX3_pushAt_74 : decode cX3_pushAt 74 = .ok (.aload_n 0, 1) := by decide +kernel
theorem dX3_pushAt_75 : decode cX3_pushAt 75 = .ok (.getfield 9, 3) := by decide +kernel
theorem dX3_pushAt_78 : decode cX3_pushAt 78 = .ok (.if_icmp .ge 10, 3) := by decide +kernel
theorem dX3_pushAt_81 : decode cX3_pushAt 81 = .ok (.aload_n 0, 1) := by decide +kernel
theorem dX3_pushAt_82 : decode cX3_pushAt 82 = .ok (.getfield 21, 3) := by decide +kernel
theorem dX3_pushAt_85 : decode cX3_pushAt 85 = .ok (.goto 8, 3) := by decide +kernel
theorem dX3_pushAt_88 : decode cX3_pushAt 88 = .ok (.aload_n 0, 1) := by decide +kernel
theorem dX3_pushAt_89 : decode cX3_pushAt 89 = .ok (.getfield 21, 3) := by decide +kernel
theorem dX3_pushAt_92 : decode cX3_pushAt 92 = .ok (.ineg, 1) := by decide +kernel
theorem dX3_pushAt_93 : decode cX3_pushAt 93 = .ok (.ireturn, 1) := by decide +kernel
theorem dX3_pushAt_94 : decode cX3_pushAt 94 = .ok (.aload_n 0, 1) := by decide +kernel
theorem dX3_pushAt_95 : decode cX3_pushAt 95 = .ok (.getfield 21, 3) := by decide +kernel
theorem dX3_pushAt_98 : decode cX3_pushAt 98 = .ok (.iconst 4, 1) := by decide +kernel
theorem dX3_pushAt_99 : decode cX3_pushAt 99 = .ok (.iload_n 2, 1) := by decide +kernel
theorem dX3_pushAt_100 : decode cX3_pushAt 100 = .ok (.aload_n 0, 1) := by decide +kernel
theorem dX3_pushAt_101 : decode cX3_pushAt 101 = .ok (.getfield 9, 3) := by decide +kernel
theorem dX3_pushAt_104 : decode cX3_pushAt 104 = .ok (.iload_n 2, 1) := by decide +kernel
theorem dX3_pushAt_105 : decode cX3_pushAt 105 = .ok (.isub, 1) := by decide +kernel
theorem dX3_pushAt_106 : decode cX3_pushAt 106 = .ok (.invokestatic 35, 3) := by decide +kernel
theorem dX3_pushAt_109 : decode cX3_pushAt 109 = .ok (.imul, 1) := by decide +kernel
theorem dX3_pushAt_110 : decode cX3_pushAt 110 = .ok (.aload_n 0, 1) := by decide +kernel
theorem dX3_pushAt_111 : decode cX3_pushAt 111 = .ok (.getfield 9, 3) := by decide +kernel
theorem dX3_pushAt_114 : decode cX3_pushAt 114 = .ok (.isub, 1) := by decide +kernel
theorem dX3_pushAt_115 : decode cX3_pushAt 115 = .ok (.imul, 1) := by decide +kernel
theorem dX3_pushAt_116 : decode cX3_pushAt 116 = .ok (.aload_n 0, 1) := by decide +kernel
theorem dX3_pushAt_117 : decode cX3_pushAt 117 = .ok (.getfield 9, 3) := by decide +kernel
theorem dX3_pushAt_120 : decode cX3_pushAt 120 = .ok (.idiv, 1) := by decide +kernel
theorem dX3_pushAt_121 : decode cX3_pushAt 121 = .ok (.ireturn, 1) := by decide +kernel
theorem dX3_pushAt_122 : decode cX3_pushAt 122 = .ok (.aload_n 0, 1) := by decide +kernel
theorem dX3_pushAt_123 : decode cX3_pushAt 123 = .ok (.getfield 21, 3) := by decide +kernel
theorem dX3_pushAt_126 : decode cX3_pushAt 126 = .ok (.ireturn, 1) := by decide +kernel
theorem dX4_init_0 : decode cX4_init 0 = .ok (.aload_n 0, 1) := by decide +kernel
theorem dX4_init_1 : decode cX4_init 1 = .ok (.invokespecial 3, 3) := by decide +kernel
theorem dX4_init_4 : decode cX4_init 4 = .ok (.aload_n 0, 1) := by decide +kernel
theorem dX4_init_5 : decode cX4_init 5 = .ok (.getstatic 9, 3) := by decide +kernel
theorem dX4_init_8 : decode cX4_init 8 = .ok (.invokevirtual 13, 3) := by decide +kernel
theorem dX4_init_11 : decode cX4_init 11 = .ok (.checkcast 14, 3) := by decide +kernel
theorem dX4_init_14 : decode cX4_init 14 = .ok (.putfield 18, 3) := by decide +kernel
theorem dX4_init_17 : decode cX4_init 17 = .ok (.aload_n 0, 1) := by decide +kernel
theorem dX4_init_18 : decode cX4_init 18 = .ok (.bipush 40, 2) := by decide +kernel
theorem dX4_init_20 : decode cX4_init 20 = .ok (.newarray .int, 2) := by decide +kernel
theorem dX4_init_22 : decode cX4_init 22 = .ok (.putfield 23, 3) := by decide +kernel
theorem dX4_init_25 : decode cX4_init 25 = .ok (.aload_n 0, 1) := by decide +kernel
theorem dX4_init_26 : decode cX4_init 26 = .ok (.bipush 40, 2) := by decide +kernel
theorem dX4_init_28 : decode cX4_init 28 = .ok (.newarray .int, 2) := by decide +kernel
theorem dX4_init_30 : decode cX4_init 30 = .ok (.putfield 26, 3) := by decide +kernel
theorem dX4_init_33 : decode cX4_init 33 = .ok (.aload_n 0, 1) := by decide +kernel
theorem dX4_init_34 : decode cX4_init 34 = .ok (.bipush 6, 2) := by decide +kernel
theorem dX4_init_36 : decode cX4_init 36 = .ok (.anewarray 29, 3) := by decide +kernel
theorem dX4_init_39 : decode cX4_init 39 = .ok (.putfield 31, 3) := by decide +kernel
theorem dX4_init_42 : decode cX4_init 42 = .ok (.aload_n 0, 1) := by decide +kernel
theorem dX4_init_43 : decode cX4_init 43 = .ok (.iconst 4, 1) := by decide +kernel
theorem dX4_init_44 : decode cX4_init 44 = .ok (.anewarray 35, 3) := by decide +kernel
theorem dX4_init_47 : decode cX4_init 47 = .ok (.putfield 37, 3) := by decide +kernel
theorem dX4_init_50 : decode cX4_init 50 = .ok (.iconst 0, 1) := by decide +kernel
theorem dX4_init_51 : decode cX4_init 51 = .ok (.istore_n 1, 1) := by decide +kernel
theorem dX4_init_52 : decode cX4_init 52 = .ok (.iload_n 1, 1) := by decide +kernel
theorem dX4_init_53 : decode cX4_init 53 = .ok (.bipush 6, 2) := by decide +kernel
theorem dX4_init_55 : decode cX4_init 55 = .ok (.if_icmp .ge 22, 3) := by decide +kernel
theorem dX4_init_58 : decode cX4_init 58 = .ok (.aload_n 0, 1) := by decide +kernel
theorem dX4_init_59 : decode cX4_init 59 = .ok (.getfield 31, 3) := by decide +kernel
theorem dX4_init_62 : decode cX4_init 62 = .ok (.iload_n 1, 1) := by decide +kernel
theorem dX4_init_63 : decode cX4_init 63 = .ok (.new 29, 3) := by decide +kernel
theorem dX4_init_66 : decode cX4_init 66 = .ok (.dup, 1) := by decide +kernel
theorem dX4_init_67 : decode cX4_init 67 = .ok (.invokespecial 41, 3) := by decide +kernel
theorem dX4_init_70 : decode cX4_init 70 = .ok (.aastore, 1) := by decide +kernel
theorem dX4_init_71 : decode cX4_init 71 = .ok (.iinc 1 1, 3) := by decide +kernel
theorem dX4_init_74 : decode cX4_init 74 = .ok (.goto (-22), 3) := by decide +kernel
theorem dX4_init_77 : decode cX4_init 77 = .ok (.iconst 0, 1) := by decide +kernel
theorem dX4_init_78 : decode cX4_init 78 = .ok (.istore_n 1, 1) := by decide +kernel
theorem dX4_init_79 : decode cX4_init 79 = .ok (.iload_n 1, 1) := by decide +kernel
theorem dX4_init_80 : decode cX4_init 80 = .ok (.iconst 4, 1) := by decide +kernel
theorem dX4_init_81 : decode cX4_init 81 = .ok (.if_icmp .ge 22, 3) := by decide +kernel
theorem dX4_init_84 : decode cX4_init 84 = .ok (.aload_n 0, 1) := by decide +kernel
theorem dX4_init_85 : decode cX4_init 85 = .ok (.getfield 37, 3) := by decide +kernel
theorem dX4_init_88 : decode cX4_init 88 = .ok (.iload_n 1, 1) := by decide +kernel
theorem dX4_init_89 : decode cX4_init 89 = .ok (.new 35, 3) := by decide +kernel
theorem dX4_init_92 : decode cX4_init 92 = .ok (.dup, 1) := by decide +kernel
theorem dX4_init_93 : decode cX4_init 93 = .ok (.invokespecial 42, 3) := by decide +kernel
theorem dX4_init_96 : decode cX4_init 96 = .ok (.aastore, 1) := by decide +kernel
theorem dX4_init_97 : decode cX4_init 97 = .ok (.iinc 1 1, 3) := by decide +kernel
theorem dX4_init_100 : decode cX4_init 100 = .ok (.goto (-21), 3) := by decide +kernel
theorem dX4_init_103 : decode cX4_init 103 = .ok (.return_, 1) := by decide +kernel
theorem dX4_copyFrom_0 : decode cX4_copyFrom 0 = .ok (.aload_n 1, 1) := by decide +kernel
theorem dX4_copyFrom_1 : decode cX4_copyFrom 1 = .ok (.getfield 18, 3) := by decide +kernel
theorem dX4_copyFrom_4 : decode cX4_copyFrom 4 = .ok (.iconst 0, 1) := by decide +kernel
theorem dX4_copyFrom_5 : decode cX4_copyFrom 5 = .ok (.aload_n 0, 1) := by decide +kernel
theorem dX4_copyFrom_6 : decode cX4_copyFrom 6 = .ok (.getfield 18, 3) := by decide +kernel
theorem dX4_copyFrom_9 : decode cX4_copyFrom 9 = .ok (.iconst 0, 1) := by decide +kernel
theorem dX4_copyFrom_10 : decode cX4_copyFrom 10 = .ok (.iconst 3, 1) := by decide +kernel
theorem dX4_copyFrom_11 : decode cX4_copyFrom 11 = .ok (.invokestatic 43, 3) := by decide +kernel
theorem dX4_copyFrom_14 : decode cX4_copyFrom 14 = .ok (.aload_n 1, 1) := by decide +kernel
theorem dX4_copyFrom_15 : decode cX4_copyFrom 15 = .ok (.getfield 23, 3) := by decide +kernel
theorem dX4_copyFrom_18 : decode cX4_copyFrom 18 = .ok (.iconst 0, 1) := by decide +kernel
theorem dX4_copyFrom_19 : decode cX4_copyFrom 19 = .ok (.aload_n 0, 1) := by decide +kernel
theorem dX4_copyFrom_20 : decode cX4_copyFrom 20 = .ok (.getfield 23, 3) := by decide +kernel
theorem dX4_copyFrom_23 : decode cX4_copyFrom 23 = .ok (.iconst 0, 1) := by decide +kernel
theorem dX4_copyFrom_24 : decode cX4_copyFrom 24 = .ok (.bipush 40, 2) := by decide +kernel
theorem dX4_copyFrom_26 : decode cX4_copyFrom 26 = .ok (.invokestatic 43, 3) := by decide +kernel
theorem dX4_copyFrom_29 : decode cX4_copyFrom 29 = .ok (.aload_n 1, 1) := by decide +kernel
theorem dX4_copyFrom_30 : decode cX4_copyFrom 30 = .ok (.getfield 26, 3) := by decide +kernel
theorem dX4_copyFrom_33 : decode cX4_copyFrom 33 = .ok (.iconst 0, 1) := by decide +kernel
theorem dX4_copyFrom_34 : decode cX4_copyFrom 34 = .ok (.aload_n 0, 1) := by decide +kernel
theorem dX4_copyFrom_35 : decode cX4_copyFrom 35 = .ok (.getfield 26, 3) := by decide +kernel
theorem dX4_copyFrom_38 : decode cX4_copyFrom 38 = .ok (.iconst 0, 1) := by decide +kernel
theorem dX4_copyFrom_39 : decode cX4_copyFrom 39 = .ok (.bipush 40, 2) := by decide +kernel
theorem dX4_copyFrom_41 : decode cX4_copyFrom 41 = .ok (.invokestatic 43, 3) := by decide +kernel
theorem dX4_copyFrom_44 : decode cX4_copyFrom 44 = .ok (.aload_n 0, 1) := by decide +kernel
theorem dX4_copyFrom_45 : decode cX4_copyFrom 45 = .ok (.aload_n 1, 1) := by decide +kernel
theorem dX4_copyFrom_46 : decode cX4_copyFrom 46 = .ok (.getfield 49, 3) := by decide +kernel
theorem dX4_copyFrom_49 : decode cX4_copyFrom 49 = .ok (.putfield 49, 3) := by decide +kernel
theorem dX4_copyFrom_52 : decode cX4_copyFrom 52 = .ok (.iconst 0, 1) := by decide +kernel
theorem dX4_copyFrom_53 : decode cX4_copyFrom 53 = .ok (.istore_n 2, 1) := by decide +kernel
theorem dX4_copyFrom_54 : decode cX4_copyFrom 54 = .ok (.iload_n 2, 1) := by decide +kernel
theorem dX4_copyFrom_55 : decode cX4_copyFrom 55 = .ok (.aload_n 0, 1) := by decide +kernel
theorem dX4_copyFrom_56 : decode cX4_copyFrom 56 = .ok (.getfield 49, 3) := by decide +kernel
theorem dX4_copyFrom_59 : decode cX4_copyFrom 59 = .ok (.if_icmp .ge 24, 3) := by decide +kernel
theorem dX4_copyFrom_62 : decode cX4_copyFrom 62 = .ok (.aload_n 0, 1) := by decide +kernel
theorem dX4_copyFrom_63 : decode cX4_copyFrom 63 = .ok (.getfield 31, 3) := by decide +kernel
theorem dX4_copyFrom_66 : decode cX4_copyFrom 66 = .ok (.iload_n 2, 1) := by decide +kernel
theorem dX4_copyFrom_67 : decode cX4_copyFrom 67 = .ok (.aaload, 1) := by decide +kernel
theorem dX4_copyFrom_68 : decode cX4_copyFrom 68 = .ok (.aload_n 1, 1) := by decide +kernel
theorem dX4_copyFrom_69 : decode cX4_copyFrom 69 = .ok (.getfield 31, 3) := by decide +kernel
theorem dX4_copyFrom_72 : decode cX4_copyFrom 72 = .ok (.iload_n 2, 1) := by decide +kernel
theorem dX4_copyFrom_73 : decode cX4_copyFrom 73 = .ok (.aaload, 1) := by decide +kernel
theorem dX4_copyFrom_74 : decode cX4_copyFrom 74 = .ok (.invokevirtual 53, 3) := by decide +kernel
theorem dX4_copyFrom_77 : decode cX4_copyFrom 77 = .ok (.iinc 2 1, 3) := by decide +kernel
theorem dX4_copyFrom_80 : decode cX4_copyFrom 80 = .ok (.goto (-26), 3) := by decide +kernel
theorem dX4_copyFrom_83 : decode cX4_copyFrom 83 = .ok (.aload_n 0, 1) := by decide +kernel
theorem dX4_copyFrom_84 : decode cX4_copyFrom 84 = .ok (.aload_n 1, 1) := by decide +kernel
theorem dX4_copyFrom_85 : decode cX4_copyFrom 85 = .ok (.getfield 57, 3) := by decide +kernel
theorem dX4_copyFrom_88 : decode cX4_copyFrom 88 = .ok (.putfield 57, 3) := by decide +kernel
theorem dX4_copyFrom_91 : decode cX4_copyFrom 91 = .ok (.iconst 0, 1) := by decide +kernel
theorem dX4_copyFrom_92 : decode cX4_copyFrom 92 = .ok (.istore_n 2, 1) := by decide +kernel
theorem dX4_copyFrom_93 : decode cX4_copyFrom 93 = .ok (.iload_n 2, 1) := by decide +kernel
theorem dX4_copyFrom_94 : decode cX4_copyFrom 94 = .ok (.aload_n 0, 1) := by decide +kernel
theorem dX4_copyFrom_95 : decode cX4_copyFrom 95 = .ok (.getfield 57, 3) := by decide +kernel
theorem dX4_copyFrom_98 : decode cX4_copyFrom 98 = .ok (.if_icmp .ge 24, 3) := by decide +kernel
theorem dX4_copyFrom_101 : decode cX4_copyFrom 101 = .ok (.aload_n 0, 1) := by decide +kernel
theorem dX4_copyFrom_102 : decode cX4_copyFrom 102 = .ok (.getfield 37, 3) := by decide +kernel
theorem dX4_copyFrom_105 : decode cX4_copyFrom 105 = .ok (.iload_n 2, 1) := by decide +kernel
theorem dX4_copyFrom_106 : decode cX4_copyFrom 106 = .ok (.aaload, 1) := by decide +kernel
theorem dX4_copyFrom_107 : decode cX4_copyFrom 107 = .ok (.aload_n 1, 1) := by decide +kernel
theorem dX4_copyFrom_108 : decode cX4_copyFrom 108 = .ok (.getfield 37, 3) := by decide +kernel
theorem dX4_copyFrom_111 : decode cX4_copyFrom 111 = .ok (.iload_n 2, 1) := by decide +kernel
theorem dX4_copyFrom_112 : decode cX4_copyFrom 112 = .ok (.aaload, 1) := by decide +kernel
theorem dX4_copyFrom_113 : decode cX4_copyFrom 113 = .ok (.invokevirtual 60, 3) := by decide +kernel
theorem dX4_copyFrom_116 : decode cX4_copyFrom 116 = .ok (.iinc 2 1, 3) := by decide +kernel
theorem dX4_copyFrom_119 : decode cX4_copyFrom 119 = .ok (.goto (-26), 3) := by decide +kernel
theorem dX4_copyFrom_122 : decode cX4_copyFrom 122 = .ok (.aload_n 0, 1) := by decide +kernel
theorem dX4_copyFrom_123 : decode cX4_copyFrom 123 = .ok (.aload_n 1, 1) := by decide +kernel
theorem dX4_copyFrom_124 : decode cX4_copyFrom 124 = .ok (.getfield 63, 3) := by decide +kernel
theorem dX4_copyFrom_127 : decode cX4_copyFrom 127 = .ok (.putfield 63, 3) := by decide +kernel
theorem dX4_copyFrom_130 : decode cX4_copyFrom 130 = .ok (.return_, 1) := by decide +kernel
theorem dX4_changeSetting_0 : decode cX4_changeSetting 0 = .ok (.iload_n 1, 1) := by decide +kernel
theorem dX4_changeSetting_1 : decode cX4_changeSetting 1 = .ok (.iconst 3, 1) := by decide +kernel
theorem dX4_changeSetting_2 : decode cX4_changeSetting 2 = .ok (.invokestatic 66, 3) := by decide +kernel
theorem dX4_changeSetting_5 : decode cX4_changeSetting 5 = .ok (.ifCond .eq 6, 3) := by decide +kernel
theorem dX4_changeSetting_8 : decode cX4_changeSetting 8 = .ok (.bipush (-2), 2) := by decide +kernel
theorem dX4_changeSetting_10 : decode cX4_changeSetting 10 = .ok (.ireturn, 1) := by decide +kernel
theorem dX4_changeSetting_11 : decode cX4_changeSetting 11 = .ok (.iload_n 2, 1) := by decide +kernel
theorem dX4_changeSetting_12 : decode cX4_changeSetting 12 = .ok (.getstatic 70, 3) := by decide +kernel
theorem dX4_changeSetting_15 : decode cX4_changeSetting 15 = .ok (.iload_n 1, 1) := by decide +kernel
theorem dX4_changeSetting_16 : decode cX4_changeSetting 16 = .ok (.iaload, 1) := by decide +kernel
theorem dX4_changeSetting_17 : decode cX4_changeSetting 17 = .ok (.if_icmp .lt 12, 3) := by decide +kernel
theorem dX4_changeSetting_20 : decode cX4_changeSetting 20 = .ok (.iload_n 2, 1) := by decide +kernel
theorem dX4_changeSetting_21 : decode cX4_changeSetting 21 = .ok (.getstatic 73, 3) := by decide +kernel
theorem dX4_changeSetting_24 : decode cX4_changeSetting 24 = .ok (.iload_n 1, 1) := by decide +kernel
theorem dX4_changeSetting_25 : decode cX4_changeSetting 25 = .ok (.iaload, 1) := by decide +kernel
theorem dX4_changeSetting_26 : decode cX4_changeSetting 26 = .ok (.if_icmp .le 6, 3) := by decide +kernel
theorem dX4_changeSetting_29 : decode cX4_changeSetting 29 = .ok (.bipush (-2), 2) := by decide +kernel
theorem dX4_changeSetting_31 : decode cX4_changeSetting 31 = .ok (.ireturn, 1) := by decide +kernel
theorem dX4_changeSetting_32 : decode cX4_changeSetting 32 = .ok (.aload_n 0, 1) := by decide +kernel
theorem dX4_changeSetting_33 : decode cX4_changeSetting 33 = .ok (.getfield 18, 3) := by decide +kernel
theorem dX4_changeSetting_36 : decode cX4_changeSetting 36 = .ok (.iload_n 1, 1) := by decide +kernel
theorem dX4_changeSetting_37 : decode cX4_changeSetting 37 = .ok (.iaload, 1) := by decide +kernel
theorem dX4_changeSetting_38 : decode cX4_changeSetting 38 = .ok (.istore_n 3, 1) := by decide +kernel
theorem dX4_changeSetting_39 : decode cX4_changeSetting 39 = .ok (.aload_n 0, 1) := by decide +kernel
theorem dX4_changeSetting_40 : decode cX4_changeSetting 40 = .ok (.getfield 18, 3) := by decide +kernel
theorem dX4_changeSetting_43 : decode cX4_changeSetting 43 = .ok (.iload_n 1, 1) := by decide +kernel
theorem dX4_changeSetting_44 : decode cX4_changeSetting 44 = .ok (.iload_n 2, 1) := by decide +kernel
theorem dX4_changeSetting_45 : decode cX4_changeSetting 45 = .ok (.iastore, 1) := by decide +kernel
theorem dX4_changeSetting_46 : decode cX4_changeSetting 46 = .ok (.iload_n 3, 1) := by decide +kernel
theorem dX4_changeSetting_47 : decode cX4_changeSetting 47 = .ok (.ireturn, 1) := by decide +kernel
theorem dX4_placePaddle_0 : decode cX4_placePaddle 0 = .ok (.iload_n 1, 1) := by decide +kernel
theorem dX4_placePaddle_1 : decode cX4_placePaddle 1 = .ok (.bipush 36, 2) := by decide +kernel
theorem dX4_placePaddle_3 : decode cX4_placePaddle 3 = .ok (.invokestatic 66, 3) := by decide +kernel
theorem dX4_placePaddle_6 : decode cX4_placePaddle 6 = .ok (.ifCond .eq 5, 3) := by decide +kernel
theorem dX4_placePaddle_9 : decode cX4_placePaddle 9 = .ok (.iconst (-1), 1) := by decide +kernel
theorem dX4_placePaddle_10 : decode cX4_placePaddle 10 = .ok (.ireturn, 1) := by decide +kernel
theorem dX4_placePaddle_11 : decode cX4_placePaddle 11 = .ok (.iload_n 2, 1) := by decide +kernel
theorem dX4_placePaddle_12 : decode cX4_placePaddle 12 = .ok (.iload_n 3, 1) := by decide +kernel
theorem dX4_placePaddle_13 : decode cX4_placePaddle 13 = .ok (.iload 4, 2) := by decide +kernel
theorem dX4_placePaddle_15 : decode cX4_placePaddle 15 = .ok (.iload 5, 2) := by decide +kernel
theorem dX4_placePaddle_17 : decode cX4_placePaddle 17 = .ok (.invokestatic 76, 3) := by decide +kernel
theorem dX4_placePaddle_20 : decode cX4_placePaddle 20 = .ok (.ifCond .ne 6, 3) := by decide +kernel
theorem dX4_placePaddle_23 : decode cX4_placePaddle 23 = .ok (.bipush (-2), 2) := by decide +kernel
theorem dX4_placePaddle_25 : decode cX4_placePaddle 25 = .ok (.ireturn, 1) := by decide +kernel
theorem dX4_placePaddle_26 : decode cX4_placePaddle 26 = .ok (.aload_n 0, 1) := by decide +kernel
theorem dX4_placePaddle_27 : decode cX4_placePaddle 27 = .ok (.iload_n 1, 1) := by decide +kernel
theorem dX4_placePaddle_28 : decode cX4_placePaddle 28 = .ok (.invokevirtual 80, 3) := by decide +kernel
theorem dX4_placePaddle_31 : decode cX4_placePaddle 31 = .ok (.istore 6, 2) := by decide +kernel
theorem dX4_placePaddle_33 : decode cX4_placePaddle 33 = .ok (.iload 6, 2) := by decide +kernel
theorem dX4_placePaddle_35 : decode cX4_placePaddle 35 = .ok (.ifCond .ge 10, 3) := by decide +kernel
theorem dX4_placePaddle_38 : decode cX4_placePaddle 38 = .ok (.aload_n 0, 1) := by decide +kernel
theorem dX4_placePaddle_39 : decode cX4_placePaddle 39 = .ok (.iload_n 1, 1) := by decide +kernel
theorem dX4_placePaddle_40 : decode cX4_placePaddle 40 = .ok (.invokevirtual 84, 3) := by decide +kernel
theorem dX4_placePaddle_43 : decode cX4_placePaddle 43 = .ok (.istore 6, 2) := by decide +kernel
theorem dX4_placePaddle_45 : decode cX4_placePaddle 45 = .ok (.iload 6, 2) := by decide +kernel
theorem dX4_placePaddle_47 : decode cX4_placePaddle 47 = .ok (.ifCond .ge 6, 3) := by decide +kernel
theorem dX4_placePaddle_50 : decode cX4_placePaddle 50 = .ok (.bipush (-4), 2) := by decide +kernel
theorem dX4_placePaddle_52 : decode cX4_placePaddle 52 = .ok (.ireturn, 1) := by decide +kernel
theorem dX4_placePaddle_53 : decode cX4_placePaddle 53 = .ok (.aload_n 0, 1) := by decide +kernel
theorem dX4_placePaddle_54 : decode cX4_placePaddle 54 = .ok (.getfield 31, 3) := by decide +kernel
theorem dX4_placePaddle_57 : decode cX4_placePaddle 57 = .ok (.iload 6, 2) := by decide +kernel
theorem dX4_placePaddle_59 : decode cX4_placePaddle 59 = .ok (.aaload, 1) := by decide +kernel
theorem dX4_placePaddle_60 : decode cX4_placePaddle 60 = .ok (.astore 7, 2) := by decide +kernel
theorem dX4_placePaddle_62 : decode cX4_placePaddle 62 = .ok (.aload 7, 2) := by decide +kernel
theorem dX4_placePaddle_64 : decode cX4_placePaddle 64 = .ok (.iload_n 1, 1) := by decide +kernel
theorem dX4_placePaddle_65 : decode cX4_placePaddle 65 = .ok (.putfield 87, 3) := by decide +kernel
theorem dX4_placePaddle_68 : decode cX4_placePaddle 68 = .ok (.aload 7, 2) := by decide +kernel
theorem dX4_placePaddle_70 : decode cX4_placePaddle 70 = .ok (.iload_n 2, 1) := by decide +kernel
theorem dX4_placePaddle_71 : decode cX4_placePaddle 71 = .ok (.putfield 90, 3) := by decide +kernel
theorem dX4_placePaddle_74 : decode cX4_placePaddle 74 = .ok (.aload 7, 2) := by decide +kernel
theorem dX4_placePaddle_76 : decode cX4_placePaddle 76 = .ok (.iload_n 3, 1) := by decide +kernel
theorem dX4_placePaddle_77 : decode cX4_placePaddle 77 = .ok (.putfield 93, 3) := by decide +kernel
theorem dX4_placePaddle_80 : decode cX4_placePaddle 80 = .ok (.aload 7, 2) := by decide +kernel
theorem dX4_placePaddle_82 : decode cX4_placePaddle 82 = .ok (.iload 4, 2) := by decide +kernel
theorem dX4_placePaddle_84 : decode cX4_placePaddle 84 = .ok (.putfield 96, 3) := by decide +kernel
theorem dX4_placePaddle_87 : decode cX4_placePaddle 87 = .ok (.aload 7, 2) := by decide +kernel
theorem dX4_placePaddle_89 : decode cX4_placePaddle 89 = .ok (.iload 5, 2) := by decide +kernel
theorem dX4_placePaddle_91 : decode cX4_placePaddle 91 = .ok (.putfield 99, 3) := by decide +kernel
theorem dX4_placePaddle_94 : decode cX4_placePaddle 94 = .ok (.aload 7, 2) := by decide +kernel
theorem dX4_placePaddle_96 : decode cX4_placePaddle 96 = .ok (.iconst 1, 1) := by decide +kernel
theorem dX4_placePaddle_97 : decode cX4_placePaddle 97 = .ok (.putfield 102, 3) := by decide +kernel
theorem dX4_placePaddle_100 : decode cX4_placePaddle 100 = .ok (.aload_n 0, 1) := by decide +kernel
theorem dX4_placePaddle_101 : decode cX4_placePaddle 101 = .ok (.getfield 49, 3) := by decide +kernel
theorem dX4_placePaddle_104 : decode cX4_placePaddle 104 = .ok (.ireturn, 1) := by decide +kernel
theorem dX4_rankIn_0 : decode cX4_rankIn 0 = .ok (.iconst 0, 1) := by decide +kernel
theorem dX4_rankIn_1 : decode cX4_rankIn 1 = .ok (.istore_n 2, 1) := by decide +kernel
theorem dX4_rankIn_2 : decode cX4_rankIn 2 = .ok (.iload_n 2, 1) := by decide +kernel
theorem dX4_rankIn_3 : decode cX4_rankIn 3 = .ok (.aload_n 0, 1) := by decide +kernel
theorem dX4_rankIn_4 : decode cX4_rankIn 4 = .ok (.getfield 49, 3) := by decide +kernel
theorem dX4_rankIn_7 : decode cX4_rankIn 7 = .ok (.if_icmp .ge 24, 3) := by decide +kernel
theorem dX4_rankIn_10 : decode cX4_rankIn 10 = .ok (.aload_n 0, 1) := by decide +kernel
theorem dX4_rankIn_11 : decode cX4_rankIn 11 = .ok (.getfield 31, 3) := by decide +kernel
theorem dX4_rankIn_14 : decode cX4_rankIn 14 = .ok (.iload_n 2, 1) := by decide +kernel
theorem dX4_rankIn_15 : decode cX4_rankIn 15 = .ok (.aaload, 1) := by decide +kernel
theorem dX4_rankIn_16 : decode cX4_rankIn 16 = .ok (.getfield 87, 3) := by decide +kernel
theorem dX4_rankIn_19 : decode cX4_rankIn 19 = .ok (.iload_n 1, 1) := by decide +kernel
theorem dX4_rankIn_20 : decode cX4_rankIn 20 = .ok (.if_icmp .ne 5, 3) := by decide +kernel
theorem dX4_rankIn_23 : decode cX4_rankIn 23 = .ok (.iload_n 2, 1) := by decide +kernel
theorem dX4_rankIn_24 : decode cX4_rankIn 24 = .ok (.ireturn, 1) := by decide +kernel
theorem dX4_rankIn_25 : decode cX4_rankIn 25 = .ok (.iinc 2 1, 3) := by decide +kernel
theorem dX4_rankIn_28 : decode cX4_rankIn 28 = .ok (.goto (-26), 3) := by decide +kernel
theorem dX4_rankIn_31 : decode cX4_rankIn 31 = .ok (.iconst (-1), 1) := by decide +kernel
theorem dX4_rankIn_32 : decode cX4_rankIn 32 = .ok (.ireturn, 1) := by decide +kernel
theorem dX4_openRank_0 : decode cX4_openRank 0 = .ok (.aload_n 0, 1) := by decide +kernel
theorem dX4_openRank_1 : decode cX4_openRank 1 = .ok (.getfield 49, 3) := by decide +kernel
theorem dX4_openRank_4 : decode cX4_openRank 4 = .ok (.bipush 6, 2) := by decide +kernel
theorem dX4_openRank_6 : decode cX4_openRank 6 = .ok (.if_icmp .lt 6, 3) := by decide +kernel
theorem dX4_openRank_9 : decode cX4_openRank 9 = .ok (.bipush (-4), 2) := by decide +kernel
theorem dX4_openRank_11 : decode cX4_openRank 11 = .ok (.ireturn, 1) := by decide +kernel
theorem dX4_openRank_12 : decode cX4_openRank 12 = .ok (.aload_n 0, 1) := by decide +kernel
theorem dX4_openRank_13 : decode cX4_openRank 13 = .ok (.getfield 31, 3) := by decide +kernel
theorem dX4_openRank_16 : decode cX4_openRank 16 = .ok (.aload_n 0, 1) := by decide +kernel
theorem dX4_openRank_17 : decode cX4_openRank 17 = .ok (.getfield 49, 3) := by decide +kernel
theorem dX4_openRank_20 : decode cX4_openRank 20 = .ok (.aaload, 1) := by decide +kernel
theorem dX4_openRank_21 : decode cX4_openRank 21 = .ok (.astore_n 2, 1) := by decide +kernel
theorem dX4_openRank_22 : decode cX4_openRank 22 = .ok (.aload_n 0, 1) := by decide +kernel
theorem dX4_openRank_23 : decode cX4_openRank 23 = .ok (.getfield 49, 3) := by decide +kernel
theorem dX4_openRank_26 : decode cX4_openRank 26 = .ok (.istore_n 3, 1) := by decide +kernel
theorem dX4_openRank_27 : decode cX4_openRank 27 = .ok (.iload_n 3, 1) := by decide +kernel
theorem dX4_openRank_28 : decode cX4_openRank 28 = .ok (.ifCond .le 38, 3) := by decide +kernel
theorem dX4_openRank_31 : decode cX4_openRank 31 = .ok (.aload_n 0, 1) := by decide +kernel
theorem dX4_openRank_32 : decode cX4_openRank 32 = .ok (.getfield 31, 3) := by decide +kernel
theorem dX4_openRank_35 : decode cX4_openRank 35 = .ok (.iload_n 3, 1) := by decide +kernel
theorem dX4_openRank_36 : decode cX4_openRank 36 = .ok (.iconst 1, 1) := by decide +kernel
theorem dX4_openRank_37 : decode cX4_openRank 37 = .ok (.isub, 1) := by decide +kernel
theorem dX4_openRank_38 : decode cX4_openRank 38 = .ok (.aaload, 1) := by decide +kernel
theorem dX4_openRank_39 : decode cX4_openRank 39 = .ok (.getfield 87, 3) := by decide +kernel
theorem dX4_openRank_42 : decode cX4_openRank 42 = .ok (.iload_n 1, 1) := by decide +kernel
theorem dX4_openRank_43 : decode cX4_openRank 43 = .ok (.if_icmp .le 23, 3) := by decide +kernel
theorem dX4_openRank_46 : decode cX4_openRank 46 = .ok (.aload_n 0, 1) := by decide +kernel
theorem dX4_openRank_47 : decode cX4_openRank 47 = .ok (.getfield 31, 3) := by decide +kernel
theorem dX4_openRank_50 : decode cX4_openRank 50 = .ok (.iload_n 3, 1) := by decide +kernel
theorem dX4_openRank_51 : decode cX4_openRank 51 = .ok (.aload_n 0, 1) := by decide +kernel
theorem dX4_openRank_52 : decode cX4_openRank 52 = .ok (.getfield 31, 3) := by decide +kernel
theorem dX4_openRank_55 : decode cX4_openRank 55 = .ok (.iload_n 3, 1) := by decide +kernel
theorem dX4_openRank_56 : decode cX4_openRank 56 = .ok (.iconst 1, 1) := by decide +kernel
theorem dX4_openRank_57 : decode cX4_openRank 57 = .ok (.isub, 1) := by decide +kernel
theorem dX4_openRank_58 : decode cX4_openRank 58 = .ok (.aaload, 1) := by decide +kernel
theorem dX4_openRank_59 : decode cX4_openRank 59 = .ok (.aastore, 1) := by decide +kernel
theorem dX4_openRank_60 : decode cX4_openRank 60 = .ok (.iinc 3 (-1), 3) := by decide +kernel
theorem dX4_openRank_63 : decode cX4_openRank 63 = .ok (.goto (-36), 3) := by decide +kernel
theorem dX4_openRank_66 : decode cX4_openRank 66 = .ok (.aload_n 0, 1) := by decide +kernel
theorem dX4_openRank_67 : decode cX4_openRank 67 = .ok (.getfield 31, 3) := by decide +kernel
theorem dX4_openRank_70 : decode cX4_openRank 70 = .ok (.iload_n 3, 1) := by decide +kernel
theorem dX4_openRank_71 : decode cX4_openRank 71 = .ok (.aload_n 2, 1) := by decide +kernel
theorem dX4_openRank_72 : decode cX4_openRank 72 = .ok (.aastore, 1) := by decide +kernel
theorem dX4_openRank_73 : decode cX4_openRank 73 = .ok (.aload_n 0, 1) := by decide +kernel
theorem dX4_openRank_74 : decode cX4_openRank 74 = .ok (.dup, 1) := by decide +kernel
theorem dX4_openRank_75 : decode cX4_openRank 75 = .ok (.getfield 49, 3) := by decide +kernel
theorem dX4_openRank_78 : decode cX4_openRank 78 = .ok (.iconst 1, 1) := by decide +kernel
theorem dX4_openRank_79 : decode cX4_openRank 79 = .ok (.iadd, 1) := by decide +kernel
theorem dX4_openRank_80 : decode cX4_openRank 80 = .ok (.putfield 49, 3) := by decide +kernel
theorem dX4_openRank_83 : decode cX4_openRank 83 = .ok (.iload_n 3, 1) := by decide +kernel
theorem dX4_openRank_84 : decode cX4_openRank 84 = .ok (.ireturn, 1) := by decide +kernel
theorem dX4_removePaddle_0 : decode cX4_removePaddle 0 = .ok (.aload_n 0, 1) := by decide +kernel
theorem dX4_removePaddle_1 : decode cX4_removePaddle 1 = .ok (.iload_n 1, 1) := by decide +kernel
theorem dX4_removePaddle_2 : decode cX4_removePaddle 2 = .ok (.invokevirtual 80, 3) := by decide +kernel
theorem dX4_removePaddle_5 : decode cX4_removePaddle 5 = .ok (.istore_n 2, 1) := by decide +kernel
theorem dX4_removePaddle_6 : decode cX4_removePaddle 6 = .ok (.iload_n 2, 1) := by decide +kernel
theorem dX4_removePaddle_7 : decode cX4_removePaddle 7 = .ok (.ifCond .ge 5, 3) := by decide +kernel
theorem dX4_removePaddle_10 : decode cX4_removePaddle 10 = .ok (.iconst (-1), 1) := by decide +kernel
theorem dX4_removePaddle_11 : decode cX4_removePaddle 11 = .ok (.ireturn, 1) := by decide +kernel
theorem dX4_removePaddle_12 : decode cX4_removePaddle 12 = .ok (.aload_n 0, 1) := by decide +kernel
theorem dX4_removePaddle_13 : decode cX4_removePaddle 13 = .ok (.getfield 31, 3) := by decide +kernel
theorem dX4_removePaddle_16 : decode cX4_removePaddle 16 = .ok (.iload_n 2, 1) := by decide +kernel
theorem dX4_removePaddle_17 : decode cX4_removePaddle 17 = .ok (.aaload, 1) := by decide +kernel
theorem dX4_removePaddle_18 : decode cX4_removePaddle 18 = .ok (.astore_n 3, 1) := by decide +kernel
theorem dX4_removePaddle_19 : decode cX4_removePaddle 19 = .ok (.aload_n 0, 1) := by decide +kernel
theorem dX4_removePaddle_20 : decode cX4_removePaddle 20 = .ok (.dup, 1) := by decide +kernel
theorem dX4_removePaddle_21 : decode cX4_removePaddle 21 = .ok (.getfield 49, 3) := by decide +kernel
theorem dX4_removePaddle_24 : decode cX4_removePaddle 24 = .ok (.iconst 1, 1) := by decide +kernel
theorem dX4_removePaddle_25 : decode cX4_removePaddle 25 = .ok (.isub, 1) := by decide +kernel
theorem dX4_removePaddle_26 : decode cX4_removePaddle 26 = .ok (.putfield 49, 3) := by decide +kernel
theorem dX4_removePaddle_29 : decode cX4_removePaddle 29 = .ok (.iload_n 2, 1) := by decide +kernel
theorem dX4_removePaddle_30 : decode cX4_removePaddle 30 = .ok (.istore 4, 2) := by decide +kernel
theorem dX4_removePaddle_32 : decode cX4_removePaddle 32 = .ok (.iload 4, 2) := by decide +kernel
theorem dX4_removePaddle_34 : decode cX4_removePaddle 34 = .ok (.aload_n 0, 1) := by decide +kernel
theorem dX4_removePaddle_35 : decode cX4_removePaddle 35 = .ok (.getfield 49, 3) := by decide +kernel
theorem dX4_removePaddle_38 : decode cX4_removePaddle 38 = .ok (.if_icmp .ge 25, 3) := by decide +kernel
theorem dX4_removePaddle_41 : decode cX4_removePaddle 41 = .ok (.aload_n 0, 1) := by decide +kernel
theorem dX4_removePaddle_42 : decode cX4_removePaddle 42 = .ok (.getfield 31, 3) := by decide +kernel
theorem dX4_removePaddle_45 : decode cX4_removePaddle 45 = .ok (.iload 4, 2) := by decide +kernel
theorem dX4_removePaddle_47 : decode cX4_removePaddle 47 = .ok (.aload_n 0, 1) := by decide +kernel
theorem dX4_removePaddle_48 : decode cX4_removePaddle 48 = .ok (.getfield 31, 3) := by decide +kernel
theorem dX4_removePaddle_51 : decode cX4_removePaddle 51 = .ok (.iload 4, 2) := by decide +kernel
theorem dX4_removePaddle_53 : decode cX4_removePaddle 53 = .ok (.iconst 1, 1) := by decide +kernel
theorem dX4_removePaddle_54 : decode cX4_removePaddle 54 = .ok (.iadd, 1) := by decide +kernel
theorem dX4_removePaddle_55 : decode cX4_removePaddle 55 = .ok (.aaload, 1) := by decide +kernel
theorem dX4_removePaddle_56 : decode cX4_removePaddle 56 = .ok (.aastore, 1) := by decide +kernel
theorem dX4_removePaddle_57 : decode cX4_removePaddle 57 = .ok (.iinc 4 1, 3) := by decide +kernel
theorem dX4_removePaddle_60 : decode cX4_removePaddle 60 = .ok (.goto (-28), 3) := by decide +kernel
theorem dX4_removePaddle_63 : decode cX4_removePaddle 63 = .ok (.aload_n 0, 1) := by decide +kernel
theorem dX4_removePaddle_64 : decode cX4_removePaddle 64 = .ok (.getfield 31, 3) := by decide +kernel
theorem dX4_removePaddle_67 : decode cX4_removePaddle 67 = .ok (.aload_n 0, 1) := by decide +kernel
theorem dX4_removePaddle_68 : decode cX4_removePaddle 68 = .ok (.getfield 49, 3) := by decide +kernel
theorem dX4_removePaddle_71 : decode cX4_removePaddle 71 = .ok (.aload_n 3, 1) := by decide +kernel
theorem dX4_removePaddle_72 : decode cX4_removePaddle 72 = .ok (.aastore, 1) := by decide +kernel
theorem dX4_removePaddle_73 : decode cX4_removePaddle 73 = .ok (.aload_n 0, 1) := by decide +kernel
theorem dX4_removePaddle_74 : decode cX4_removePaddle 74 = .ok (.getfield 49, 3) := by decide +kernel
theorem dX4_removePaddle_77 : decode cX4_removePaddle 77 = .ok (.ireturn, 1) := by decide +kernel
theorem dX4_startPaddle_0 : decode cX4_startPaddle 0 = .ok (.aload_n 0, 1) := by decide +kernel
theorem dX4_startPaddle_1 : decode cX4_startPaddle 1 = .ok (.iload_n 1, 1) := by decide +kernel
theorem dX4_startPaddle_2 : decode cX4_startPaddle 2 = .ok (.invokevirtual 80, 3) := by decide +kernel
theorem dX4_startPaddle_5 : decode cX4_startPaddle 5 = .ok (.istore_n 2, 1) := by decide +kernel
theorem dX4_startPaddle_6 : decode cX4_startPaddle 6 = .ok (.iload_n 2, 1) := by decide +kernel
theorem dX4_startPaddle_7 : decode cX4_startPaddle 7 = .ok (.ifCond .ge 5, 3) := by decide +kernel
theorem dX4_startPaddle_10 : decode cX4_startPaddle 10 = .ok (.iconst (-1), 1) := by decide +kernel
theorem dX4_startPaddle_11 : decode cX4_startPaddle 11 = .ok (.ireturn, 1) := by decide +kernel
theorem dX4_startPaddle_12 : decode cX4_startPaddle 12 = .ok (.aload_n 0, 1) := by decide +kernel
theorem dX4_startPaddle_13 : decode cX4_startPaddle 13 = .ok (.getfield 31, 3) := by decide +kernel
theorem dX4_startPaddle_16 : decode cX4_startPaddle 16 = .ok (.iload_n 2, 1) := by decide +kernel
theorem dX4_startPaddle_17 : decode cX4_startPaddle 17 = .ok (.aaload, 1) := by decide +kernel
theorem dX4_startPaddle_18 : decode cX4_startPaddle 18 = .ok (.getfield 102, 3) := by decide +kernel
theorem dX4_startPaddle_21 : decode cX4_startPaddle 21 = .ok (.ifCond .ne 7, 3) := by decide +kernel
theorem dX4_startPaddle_24 : decode cX4_startPaddle 24 = .ok (.iconst 1, 1) := by decide +kernel
theorem dX4_startPaddle_25 : decode cX4_startPaddle 25 = .ok (.goto 4, 3) := by decide +kernel
theorem dX4_startPaddle_28 : decode cX4_startPaddle 28 = .ok (.iconst 0, 1) := by decide +kernel
theorem dX4_startPaddle_29 : decode cX4_startPaddle 29 = .ok (.istore_n 3, 1) := by decide +kernel
theorem dX4_startPaddle_30 : decode cX4_startPaddle 30 = .ok (.aload_n 0, 1) := by decide +kernel
theorem dX4_startPaddle_31 : decode cX4_startPaddle 31 = .ok (.getfield 31, 3) := by decide +kernel
theorem dX4_startPaddle_34 : decode cX4_startPaddle 34 = .ok (.iload_n 2, 1) := by decide +kernel
theorem dX4_startPaddle_35 : decode cX4_startPaddle 35 = .ok (.aaload, 1) := by decide +kernel
theorem dX4_startPaddle_36 : decode cX4_startPaddle 36 = .ok (.iconst 1, 1) := by decide +kernel
theorem dX4_startPaddle_37 : decode cX4_startPaddle 37 = .ok (.putfield 102, 3) := by decide +kernel
theorem dX4_startPaddle_40 : decode cX4_startPaddle 40 = .ok (.iload_n 3, 1) := by decide +kernel
theorem dX4_startPaddle_41 : decode cX4_startPaddle 41 = .ok (.invokestatic 106, 3) := by decide +kernel
theorem dX4_startPaddle_44 : decode cX4_startPaddle 44 = .ok (.ireturn, 1) := by decide +kernel
theorem dX4_placeGauge_0 : decode cX4_placeGauge 0 = .ok (.iload_n 1, 1) := by decide +kernel
theorem dX4_placeGauge_1 : decode cX4_placeGauge 1 = .ok (.bipush 40, 2) := by decide +kernel
theorem dX4_placeGauge_3 : decode cX4_placeGauge 3 = .ok (.invokestatic 66, 3) := by decide +kernel
theorem dX4_placeGauge_6 : decode cX4_placeGauge 6 = .ok (.ifCond .eq 5, 3) := by decide +kernel
theorem dX4_placeGauge_9 : decode cX4_placeGauge 9 = .ok (.iconst (-1), 1) := by decide +kernel
theorem dX4_placeGauge_10 : decode cX4_placeGauge 10 = .ok (.ireturn, 1) := by decide +kernel
theorem dX4_placeGauge_11 : decode cX4_placeGauge 11 = .ok (.aload_n 0, 1) := by decide +kernel
theorem dX4_placeGauge_12 : decode cX4_placeGauge 12 = .ok (.getfield 57, 3) := by decide +kernel
theorem dX4_placeGauge_15 : decode cX4_placeGauge 15 = .ok (.iconst 4, 1) := by decide +kernel
theorem dX4_placeGauge_16 : decode cX4_placeGauge 16 = .ok (.if_icmp .lt 6, 3) := by decide +kernel
theorem dX4_placeGauge_19 : decode cX4_placeGauge 19 = .ok (.bipush (-4), 2) := by decide +kernel
theorem dX4_placeGauge_21 : decode cX4_placeGauge 21 = .ok (.ireturn, 1) := by decide +kernel
theorem dX4_placeGauge_22 : decode cX4_placeGauge 22 = .ok (.aload_n 0, 1) := by decide +kernel
theorem dX4_placeGauge_23 : decode cX4_placeGauge 23 = .ok (.getfield 37, 3) := by decide +kernel
theorem dX4_placeGauge_26 : decode cX4_placeGauge 26 = .ok (.aload_n 0, 1) := by decide +kernel
theorem dX4_placeGauge_27 : decode cX4_placeGauge 27 = .ok (.getfield 57, 3) := by decide +kernel
theorem dX4_placeGauge_30 : decode cX4_placeGauge 30 = .ok (.aaload, 1) := by decide +kernel
theorem dX4_placeGauge_31 : decode cX4_placeGauge 31 = .ok (.iload_n 1, 1) := by decide +kernel
theorem dX4_placeGauge_32 : decode cX4_placeGauge 32 = .ok (.invokevirtual 110, 3) := by decide +kernel
theorem dX4_placeGauge_35 : decode cX4_placeGauge 35 = .ok (.aload_n 0, 1) := by decide +kernel
theorem dX4_placeGauge_36 : decode cX4_placeGauge 36 = .ok (.dup, 1) := by decide +kernel
theorem dX4_placeGauge_37 : decode cX4_placeGauge 37 = .ok (.getfield 57, 3) := by decide +kernel
theorem dX4_placeGauge_40 : decode cX4_placeGauge 40 = .ok (.iconst 1, 1) := by decide +kernel
theorem dX4_placeGauge_41 : decode cX4_placeGauge 41 = .ok (.iadd, 1) := by decide +kernel
theorem dX4_placeGauge_42 : decode cX4_placeGauge 42 = .ok (.putfield 57, 3) := by decide +kernel
theorem dX4_placeGauge_45 : decode cX4_placeGauge 45 = .ok (.aload_n 0, 1) := by decide +kernel
theorem dX4_placeGauge_46 : decode cX4_placeGauge 46 = .ok (.getfield 57, 3) := by decide +kernel
theorem dX4_placeGauge_49 : decode cX4_placeGauge 49 = .ok (.iconst 1, 1) := by decide +kernel
theorem dX4_placeGauge_50 : decode cX4_placeGauge 50 = .ok (.isub, 1) := by decide +kernel
theorem dX4_placeGauge_51 : decode cX4_placeGauge 51 = .ok (.ireturn, 1) := by decide +kernel
theorem dX4_changeLevel_0 : decode cX4_changeLevel 0 = .ok (.iload_n 1, 1) := by decide +kernel
theorem dX4_changeLevel_1 : decode cX4_changeLevel 1 = .ok (.bipush 40, 2) := by decide +kernel
theorem dX4_changeLevel_3 : decode cX4_changeLevel 3 = .ok (.invokestatic 66, 3) := by decide +kernel
theorem dX4_changeLevel_6 : decode cX4_changeLevel 6 = .ok (.ifCond .eq 5, 3) := by decide +kernel
theorem dX4_changeLevel_9 : decode cX4_changeLevel 9 = .ok (.iconst (-1), 1) := by decide +kernel
theorem dX4_changeLevel_10 : decode cX4_changeLevel 10 = .ok (.ireturn, 1) := by decide +kernel
theorem dX4_changeLevel_11 : decode cX4_changeLevel 11 = .ok (.iload_n 2, 1) := by decide +kernel
theorem dX4_changeLevel_12 : decode cX4_changeLevel 12 = .ok (.sipush (-9999), 3) := by decide +kernel
theorem dX4_changeLevel_15 : decode cX4_changeLevel 15 = .ok (.if_icmp .lt 10, 3) := by decide +kernel
theorem dX4_changeLevel_18 : decode cX4_changeLevel 18 = .ok (.iload_n 2, 1) := by decide +kernel
theorem dX4_changeLevel_19 : decode cX4_changeLevel 19 = .ok (.sipush 9999, 3) := by decide +kernel
theorem dX4_changeLevel_22 : decode cX4_changeLevel 22 = .ok (.if_icmp .le 6, 3) := by decide +kernel
theorem dX4_changeLevel_25 : decode cX4_changeLevel 25 = .ok (.bipush (-2), 2) := by decide +kernel
theorem dX4_changeLevel_27 : decode cX4_changeLevel 27 = .ok (.ireturn, 1) := by decide +kernel
theorem dX4_changeLevel_28 : decode cX4_changeLevel 28 = .ok (.aload_n 0, 1) := by decide +kernel
theorem dX4_changeLevel_29 : decode cX4_changeLevel 29 = .ok (.getfield 23, 3) := by decide +kernel
theorem dX4_changeLevel_32 : decode cX4_changeLevel 32 = .ok (.iload_n 1, 1) := by decide +kernel
theorem dX4_changeLevel_33 : decode cX4_changeLevel 33 = .ok (.iaload, 1) := by decide +kernel
theorem dX4_changeLevel_34 : decode cX4_changeLevel 34 = .ok (.istore_n 3, 1) := by decide +kernel
theorem dX4_changeLevel_35 : decode cX4_changeLevel 35 = .ok (.aload_n 0, 1) := by decide +kernel
theorem dX4_changeLevel_36 : decode cX4_changeLevel 36 = .ok (.getfield 23, 3) := by decide +kernel
theorem dX4_changeLevel_39 : decode cX4_changeLevel 39 = .ok (.iload_n 1, 1) := by decide +kernel
theorem dX4_changeLevel_40 : decode cX4_changeLevel 40 = .ok (.iload_n 2, 1) := by decide +kernel
theorem dX4_changeLevel_41 : decode cX4_changeLevel 41 = .ok (.iastore, 1) := by decide +kernel
theorem dX4_changeLevel_42 : decode cX4_changeLevel 42 = .ok (.iload_n 3, 1) := by decide +kernel
theorem dX4_changeLevel_43 : decode cX4_changeLevel 43 = .ok (.sipush 10000, 3) := by decide +kernel
theorem dX4_changeLevel_46 : decode cX4_changeLevel 46 = .ok (.iadd, 1) := by decide +kernel
theorem dX4_changeLevel_47 : decode cX4_changeLevel 47 = .ok (.ireturn, 1) := by decide +kernel
theorem dX4_passSteps_0 : decode cX4_passSteps 0 = .ok (.iload_n 1, 1) := by decide +kernel
theorem dX4_passSteps_1 : decode cX4_passSteps 1 = .ok (.iconst 1, 1) := by decide +kernel
theorem dX4_passSteps_2 : decode cX4_passSteps 2 = .ok (.if_icmp .lt 9, 3) := by decide +kernel
theorem dX4_passSteps_5 : decode cX4_passSteps 5 = .ok (.iload_n 1, 1) := by decide +kernel
theorem dX4_passSteps_6 : decode cX4_passSteps 6 = .ok (.bipush 99, 2) := by decide +kernel
theorem dX4_passSteps_8 : decode cX4_passSteps 8 = .ok (.if_icmp .le 6, 3) := by decide +kernel
theorem dX4_passSteps_11 : decode cX4_passSteps 11 = .ok (.bipush (-2), 2) := by decide +kernel
theorem dX4_passSteps_13 : decode cX4_passSteps 13 = .ok (.ireturn, 1) := by decide +kernel
theorem dX4_passSteps_14 : decode cX4_passSteps 14 = .ok (.aload_n 0, 1) := by decide +kernel
theorem dX4_passSteps_15 : decode cX4_passSteps 15 = .ok (.getfield 63, 3) := by decide +kernel
theorem dX4_passSteps_18 : decode cX4_passSteps 18 = .ok (.iload_n 1, 1) := by decide +kernel
theorem dX4_passSteps_19 : decode cX4_passSteps 19 = .ok (.iadd, 1) := by decide +kernel
theorem dX4_passSteps_20 : decode cX4_passSteps 20 = .ok (.ldc 114, 2) := by decide +kernel
theorem dX4_passSteps_22 : decode cX4_passSteps 22 = .ok (.if_icmp .le 6, 3) := by decide +kernel
theorem dX4_passSteps_25 : decode cX4_passSteps 25 = .ok (.bipush (-5), 2) := by decide +kernel
theorem dX4_passSteps_27 : decode cX4_passSteps 27 = .ok (.ireturn, 1) := by decide +kernel
theorem dX4_passSteps_28 : decode cX4_passSteps 28 = .ok (.iconst 0, 1) := by decide +kernel
theorem dX4_passSteps_29 : decode cX4_passSteps 29 = .ok (.istore_n 2, 1) := by decide +kernel
theorem dX4_passSteps_30 : decode cX4_passSteps 30 = .ok (.iconst 0, 1) := by decide +kernel
theorem dX4_passSteps_31 : decode cX4_passSteps 31 = .ok (.istore_n 3, 1) := by decide +kernel
theorem dX4_passSteps_32 : decode cX4_passSteps 32 = .ok (.iload_n 3, 1) := by decide +kernel
theorem dX4_passSteps_33 : decode cX4_passSteps 33 = .ok (.iload_n 1, 1) := by decide +kernel
theorem dX4_passSteps_34 : decode cX4_passSteps 34 = .ok (.if_icmp .ge 16, 3) := by decide +kernel
theorem dX4_passSteps_37 : decode cX4_passSteps 37 = .ok (.iload_n 2, 1) := by decide +kernel
theorem dX4_passSteps_38 : decode cX4_passSteps 38 = .ok (.aload_n 0, 1) := by decide +kernel
theorem dX4_passSteps_39 : decode cX4_passSteps 39 = .ok (.invokevirtual 115, 3) := by decide +kernel
theorem dX4_passSteps_42 : decode cX4_passSteps 42 = .ok (.iadd, 1) := by decide +kernel
theorem dX4_passSteps_43 : decode cX4_passSteps 43 = .ok (.istore_n 2, 1) := by decide +kernel
theorem dX4_passSteps_44 : decode cX4_passSteps 44 = .ok (.iinc 3 1, 3) := by decide +kernel
theorem dX4_passSteps_47 : decode cX4_passSteps 47 = .ok (.goto (-15), 3) := by decide +kernel
theorem dX4_passSteps_50 : decode cX4_passSteps 50 = .ok (.iload_n 2, 1) := by decide +kernel
theorem dX4_passSteps_51 : decode cX4_passSteps 51 = .ok (.ireturn, 1) := by decide +kernel
theorem dX4_step_0 : decode cX4_step 0 = .ok (.aload_n 0, 1) := by decide +kernel
theorem dX4_step_1 : decode cX4_step 1 = .ok (.invokevirtual 119, 3) := by decide +kernel
theorem dX4_step_4 : decode cX4_step 4 = .ok (.istore_n 1, 1) := by decide +kernel
theorem dX4_step_5 : decode cX4_step 5 = .ok (.aload_n 0, 1) := by decide +kernel
theorem dX4_step_6 : decode cX4_step 6 = .ok (.invokevirtual 122, 3) := by decide +kernel
theorem dX4_step_9 : decode cX4_step 9 = .ok (.aload_n 0, 1) := by decide +kernel
theorem dX4_step_10 : decode cX4_step 10 = .ok (.invokevirtual 125, 3) := by decide +kernel
theorem dX4_step_13 : decode cX4_step 13 = .ok (.aload_n 0, 1) := by decide +kernel
theorem dX4_step_14 : decode cX4_step 14 = .ok (.dup, 1) := by decide +kernel
theorem dX4_step_15 : decode cX4_step 15 = .ok (.getfield 63, 3) := by decide +kernel
theorem dX4_step_18 : decode cX4_step 18 = .ok (.iconst 1, 1) := by decide +kernel
theorem dX4_step_19 : decode cX4_step 19 = .ok (.iadd, 1) := by decide +kernel
theorem dX4_step_20 : decode cX4_step 20 = .ok (.putfield 63, 3) := by decide +kernel
theorem dX4_step_23 : decode cX4_step 23 = .ok (.iconst 0, 1) := by decide +kernel
theorem dX4_step_24 : decode cX4_step 24 = .ok (.istore_n 2, 1) := by decide +kernel
theorem dX4_step_25 : decode cX4_step 25 = .ok (.iload_n 2, 1) := by decide +kernel
theorem dX4_step_26 : decode cX4_step 26 = .ok (.aload_n 0, 1) := by decide +kernel
theorem dX4_step_27 : decode cX4_step 27 = .ok (.getfield 57, 3) := by decide +kernel
theorem dX4_step_30 : decode cX4_step 30 = .ok (.if_icmp .ge 32, 3) := by decide +kernel
theorem dX4_step_33 : decode cX4_step 33 = .ok (.aload_n 0, 1) := by decide +kernel
theorem dX4_step_34 : decode cX4_step 34 = .ok (.getfield 37, 3) := by decide +kernel
theorem dX4_step_37 : decode cX4_step 37 = .ok (.iload_n 2, 1) := by decide +kernel
theorem dX4_step_38 : decode cX4_step 38 = .ok (.aaload, 1) := by decide +kernel
theorem dX4_step_39 : decode cX4_step 39 = .ok (.aload_n 0, 1) := by decide +kernel
theorem dX4_step_40 : decode cX4_step 40 = .ok (.getfield 23, 3) := by decide +kernel
theorem dX4_step_43 : decode cX4_step 43 = .ok (.aload_n 0, 1) := by decide +kernel
theorem dX4_step_44 : decode cX4_step 44 = .ok (.getfield 37, 3) := by decide +kernel
theorem dX4_step_47 : decode cX4_step 47 = .ok (.iload_n 2, 1) := by decide +kernel
theorem dX4_step_48 : decode cX4_step 48 = .ok (.aaload, 1) := by decide +kernel
theorem dX4_step_49 : decode cX4_step 49 = .ok (.getfield 128, 3) := by decide +kernel
theorem dX4_step_52 : decode cX4_step 52 = .ok (.iaload, 1) := by decide +kernel
theorem dX4_step_53 : decode cX4_step 53 = .ok (.invokevirtual 129, 3) := by decide +kernel
theorem dX4_step_56 : decode cX4_step 56 = .ok (.iinc 2 1, 3) := by decide +kernel
theorem dX4_step_59 : decode cX4_step 59 = .ok (.goto (-34), 3) := by decide +kernel
theorem dX4_step_62 : decode cX4_step 62 = .ok (.iload_n 1, 1) := by decide +kernel
theorem dX4_step_63 : decode cX4_step 63 = .ok (.ireturn, 1) := by decide +kernel
theorem dX4_movePaddles_0 : decode cX4_movePaddles 0 = .ok (.iconst 0, 1) := by decide +kernel
theorem dX4_movePaddles_1 : decode cX4_movePaddles 1 = .ok (.istore_n 1, 1) := by decide +kernel
theorem dX4_movePaddles_2 : decode cX4_movePaddles 2 = .ok (.iconst 0, 1) := by decide +kernel
theorem dX4_movePaddles_3 : decode cX4_movePaddles 3 = .ok (.istore_n 2, 1) := by decide +kernel
theorem dX4_movePaddles_4 : decode cX4_movePaddles 4 = .ok (.iload_n 2, 1) := by decide +kernel
theorem dX4_movePaddles_5 : decode cX4_movePaddles 5 = .ok (.aload_n 0, 1) := by decide +kernel
theorem dX4_movePaddles_6 : decode cX4_movePaddles 6 = .ok (.getfield 49, 3) := by decide +kernel
theorem dX4_movePaddles_9 : decode cX4_movePaddles 9 = .ok (.if_icmp .ge 79, 3) := by decide +kernel
theorem dX4_movePaddles_12 : decode cX4_movePaddles 12 = .ok (.aload_n 0, 1) := by decide +kernel
theorem dX4_movePaddles_13 : decode cX4_movePaddles 13 = .ok (.getfield 31, 3) := by decide +kernel
theorem dX4_movePaddles_16 : decode cX4_movePaddles 16 = .ok (.iload_n 2, 1) := by decide +kernel
theorem dX4_movePaddles_17 : decode cX4_movePaddles 17 = .ok (.aaload, 1) := by decide +kernel
theorem dX4_movePaddles_18 : decode cX4_movePaddles 18 = .ok (.astore_n 3, 1) := by decide +kernel
theorem dX4_movePaddles_19 : decode cX4_movePaddles 19 = .ok (.aload_n 3, 1) := by decide +kernel
theorem dX4_movePaddles_20 : decode cX4_movePaddles 20 = .ok (.getfield 102, 3) := by decide +kernel
theorem dX4_movePaddles_23 : decode cX4_movePaddles 23 = .ok (.ifCond .eq 35, 3) := by decide +kernel
theorem dX4_movePaddles_26 : decode cX4_movePaddles 26 = .ok (.aload_n 0, 1) := by decide +kernel
theorem dX4_movePaddles_27 : decode cX4_movePaddles 27 = .ok (.getfield 23, 3) := by decide +kernel
theorem dX4_movePaddles_30 : decode cX4_movePaddles 30 = .ok (.aload_n 3, 1) := by decide +kernel
theorem dX4_movePaddles_31 : decode cX4_movePaddles 31 = .ok (.getfield 87, 3) := by decide +kernel
theorem dX4_movePaddles_34 : decode cX4_movePaddles 34 = .ok (.iaload, 1) := by decide +kernel
theorem dX4_movePaddles_35 : decode cX4_movePaddles 35 = .ok (.invokestatic 132, 3) := by decide +kernel
theorem dX4_movePaddles_38 : decode cX4_movePaddles 38 = .ok (.aload_n 0, 1) := by decide +kernel
theorem dX4_movePaddles_39 : decode cX4_movePaddles 39 = .ok (.getfield 18, 3) := by decide +kernel
theorem dX4_movePaddles_42 : decode cX4_movePaddles 42 = .ok (.iconst 2, 1) := by decide +kernel
theorem dX4_movePaddles_43 : decode cX4_movePaddles 43 = .ok (.iaload, 1) := by decide +kernel
theorem dX4_movePaddles_44 : decode cX4_movePaddles 44 = .ok (.if_icmp .le 14, 3) := by decide +kernel
theorem dX4_movePaddles_47 : decode cX4_movePaddles 47 = .ok (.aload_n 3, 1) := by decide +kernel
theorem dX4_movePaddles_48 : decode cX4_movePaddles 48 = .ok (.iconst 0, 1) := by decide +kernel
theorem dX4_movePaddles_49 : decode cX4_movePaddles 49 = .ok (.putfield 102, 3) := by decide +kernel
theorem dX4_movePaddles_52 : decode cX4_movePaddles 52 = .ok (.iinc 1 1, 3) := by decide +kernel
theorem dX4_movePaddles_55 : decode cX4_movePaddles 55 = .ok (.goto 27, 3) := by decide +kernel
theorem dX4_movePaddles_58 : decode cX4_movePaddles 58 = .ok (.aload_n 3, 1) := by decide +kernel
theorem dX4_movePaddles_59 : decode cX4_movePaddles 59 = .ok (.getfield 102, 3) := by decide +kernel
theorem dX4_movePaddles_62 : decode cX4_movePaddles 62 = .ok (.ifCond .eq 20, 3) := by decide +kernel
theorem dX4_movePaddles_65 : decode cX4_movePaddles 65 = .ok (.aload_n 0, 1) := by decide +kernel
theorem dX4_movePaddles_66 : decode cX4_movePaddles 66 = .ok (.getfield 23, 3) := by decide +kernel
theorem dX4_movePaddles_69 : decode cX4_movePaddles 69 = .ok (.aload_n 3, 1) := by decide +kernel
theorem dX4_movePaddles_70 : decode cX4_movePaddles 70 = .ok (.getfield 87, 3) := by decide +kernel
theorem dX4_movePaddles_73 : decode cX4_movePaddles 73 = .ok (.aload_n 3, 1) := by decide +kernel
theorem dX4_movePaddles_74 : decode cX4_movePaddles 74 = .ok (.aload_n 0, 1) := by decide +kernel
theorem dX4_movePaddles_75 : decode cX4_movePaddles 75 = .ok (.getfield 63, 3) := by decide +kernel
theorem dX4_movePaddles_78 : decode cX4_movePaddles 78 = .ok (.invokevirtual 137, 3) := by decide +kernel
theorem dX4_movePaddles_81 : decode cX4_movePaddles 81 = .ok (.iastore, 1) := by decide +kernel
theorem dX4_movePaddles_82 : decode cX4_movePaddles 82 = .ok (.iinc 2 1, 3) := by decide +kernel
theorem dX4_movePaddles_85 : decode cX4_movePaddles 85 = .ok (.goto (-81), 3) := by decide +kernel
theorem dX4_movePaddles_88 : decode cX4_movePaddles 88 = .ok (.iload_n 1, 1) := by decide +kernel
theorem dX4_movePaddles_89 : decode cX4_movePaddles 89 = .ok (.ireturn, 1) := by decide +kernel
theorem dX4_moveWater_0 : decode cX4_moveWater 0 = .ok (.aload_n 0, 1) := by decide +kernel
theorem dX4_moveWater_1 : decode cX4_moveWater 1 = .ok (.getfield 23, 3) := by decide +kernel
theorem dX4_moveWater_4 : decode cX4_moveWater 4 = .ok (.iconst 0, 1) := by decide +kernel
theorem dX4_moveWater_5 : decode cX4_moveWater 5 = .ok (.iaload, 1) := by decide +kernel
theorem dX4_moveWater_6 : decode cX4_moveWater 6 = .ok (.istore_n 1, 1) := by decide +kernel
theorem dX4_moveWater_7 : decode cX4_moveWater 7 = .ok (.iconst 0, 1) := by decide +kernel
theorem dX4_moveWater_8 : decode cX4_moveWater 8 = .ok (.istore_n 2, 1) := by decide +kernel
theorem dX4_moveWater_9 : decode cX4_moveWater 9 = .ok (.iload_n 2, 1) := by decide +kernel
theorem dX4_moveWater_10 : decode cX4_moveWater 10 = .ok (.bipush 40, 2) := by decide +kernel
theorem dX4_moveWater_12 : decode cX4_moveWater 12 = .ok (.if_icmp .ge 100, 3) := by decide +kernel
theorem dX4_moveWater_15 : decode cX4_moveWater 15 = .ok (.aload_n 0, 1) := by decide +kernel
theorem dX4_moveWater_16 : decode cX4_moveWater 16 = .ok (.getfield 23, 3) := by decide +kernel
theorem dX4_moveWater_19 : decode cX4_moveWater 19 = .ok (.iload_n 2, 1) := by decide +kernel
theorem dX4_moveWater_20 : decode cX4_moveWater 20 = .ok (.iaload, 1) := by decide +kernel
theorem dX4_moveWater_21 : decode cX4_moveWater 21 = .ok (.istore_n 3, 1) := by decide +kernel
theorem dX4_moveWater_22 : decode cX4_moveWater 22 = .ok (.iload_n 2, 1) := by decide +kernel
theorem dX4_moveWater_23 : decode cX4_moveWater 23 = .ok (.iconst 1, 1) := by decide +kernel
theorem dX4_moveWater_24 : decode cX4_moveWater 24 = .ok (.iadd, 1) := by decide +kernel
theorem dX4_moveWater_25 : decode cX4_moveWater 25 = .ok (.bipush 40, 2) := by decide +kernel
theorem dX4_moveWater_27 : decode cX4_moveWater 27 = .ok (.if_icmp .ge 14, 3) := by decide +kernel
theorem dX4_moveWater_30 : decode cX4_moveWater 30 = .ok (.aload_n 0, 1) := by decide +kernel
theorem dX4_moveWater_31 : decode cX4_moveWater 31 = .ok (.getfield 23, 3) := by decide +kernel
theorem dX4_moveWater_34 : decode cX4_moveWater 34 = .ok (.iload_n 2, 1) := by decide +kernel
theorem dX4_moveWater_35 : decode cX4_moveWater 35 = .ok (.iconst 1, 1) := by decide +kernel
theorem dX4_moveWater_36 : decode cX4_moveWater 36 = .ok (.iadd, 1) := by decide +kernel
theorem dX4_moveWater_37 : decode cX4_moveWater 37 = .ok (.iaload, 1) := by decide +kernel
theorem dX4_moveWater_38 : decode cX4_moveWater 38 = .ok (.goto 4, 3) := by decide +kernel
theorem dX4_moveWater_41 : decode cX4_moveWater 41 = .ok (.iload_n 3, 1) := by decide +kernel
theorem dX4_moveWater_42 : decode cX4_moveWater 42 = .ok (.istore 4, 2) := by decide +kernel
theorem dX4_moveWater_44 : decode cX4_moveWater 44 = .ok (.aload_n 0, 1) := by decide +kernel
theorem dX4_moveWater_45 : decode cX4_moveWater 45 = .ok (.getfield 26, 3) := by decide +kernel
theorem dX4_moveWater_48 : decode cX4_moveWater 48 = .ok (.iload_n 2, 1) := by decide +kernel
theorem dX4_moveWater_49 : decode cX4_moveWater 49 = .ok (.iaload, 1) := by decide +kernel
theorem dX4_moveWater_50 : decode cX4_moveWater 50 = .ok (.iload_n 1, 1) := by decide +kernel
theorem dX4_moveWater_51 : decode cX4_moveWater 51 = .ok (.iload 4, 2) := by decide +kernel
theorem dX4_moveWater_53 : decode cX4_moveWater 53 = .ok (.iadd, 1) := by decide +kernel
theorem dX4_moveWater_54 : decode cX4_moveWater 54 = .ok (.iconst 2, 1) := by decide +kernel
theorem dX4_moveWater_55 : decode cX4_moveWater 55 = .ok (.iload_n 3, 1) := by decide +kernel
theorem dX4_moveWater_56 : decode cX4_moveWater 56 = .ok (.imul, 1) := by decide +kernel
theorem dX4_moveWater_57 : decode cX4_moveWater 57 = .ok (.isub, 1) := by decide +kernel
theorem dX4_moveWater_58 : decode cX4_moveWater 58 = .ok (.iconst 4, 1) := by decide +kernel
theorem dX4_moveWater_59 : decode cX4_moveWater 59 = .ok (.idiv, 1) := by decide +kernel
theorem dX4_moveWater_60 : decode cX4_moveWater 60 = .ok (.iadd, 1) := by decide +kernel
theorem dX4_moveWater_61 : decode cX4_moveWater 61 = .ok (.invokestatic 140, 3) := by decide +kernel
theorem dX4_moveWater_64 : decode cX4_moveWater 64 = .ok (.istore 5, 2) := by decide +kernel
theorem dX4_moveWater_66 : decode cX4_moveWater 66 = .ok (.iload 5, 2) := by decide +kernel
theorem dX4_moveWater_68 : decode cX4_moveWater 68 = .ok (.iload 5, 2) := by decide +kernel
theorem dX4_moveWater_70 : decode cX4_moveWater 70 = .ok (.aload_n 0, 1) := by decide +kernel
theorem dX4_moveWater_71 : decode cX4_moveWater 71 = .ok (.getfield 18, 3) := by decide +kernel
theorem dX4_moveWater_74 : decode cX4_moveWater 74 = .ok (.iconst 1, 1) := by decide +kernel
theorem dX4_moveWater_75 : decode cX4_moveWater 75 = .ok (.iaload, 1) := by decide +kernel
theorem dX4_moveWater_76 : decode cX4_moveWater 76 = .ok (.imul, 1) := by decide +kernel
theorem dX4_moveWater_77 : decode cX4_moveWater 77 = .ok (.bipush 100, 2) := by decide +kernel
theorem dX4_moveWater_79 : decode cX4_moveWater 79 = .ok (.idiv, 1) := by decide +kernel
theorem dX4_moveWater_80 : decode cX4_moveWater 80 = .ok (.isub, 1) := by decide +kernel
theorem dX4_moveWater_81 : decode cX4_moveWater 81 = .ok (.istore 5, 2) := by decide +kernel
theorem dX4_moveWater_83 : decode cX4_moveWater 83 = .ok (.aload_n 0, 1) := by decide +kernel
theorem dX4_moveWater_84 : decode cX4_moveWater 84 = .ok (.getfield 26, 3) := by decide +kernel
theorem dX4_moveWater_87 : decode cX4_moveWater 87 = .ok (.iload_n 2, 1) := by decide +kernel
theorem dX4_moveWater_88 : decode cX4_moveWater 88 = .ok (.iload 5, 2) := by decide +kernel
theorem dX4_moveWater_90 : decode cX4_moveWater 90 = .ok (.iastore, 1) := by decide +kernel
theorem dX4_moveWater_91 : decode cX4_moveWater 91 = .ok (.aload_n 0, 1) := by decide +kernel
theorem dX4_moveWater_92 : decode cX4_moveWater 92 = .ok (.getfield 23, 3) := by decide +kernel
theorem dX4_moveWater_95 : decode cX4_moveWater 95 = .ok (.iload_n 2, 1) := by decide +kernel
theorem dX4_moveWater_96 : decode cX4_moveWater 96 = .ok (.iload_n 3, 1) := by decide +kernel
theorem dX4_moveWater_97 : decode cX4_moveWater 97 = .ok (.iload 5, 2) := by decide +kernel
theorem dX4_moveWater_99 : decode cX4_moveWater 99 = .ok (.iadd, 1) := by decide +kernel
theorem dX4_moveWater_100 : decode cX4_moveWater 100 = .ok (.invokestatic 140, 3) := by decide +kernel
theorem dX4_moveWater_103 : decode cX4_moveWater 103 = .ok (.iastore, 1) := by decide +kernel
theorem dX4_moveWater_104 : decode cX4_moveWater 104 = .ok (.iload_n 3, 1) := by decide +kernel
theorem dX4_moveWater_105 : decode cX4_moveWater 105 = .ok (.istore_n 1, 1) := by decide +kernel
theorem dX4_moveWater_106 : decode cX4_moveWater 106 = .ok (.iinc 2 1, 3) := by decide +kernel
theorem dX4_moveWater_109 : decode cX4_moveWater 109 = .ok (.goto (-100), 3) := by decide +kernel
theorem dX4_moveWater_112 : decode cX4_moveWater 112 = .ok (.return_, 1) := by decide +kernel
theorem dX4_calmBeach_0 : decode cX4_calmBeach 0 = .ok (.bipush 36, 2) := by decide +kernel
theorem dX4_calmBeach_2 : decode cX4_calmBeach 2 = .ok (.istore_n 1, 1) := by decide +kernel
theorem dX4_calmBeach_3 : decode cX4_calmBeach 3 = .ok (.iload_n 1, 1) := by decide +kernel
theorem dX4_calmBeach_4 : decode cX4_calmBeach 4 = .ok (.bipush 40, 2) := by decide +kernel
theorem dX4_calmBeach_6 : decode cX4_calmBeach 6 = .ok (.if_icmp .ge 65, 3) := by decide +kernel
theorem dX4_calmBeach_9 : decode cX4_calmBeach 9 = .ok (.aload_n 0, 1) := by decide +kernel
theorem dX4_calmBeach_10 : decode cX4_calmBeach 10 = .ok (.getfield 18, 3) := by decide +kernel
theorem dX4_calmBeach_13 : decode cX4_calmBeach 13 = .ok (.iconst 0, 1) := by decide +kernel
theorem dX4_calmBeach_14 : decode cX4_calmBeach 14 = .ok (.iaload, 1) := by decide +kernel
theorem dX4_calmBeach_15 : decode cX4_calmBeach 15 = .ok (.iload_n 1, 1) := by decide +kernel
theorem dX4_calmBeach_16 : decode cX4_calmBeach 16 = .ok (.bipush 36, 2) := by decide +kernel
theorem dX4_calmBeach_18 : decode cX4_calmBeach 18 = .ok (.isub, 1) := by decide +kernel
theorem dX4_calmBeach_19 : decode cX4_calmBeach 19 = .ok (.iconst 1, 1) := by decide +kernel
theorem dX4_calmBeach_20 : decode cX4_calmBeach 20 = .ok (.iadd, 1) := by decide +kernel
theorem dX4_calmBeach_21 : decode cX4_calmBeach 21 = .ok (.imul, 1) := by decide +kernel
theorem dX4_calmBeach_22 : decode cX4_calmBeach 22 = .ok (.istore_n 2, 1) := by decide +kernel
theorem dX4_calmBeach_23 : decode cX4_calmBeach 23 = .ok (.aload_n 0, 1) := by decide +kernel
theorem dX4_calmBeach_24 : decode cX4_calmBeach 24 = .ok (.getfield 23, 3) := by decide +kernel
theorem dX4_calmBeach_27 : decode cX4_calmBeach 27 = .ok (.iload_n 1, 1) := by decide +kernel
theorem dX4_calmBeach_28 : decode cX4_calmBeach 28 = .ok (.dup2, 1) := by decide +kernel
theorem dX4_calmBeach_29 : decode cX4_calmBeach 29 = .ok (.iaload, 1) := by decide +kernel
theorem dX4_calmBeach_30 : decode cX4_calmBeach 30 = .ok (.aload_n 0, 1) := by decide +kernel
theorem dX4_calmBeach_31 : decode cX4_calmBeach 31 = .ok (.getfield 23, 3) := by decide +kernel
theorem dX4_calmBeach_34 : decode cX4_calmBeach 34 = .ok (.iload_n 1, 1) := by decide +kernel
theorem dX4_calmBeach_35 : decode cX4_calmBeach 35 = .ok (.iaload, 1) := by decide +kernel
theorem dX4_calmBeach_36 : decode cX4_calmBeach 36 = .ok (.iload_n 2, 1) := by decide +kernel
theorem dX4_calmBeach_37 : decode cX4_calmBeach 37 = .ok (.imul, 1) := by decide +kernel
theorem dX4_calmBeach_38 : decode cX4_calmBeach 38 = .ok (.sipush 400, 3) := by decide +kernel
theorem dX4_calmBeach_41 : decode cX4_calmBeach 41 = .ok (.idiv, 1) := by decide +kernel
theorem dX4_calmBeach_42 : decode cX4_calmBeach 42 = .ok (.isub, 1) := by decide +kernel
theorem dX4_calmBeach_43 : decode cX4_calmBeach 43 = .ok (.iastore, 1) := by decide +kernel
theorem dX4_calmBeach_44 : decode cX4_calmBeach 44 = .ok (.aload_n 0, 1) := by decide +kernel
theorem dX4_calmBeach_45 : decode cX4_calmBeach 45 = .ok (.getfield 26, 3) := by decide +kernel
theorem dX4_calmBeach_48 : decode cX4_calmBeach 48 = .ok (.iload_n 1, 1) := by decide +kernel
theorem dX4_calmBeach_49 : decode cX4_calmBeach 49 = .ok (.dup2, 1) := by decide +kernel
theorem dX4_calmBeach_50 : decode cX4_calmBeach 50 = .ok (.iaload, 1) := by decide +kernel
theorem dX4_calmBeach_51 : decode cX4_calmBeach 51 = .ok (.aload_n 0, 1) := by decide +kernel
theorem dX4_calmBeach_52 : decode cX4_calmBeach 52 = .ok (.getfield 26, 3) := by decide +kernel
theorem dX4_calmBeach_55 : decode cX4_calmBeach 55 = .ok (.iload_n 1, 1) := by decide +kernel
theorem dX4_calmBeach_56 : decode cX4_calmBeach 56 = .ok (.iaload, 1) := by decide +kernel
theorem dX4_calmBeach_57 : decode cX4_calmBeach 57 = .ok (.iload_n 2, 1) := by decide +kernel
theorem dX4_calmBeach_58 : decode cX4_calmBeach 58 = .ok (.imul, 1) := by decide +kernel
theorem dX4_calmBeach_59 : decode cX4_calmBeach 59 = .ok (.sipush 400, 3) := by decide +kernel
theorem dX4_calmBeach_62 : decode cX4_calmBeach 62 = .ok (.idiv, 1) := by decide +kernel
theorem dX4_calmBeach_63 : decode cX4_calmBeach 63 = .ok (.isub, 1) := by decide +kernel
theorem dX4_calmBeach_64 : decode cX4_calmBeach 64 = .ok (.iastore, 1) := by decide +kernel
theorem dX4_calmBeach_65 : decode cX4_calmBeach 65 = .ok (.iinc 1 1, 3) := by decide +kernel
theorem dX4_calmBeach_68 : decode cX4_calmBeach 68 = .ok (.goto (-65), 3) := by decide +kernel
theorem dX4_calmBeach_71 : decode cX4_calmBeach 71 = .ok (.return_, 1) := by decide +kernel
theorem dX4_isCrest_0 : decode cX4_isCrest 0 = .ok (.iload_n 1, 1) := by decide +kernel
theorem dX4_isCrest_1 : decode cX4_isCrest 1 = .ok (.iconst 1, 1) := by decide +kernel
theorem dX4_isCrest_2 : decode cX4_isCrest 2 = .ok (.if_icmp .lt 47, 3) := by decide +kernel
theorem dX4_isCrest_5 : decode cX4_isCrest 5 = .ok (.iload_n 1, 1) := by decide +kernel
theorem dX4_isCrest_6 : decode cX4_isCrest 6 = .ok (.bipush 39, 2) := by decide +kernel
theorem dX4_isCrest_8 : decode cX4_isCrest 8 = .ok (.if_icmp .ge 41, 3) := by decide +kernel
theorem dX4_isCrest_11 : decode cX4_isCrest 11 = .ok (.aload_n 0, 1) := by decide +kernel
theorem dX4_isCrest_12 : decode cX4_isCrest 12 = .ok (.getfield 23, 3) := by decide +kernel
theorem dX4_isCrest_15 : decode cX4_isCrest 15 = .ok (.iload_n 1, 1) := by decide +kernel
theorem dX4_isCrest_16 : decode cX4_isCrest 16 = .ok (.iaload, 1) := by decide +kernel
theorem dX4_isCrest_17 : decode cX4_isCrest 17 = .ok (.aload_n 0, 1) := by decide +kernel
theorem dX4_isCrest_18 : decode cX4_isCrest 18 = .ok (.getfield 23, 3) := by decide +kernel
theorem dX4_isCrest_21 : decode cX4_isCrest 21 = .ok (.iload_n 1, 1) := by decide +kernel
theorem dX4_isCrest_22 : decode cX4_isCrest 22 = .ok (.iconst 1, 1) := by decide +kernel
theorem dX4_isCrest_23 : decode cX4_isCrest 23 = .ok (.isub, 1) := by decide +kernel
theorem dX4_isCrest_24 : decode cX4_isCrest 24 = .ok (.iaload, 1) := by decide +kernel
theorem dX4_isCrest_25 : decode cX4_isCrest 25 = .ok (.if_icmp .le 24, 3) := by decide +kernel
theorem dX4_isCrest_28 : decode cX4_isCrest 28 = .ok (.aload_n 0, 1) := by decide +kernel
theorem dX4_isCrest_29 : decode cX4_isCrest 29 = .ok (.getfield 23, 3) := by decide +kernel
theorem dX4_isCrest_32 : decode cX4_isCrest 32 = .ok (.iload_n 1, 1) := by decide +kernel
theorem dX4_isCrest_33 : decode cX4_isCrest 33 = .ok (.iaload, 1) := by decide +kernel
theorem dX4_isCrest_34 : decode cX4_isCrest 34 = .ok (.aload_n 0, 1) := by decide +kernel
theorem dX4_isCrest_35 : decode cX4_isCrest 35 = .ok (.getfield 23, 3) := by decide +kernel
theorem dX4_isCrest_38 : decode cX4_isCrest 38 = .ok (.iload_n 1, 1) := by decide +kernel
theorem dX4_isCrest_39 : decode cX4_isCrest 39 = .ok (.iconst 1, 1) := by decide +kernel
theorem dX4_isCrest_40 : decode cX4_isCrest 40 = .ok (.iadd, 1) := by decide +kernel
theorem dX4_isCrest_41 : decode cX4_isCrest 41 = .ok (.iaload, 1) := by decide +kernel
theorem dX4_isCrest_42 : decode cX4_isCrest 42 = .ok (.if_icmp .le 7, 3) := by decide +kernel
theorem dX4_isCrest_45 : decode cX4_isCrest 45 = .ok (.iconst 1, 1) := by decide +kernel
theorem dX4_isCrest_46 : decode cX4_isCrest 46 = .ok (.goto 4, 3) := by decide +kernel
theorem dX4_isCrest_49 : decode cX4_isCrest 49 = .ok (.iconst 0, 1) := by decide +kernel
theorem dX4_isCrest_50 : decode cX4_isCrest 50 = .ok (.ireturn, 1) := by decide +kernel
theorem dX4_isTrough_0 : decode cX4_isTrough 0 = .ok (.iload_n 1, 1) := by decide +kernel
theorem dX4_isTrough_1 : decode cX4_isTrough 1 = .ok (.iconst 1, 1) := by decide +kernel
theorem dX4_isTrough_2 : decode cX4_isTrough 2 = .ok (.if_icmp .lt 47, 3) := by decide +kernel
theorem dX4_isTrough_5 : decode cX4_isTrough 5 = .ok (.iload_n 1, 1) := by decide +kernel
theorem dX4_isTrough_6 : decode cX4_isTrough 6 = .ok (.bipush 39, 2) := by decide +kernel
theorem dX4_isTrough_8 : decode cX4_isTrough 8 = .ok (.if_icmp .ge 41, 3) := by decide +kernel
theorem dX4_isTrough_11 : decode cX4_isTrough 11 = .ok (.aload_n 0, 1) := by decide +kernel
theorem dX4_isTrough_12 : decode cX4_isTrough 12 = .ok (.getfield 23, 3) := by decide +kernel
theorem dX4_isTrough_15 : decode cX4_isTrough 15 = .ok (.iload_n 1, 1) := by decide +kernel
theorem dX4_isTrough_16 : decode cX4_isTrough 16 = .ok (.iaload, 1) := by decide +kernel
theorem dX4_isTrough_17 : decode cX4_isTrough 17 = .ok (.aload_n 0, 1) := by decide +kernel
theorem dX4_isTrough_18 : decode cX4_isTrough 18 = .ok (.getfield 23, 3) := by decide +kernel
theorem dX4_isTrough_21 : decode cX4_isTrough 21 = .ok (.iload_n 1, 1) := by decide +kernel
theorem dX4_isTrough_22 : decode cX4_isTrough 22 = .ok (.iconst 1, 1) := by decide +kernel
theorem dX4_isTrough_23 : decode cX4_isTrough 23 = .ok (.isub, 1) := by decide +kernel
theorem dX4_isTrough_24 : decode cX4_isTrough 24 = .ok (.iaload, 1) := by decide +kernel
theorem dX4_isTrough_25 : decode cX4_isTrough 25 = .ok (.if_icmp .ge 24, 3) := by decide +kernel
theorem dX4_isTrough_28 : decode cX4_isTrough 28 = .ok (.aload_n 0, 1) := by decide +kernel
theorem dX4_isTrough_29 : decode cX4_isTrough 29 = .ok (.getfield 23, 3) := by decide +kernel
theorem dX4_isTrough_32 : decode cX4_isTrough 32 = .ok (.iload_n 1, 1) := by decide +kernel
theorem dX4_isTrough_33 : decode cX4_isTrough 33 = .ok (.iaload, 1) := by decide +kernel
theorem dX4_isTrough_34 : decode cX4_isTrough 34 = .ok (.aload_n 0, 1) := by decide +kernel
theorem dX4_isTrough_35 : decode cX4_isTrough 35 = .ok (.getfield 23, 3) := by decide +kernel
theorem dX4_isTrough_38 : decode cX4_isTrough 38 = .ok (.iload_n 1, 1) := by decide +kernel
theorem dX4_isTrough_39 : decode cX4_isTrough 39 = .ok (.iconst 1, 1) := by decide +kernel
theorem dX4_isTrough_40 : decode cX4_isTrough 40 = .ok (.iadd, 1) := by decide +kernel
theorem dX4_isTrough_41 : decode cX4_isTrough 41 = .ok (.iaload, 1) := by decide +kernel
theorem dX4_isTrough_42 : decode cX4_isTrough 42 = .ok (.if_icmp .ge 7, 3) := by decide +kernel
theorem dX4_isTrough_45 : decode cX4_isTrough 45 = .ok (.iconst 1, 1) := by decide +kernel
theorem dX4_isTrough_46 : decode cX4_isTrough 46 = .ok (.goto 4, 3) := by decide +kernel
theorem dX4_isTrough_49 : decode cX4_isTrough 49 = .ok (.iconst 0, 1) := by decide +kernel
theorem dX4_isTrough_50 : decode cX4_isTrough 50 = .ok (.ireturn, 1) := by decide +kernel
theorem dX4_isCalm_0 : decode cX4_isCalm 0 = .ok (.iconst 0, 1) := by decide +kernel
theorem dX4_isCalm_1 : decode cX4_isCalm 1 = .ok (.istore_n 1, 1) := by decide +kernel
theorem dX4_isCalm_2 : decode cX4_isCalm 2 = .ok (.iload_n 1, 1) := by decide +kernel
theorem dX4_isCalm_3 : decode cX4_isCalm 3 = .ok (.bipush 40, 2) := by decide +kernel
theorem dX4_isCalm_5 : decode cX4_isCalm 5 = .ok (.if_icmp .ge 29, 3) := by decide +kernel
theorem dX4_isCalm_8 : decode cX4_isCalm 8 = .ok (.aload_n 0, 1) := by decide +kernel
theorem dX4_isCalm_9 : decode cX4_isCalm 9 = .ok (.getfield 23, 3) := by decide +kernel
theorem dX4_isCalm_12 : decode cX4_isCalm 12 = .ok (.iload_n 1, 1) := by decide +kernel
theorem dX4_isCalm_13 : decode cX4_isCalm 13 = .ok (.iaload, 1) := by decide +kernel
theorem dX4_isCalm_14 : decode cX4_isCalm 14 = .ok (.ifCond .ne 12, 3) := by decide +kernel
theorem dX4_isCalm_17 : decode cX4_isCalm 17 = .ok (.aload_n 0, 1) := by decide +kernel
theorem dX4_isCalm_18 : decode cX4_isCalm 18 = .ok (.getfield 26, 3) := by decide +kernel
theorem dX4_isCalm_21 : decode cX4_isCalm 21 = .ok (.iload_n 1, 1) := by decide +kernel
theorem dX4_isCalm_22 : decode cX4_isCalm 22 = .ok (.iaload, 1) := by decide +kernel
theorem dX4_isCalm_23 : decode cX4_isCalm 23 = .ok (.ifCond .eq 5, 3) := by decide +kernel
theorem dX4_isCalm_26 : decode cX4_isCalm 26 = .ok (.iconst 0, 1) := by decide +kernel
theorem dX4_isCalm_27 : decode cX4_isCalm 27 = .ok (.ireturn, 1) := by decide +kernel
theorem dX4_isCalm_28 : decode cX4_isCalm 28 = .ok (.iinc 1 1, 3) := by decide +kernel
theorem dX4_isCalm_31 : decode cX4_isCalm 31 = .ok (.goto (-29), 3) := by decide +kernel
theorem dX4_isCalm_34 : decode cX4_isCalm 34 = .ok (.iconst 1, 1) := by decide +kernel
theorem dX4_isCalm_35 : decode cX4_isCalm 35 = .ok (.ireturn, 1) := by decide +kernel
theorem dX4_cellsThatAre_0 : decode cX4_cellsThatAre 0 = .ok (.lconst 0, 1) := by decide +kernel
theorem dX4_cellsThatAre_1 : decode cX4_cellsThatAre 1 = .ok (.lstore_n 2, 1) := by decide +kernel
theorem dX4_cellsThatAre_2 : decode cX4_cellsThatAre 2 = .ok (.iconst 0, 1) := by decide +kernel
theorem dX4_cellsThatAre_3 : decode cX4_cellsThatAre 3 = .ok (.istore 4, 2) := by decide +kernel
theorem dX4_cellsThatAre_5 : decode cX4_cellsThatAre 5 = .ok (.iload 4, 2) := by decide +kernel
theorem dX4_cellsThatAre_7 : decode cX4_cellsThatAre 7 = .ok (.bipush 40, 2) := by decide +kernel
theorem dX4_cellsThatAre_9 : decode cX4_cellsThatAre 9 = .ok (.if_icmp .ge 26, 3) := by decide +kernel
theorem dX4_cellsThatAre_12 : decode cX4_cellsThatAre 12 = .ok (.aload_n 0, 1) := by decide +kernel
theorem dX4_cellsThatAre_13 : decode cX4_cellsThatAre 13 = .ok (.iload 4, 2) := by decide +kernel
theorem dX4_cellsThatAre_15 : decode cX4_cellsThatAre 15 = .ok (.iload_n 1, 1) := by decide +kernel
theorem dX4_cellsThatAre_16 : decode cX4_cellsThatAre 16 = .ok (.invokevirtual 143, 3) := by decide +kernel
theorem dX4_cellsThatAre_19 : decode cX4_cellsThatAre 19 = .ok (.ifCond .eq 10, 3) := by decide +kernel
theorem dX4_cellsThatAre_22 : decode cX4_cellsThatAre 22 = .ok (.lload_n 2, 1) := by decide +kernel
theorem dX4_cellsThatAre_23 : decode cX4_cellsThatAre 23 = .ok (.lconst 1, 1) := by decide +kernel
theorem dX4_cellsThatAre_24 : decode cX4_cellsThatAre 24 = .ok (.iload 4, 2) := by decide +kernel
theorem dX4_cellsThatAre_26 : decode cX4_cellsThatAre 26 = .ok (.lshl, 1) := by decide +kernel
theorem dX4_cellsThatAre_27 : decode cX4_cellsThatAre 27 = .ok (.lor, 1) := by decide +kernel
theorem dX4_cellsThatAre_28 : decode cX4_cellsThatAre 28 = .ok (.lstore_n 2, 1) := by decide +kernel
theorem dX4_cellsThatAre_29 : decode cX4_cellsThatAre 29 = .ok (.iinc 4 1, 3) := by decide +kernel
theorem dX4_cellsThatAre_32 : decode cX4_cellsThatAre 32 = .ok (.goto (-27), 3) := by decide +kernel
theorem dX4_cellsThatAre_35 : decode cX4_cellsThatAre 35 = .ok (.lload_n 2, 1) := by decide +kernel
theorem dX4_cellsThatAre_36 : decode cX4_cellsThatAre 36 = .ok (.lreturn, 1) := by decide +kernel
theorem dX4_isPlace_0 : decode cX4_isPlace 0 = .ok (.aload_n 0, 1) := by decide +kernel
theorem dX4_isPlace_1 : decode cX4_isPlace 1 = .ok (.iload_n 1, 1) := by decide +kernel
theorem dX4_isPlace_2 : decode cX4_isPlace 2 = .ok (.invokevirtual 80, 3) := by decide +kernel
theorem dX4_isPlace_5 : decode cX4_isPlace 5 = .ok (.istore_n 3, 1) := by decide +kernel
theorem dX4_isPlace_6 : decode cX4_isPlace 6 = .ok (.iload_n 2, 1) := by decide +kernel
theorem dX4_isPlace_7 : decode cX4_isPlace 7 = .ok (.tableswitch 92 0 4 #[33, 39, 45, 60, 70], 33) := by decide +kernel
theorem dX4_isPlace_40 : decode cX4_isPlace 40 = .ok (.aload_n 0, 1) := by decide +kernel
theorem dX4_isPlace_41 : decode cX4_isPlace 41 = .ok (.iload_n 1, 1) := by decide +kernel
theorem dX4_isPlace_42 : decode cX4_isPlace 42 = .ok (.invokevirtual 146, 3) := by decide +kernel
theorem dX4_isPlace_45 : decode cX4_isPlace 45 = .ok (.ireturn, 1) := by decide +kernel
theorem dX4_isPlace_46 : decode cX4_isPlace 46 = .ok (.aload_n 0, 1) := by decide +kernel
theorem dX4_isPlace_47 : decode cX4_isPlace 47 = .ok (.iload_n 1, 1) := by decide +kernel
theorem dX4_isPlace_48 : decode cX4_isPlace 48 = .ok (.invokevirtual 150, 3) := by decide +kernel
theorem dX4_isPlace_51 : decode cX4_isPlace 51 = .ok (.ireturn, 1) := by decide +kernel
theorem dX4_isPlace_52 : decode cX4_isPlace 52 = .ok (.aload_n 0, 1) := by decide +kernel
theorem dX4_isPlace_53 : decode cX4_isPlace 53 = .ok (.getfield 23, 3) := by decide +kernel
theorem dX4_isPlace_56 : decode cX4_isPlace 56 = .ok (.iload_n 1, 1) := by decide +kernel
theorem dX4_isPlace_57 : decode cX4_isPlace 57 = .ok (.iaload, 1) := by decide +kernel
theorem dX4_isPlace_58 : decode cX4_isPlace 58 = .ok (.ifCond .eq 7, 3) := by decide +kernel
theorem dX4_isPlace_61 : decode cX4_isPlace 61 = .ok (.iconst 1, 1) := by decide +kernel
theorem dX4_isPlace_62 : decode cX4_isPlace 62 = .ok (.goto 4, 3) := by decide +kernel
theorem dX4_isPlace_65 : decode cX4_isPlace 65 = .ok (.iconst 0, 1) := by decide +kernel
theorem dX4_isPlace_66 : decode cX4_isPlace 66 = .ok (.ireturn, 1) := by decide +kernel
theorem dX4_isPlace_67 : decode cX4_isPlace 67 = .ok (.iload_n 3, 1) := by decide +kernel
theorem dX4_isPlace_68 : decode cX4_isPlace 68 = .ok (.ifCond .lt 7, 3) := by decide +kernel
theorem dX4_isPlace_71 : decode cX4_isPlace 71 = .ok (.iconst 1, 1) := by decide +kernel
theorem dX4_isPlace_72 : decode cX4_isPlace 72 = .ok (.goto 4, 3) := by decide +kernel
theorem dX4_isPlace_75 : decode cX4_isPlace 75 = .ok (.iconst 0, 1) := by decide +kernel
theorem dX4_isPlace_76 : decode cX4_isPlace 76 = .ok (.ireturn, 1) := by decide +kernel
theorem dX4_isPlace_77 : decode cX4_isPlace 77 = .ok (.iload_n 3, 1) := by decide +kernel
theorem dX4_isPlace_78 : decode cX4_isPlace 78 = .ok (.ifCond .lt 19, 3) := by decide +kernel
theorem dX4_isPlace_81 : decode cX4_isPlace 81 = .ok (.aload_n 0, 1) := by decide +kernel
theorem dX4_isPlace_82 : decode cX4_isPlace 82 = .ok (.getfield 31, 3) := by decide +kernel
theorem dX4_isPlace_85 : decode cX4_isPlace 85 = .ok (.iload_n 3, 1) := by decide +kernel
theorem dX4_isPlace_86 : decode cX4_isPlace 86 = .ok (.aaload, 1) := by decide +kernel
theorem dX4_isPlace_87 : decode cX4_isPlace 87 = .ok (.getfield 102, 3) := by decide +kernel
theorem dX4_isPlace_90 : decode cX4_isPlace 90 = .ok (.ifCond .ne 7, 3) := by decide +kernel
theorem dX4_isPlace_93 : decode cX4_isPlace 93 = .ok (.iconst 1, 1) := by decide +kernel
theorem dX4_isPlace_94 : decode cX4_isPlace 94 = .ok (.goto 4, 3) := by decide +kernel
theorem dX4_isPlace_97 : decode cX4_isPlace 97 = .ok (.iconst 0, 1) := by decide +kernel
theorem dX4_isPlace_98 : decode cX4_isPlace 98 = .ok (.ireturn, 1) := by decide +kernel
theorem dX4_isPlace_99 : decode cX4_isPlace 99 = .ok (.iconst 0, 1) := by decide +kernel
theorem dX4_isPlace_100 : decode cX4_isPlace 100 = .ok (.ireturn, 1) := by decide +kernel
theorem dX4_sumOfLevels_0 : decode cX4_sumOfLevels 0 = .ok (.iconst 0, 1) := by decide +kernel
theorem dX4_sumOfLevels_1 : decode cX4_sumOfLevels 1 = .ok (.istore_n 1, 1) := by decide +kernel
theorem dX4_sumOfLevels_2 : decode cX4_sumOfLevels 2 = .ok (.iconst 0, 1) := by decide +kernel
theorem dX4_sumOfLevels_3 : decode cX4_sumOfLevels 3 = .ok (.istore_n 2, 1) := by decide +kernel
theorem dX4_sumOfLevels_4 : decode cX4_sumOfLevels 4 = .ok (.iload_n 2, 1) := by decide +kernel
theorem dX4_sumOfLevels_5 : decode cX4_sumOfLevels 5 = .ok (.bipush 40, 2) := by decide +kernel
theorem dX4_sumOfLevels_7 : decode cX4_sumOfLevels 7 = .ok (.if_icmp .ge 18, 3) := by decide +kernel
theorem dX4_sumOfLevels_10 : decode cX4_sumOfLevels 10 = .ok (.iload_n 1, 1) := by decide +kernel
theorem dX4_sumOfLevels_11 : decode cX4_sumOfLevels 11 = .ok (.aload_n 0, 1) := by decide +kernel
theorem dX4_sumOfLevels_12 : decode cX4_sumOfLevels 12 = .ok (.getfield 23, 3) := by decide +kernel
theorem dX4_sumOfLevels_15 : decode cX4_sumOfLevels 15 = .ok (.iload_n 2, 1) := by decide +kernel
theorem dX4_sumOfLevels_16 : decode cX4_sumOfLevels 16 = .ok (.iaload, 1) := by decide +kernel
theorem dX4_sumOfLevels_17 : decode cX4_sumOfLevels 17 = .ok (.iadd, 1) := by decide +kernel
theorem dX4_sumOfLevels_18 : decode cX4_sumOfLevels 18 = .ok (.istore_n 1, 1) := by decide +kernel
theorem dX4_sumOfLevels_19 : decode cX4_sumOfLevels 19 = .ok (.iinc 2 1, 3) := by decide +kernel
theorem dX4_sumOfLevels_22 : decode cX4_sumOfLevels 22 = .ok (.goto (-18), 3) := by decide +kernel
theorem dX4_sumOfLevels_25 : decode cX4_sumOfLevels 25 = .ok (.iload_n 1, 1) := by decide +kernel
theorem dX4_sumOfLevels_26 : decode cX4_sumOfLevels 26 = .ok (.ireturn, 1) := by decide +kernel
theorem dX4_motion_0 : decode cX4_motion 0 = .ok (.iconst 0, 1) := by decide +kernel
theorem dX4_motion_1 : decode cX4_motion 1 = .ok (.istore_n 1, 1) := by decide +kernel
theorem dX4_motion_2 : decode cX4_motion 2 = .ok (.iconst 0, 1) := by decide +kernel
theorem dX4_motion_3 : decode cX4_motion 3 = .ok (.istore_n 2, 1) := by decide +kernel
theorem dX4_motion_4 : decode cX4_motion 4 = .ok (.iload_n 2, 1) := by decide +kernel
theorem dX4_motion_5 : decode cX4_motion 5 = .ok (.bipush 40, 2) := by decide +kernel
theorem dX4_motion_7 : decode cX4_motion 7 = .ok (.if_icmp .ge 31, 3) := by decide +kernel
theorem dX4_motion_10 : decode cX4_motion 10 = .ok (.iload_n 1, 1) := by decide +kernel
theorem dX4_motion_11 : decode cX4_motion 11 = .ok (.aload_n 0, 1) := by decide +kernel
theorem dX4_motion_12 : decode cX4_motion 12 = .ok (.getfield 23, 3) := by decide +kernel
theorem dX4_motion_15 : decode cX4_motion 15 = .ok (.iload_n 2, 1) := by decide +kernel
theorem dX4_motion_16 : decode cX4_motion 16 = .ok (.iaload, 1) := by decide +kernel
theorem dX4_motion_17 : decode cX4_motion 17 = .ok (.invokestatic 132, 3) := by decide +kernel
theorem dX4_motion_20 : decode cX4_motion 20 = .ok (.aload_n 0, 1) := by decide +kernel
theorem dX4_motion_21 : decode cX4_motion 21 = .ok (.getfield 26, 3) := by decide +kernel
theorem dX4_motion_24 : decode cX4_motion 24 = .ok (.iload_n 2, 1) := by decide +kernel
theorem dX4_motion_25 : decode cX4_motion 25 = .ok (.iaload, 1) := by decide +kernel
theorem dX4_motion_26 : decode cX4_motion 26 = .ok (.invokestatic 132, 3) := by decide +kernel
theorem dX4_motion_29 : decode cX4_motion 29 = .ok (.iadd, 1) := by decide +kernel
theorem dX4_motion_30 : decode cX4_motion 30 = .ok (.iadd, 1) := by decide +kernel
theorem dX4_motion_31 : decode cX4_motion 31 = .ok (.istore_n 1, 1) := by decide +kernel
theorem dX4_motion_32 : decode cX4_motion 32 = .ok (.iinc 2 1, 3) := by decide +kernel
theorem dX4_motion_35 : decode cX4_motion 35 = .ok (.goto (-31), 3) := by decide +kernel
theorem dX4_motion_38 : decode cX4_motion 38 = .ok (.iload_n 1, 1) := by decide +kernel
theorem dX4_motion_39 : decode cX4_motion 39 = .ok (.ireturn, 1) := by decide +kernel
theorem dX4_farthestLevel_0 : decode cX4_farthestLevel 0 = .ok (.iconst 0, 1) := by decide +kernel
theorem dX4_farthestLevel_1 : decode cX4_farthestLevel 1 = .ok (.istore_n 1, 1) := by decide +kernel
theorem dX4_farthestLevel_2 : decode cX4_farthestLevel 2 = .ok (.iconst 0, 1) := by decide +kernel
theorem dX4_farthestLevel_3 : decode cX4_farthestLevel 3 = .ok (.istore_n 2, 1) := by decide +kernel
theorem dX4_farthestLevel_4 : decode cX4_farthestLevel 4 = .ok (.iload_n 2, 1) := by decide +kernel
theorem dX4_farthestLevel_5 : decode cX4_farthestLevel 5 = .ok (.bipush 40, 2) := by decide +kernel
theorem dX4_farthestLevel_7 : decode cX4_farthestLevel 7 = .ok (.if_icmp .ge 23, 3) := by decide +kernel
theorem dX4_farthestLevel_10 : decode cX4_farthestLevel 10 = .ok (.iload_n 1, 1) := by decide +kernel
theorem dX4_farthestLevel_11 : decode cX4_farthestLevel 11 = .ok (.aload_n 0, 1) := by decide +kernel
theorem dX4_farthestLevel_12 : decode cX4_farthestLevel 12 = .ok (.getfield 23, 3) := by decide +kernel
theorem dX4_farthestLevel_15 : decode cX4_farthestLevel 15 = .ok (.iload_n 2, 1) := by decide +kernel
theorem dX4_farthestLevel_16 : decode cX4_farthestLevel 16 = .ok (.iaload, 1) := by decide +kernel
theorem dX4_farthestLevel_17 : decode cX4_farthestLevel 17 = .ok (.invokestatic 132, 3) := by decide +kernel
theorem dX4_farthestLevel_20 : decode cX4_farthestLevel 20 = .ok (.invokestatic 153, 3) := by decide +kernel
theorem dX4_farthestLevel_23 : decode cX4_farthestLevel 23 = .ok (.istore_n 1, 1) := by decide +kernel
theorem dX4_farthestLevel_24 : decode cX4_farthestLevel 24 = .ok (.iinc 2 1, 3) := by decide +kernel
theorem dX4_farthestLevel_27 : decode cX4_farthestLevel 27 = .ok (.goto (-23), 3) := by decide +kernel
theorem dX4_farthestLevel_30 : decode cX4_farthestLevel 30 = .ok (.iload_n 1, 1) := by decide +kernel
theorem dX4_farthestLevel_31 : decode cX4_farthestLevel 31 = .ok (.ireturn, 1) := by decide +kernel
theorem dX4_lastUnevenCell_0 : decode cX4_lastUnevenCell 0 = .ok (.bipush 39, 2) := by decide +kernel
theorem dX4_lastUnevenCell_2 : decode cX4_lastUnevenCell 2 = .ok (.istore_n 1, 1) := by decide +kernel
theorem dX4_lastUnevenCell_3 : decode cX4_lastUnevenCell 3 = .ok (.iload_n 1, 1) := by decide +kernel
theorem dX4_lastUnevenCell_4 : decode cX4_lastUnevenCell 4 = .ok (.ifCond .lt 20, 3) := by decide +kernel
theorem dX4_lastUnevenCell_7 : decode cX4_lastUnevenCell 7 = .ok (.aload_n 0, 1) := by decide +kernel
theorem dX4_lastUnevenCell_8 : decode cX4_lastUnevenCell 8 = .ok (.getfield 23, 3) := by decide +kernel
theorem dX4_lastUnevenCell_11 : decode cX4_lastUnevenCell 11 = .ok (.iload_n 1, 1) := by decide +kernel
theorem dX4_lastUnevenCell_12 : decode cX4_lastUnevenCell 12 = .ok (.iaload, 1) := by decide +kernel
theorem dX4_lastUnevenCell_13 : decode cX4_lastUnevenCell 13 = .ok (.ifCond .eq 5, 3) := by decide +kernel
theorem dX4_lastUnevenCell_16 : decode cX4_lastUnevenCell 16 = .ok (.iload_n 1, 1) := by decide +kernel
theorem dX4_lastUnevenCell_17 : decode cX4_lastUnevenCell 17 = .ok (.ireturn, 1) := by decide +kernel
theorem dX4_lastUnevenCell_18 : decode cX4_lastUnevenCell 18 = .ok (.iinc 1 (-1), 3) := by decide +kernel
theorem dX4_lastUnevenCell_21 : decode cX4_lastUnevenCell 21 = .ok (.goto (-18), 3) := by decide +kernel
theorem dX4_lastUnevenCell_24 : decode cX4_lastUnevenCell 24 = .ok (.bipush (-6), 2) := by decide +kernel
theorem dX4_lastUnevenCell_26 : decode cX4_lastUnevenCell 26 = .ok (.ireturn, 1) := by decide +kernel
theorem dX5_init_0 : decode cX5_init 0 = .ok (.aload_n 0, 1) := by decide +kernel
theorem dX5_init_1 : decode cX5_init 1 = .ok (.invokespecial 1, 3) := by decide +kernel
theorem dX5_init_4 : decode cX5_init 4 = .ok (.aload_n 0, 1) := by decide +kernel
theorem dX5_init_5 : decode cX5_init 5 = .ok (.new 7, 3) := by decide +kernel
theorem dX5_init_8 : decode cX5_init 8 = .ok (.dup, 1) := by decide +kernel
theorem dX5_init_9 : decode cX5_init 9 = .ok (.invokespecial 9, 3) := by decide +kernel
theorem dX5_init_12 : decode cX5_init 12 = .ok (.putfield 10, 3) := by decide +kernel
theorem dX5_init_15 : decode cX5_init 15 = .ok (.aload_n 0, 1) := by decide +kernel
theorem dX5_init_16 : decode cX5_init 16 = .ok (.new 16, 3) := by decide +kernel
theorem dX5_init_19 : decode cX5_init 19 = .ok (.dup, 1) := by decide +kernel
theorem dX5_init_20 : decode cX5_init 20 = .ok (.invokespecial 18, 3) := by decide +kernel
theorem dX5_init_23 : decode cX5_init 23 = .ok (.putfield 19, 3) := by decide +kernel
theorem dX5_init_26 : decode cX5_init 26 = .ok (.aload_n 0, 1) := by decide +kernel
theorem dX5_init_27 : decode cX5_init 27 = .ok (.new 23, 3) := by decide +kernel
theorem dX5_init_30 : decode cX5_init 30 = .ok (.dup, 1) := by decide +kernel
theorem dX5_init_31 : decode cX5_init 31 = .ok (.invokespecial 25, 3) := by decide +kernel
theorem dX5_init_34 : decode cX5_init 34 = .ok (.putfield 26, 3) := by decide +kernel
theorem dX5_init_37 : decode cX5_init 37 = .ok (.aload_n 0, 1) := by decide +kernel
theorem dX5_init_38 : decode cX5_init 38 = .ok (.iconst 2, 1) := by decide +kernel
theorem dX5_init_39 : decode cX5_init 39 = .ok (.anewarray 7, 3) := by decide +kernel
theorem dX5_init_42 : decode cX5_init 42 = .ok (.putfield 30, 3) := by decide +kernel
theorem dX5_init_45 : decode cX5_init 45 = .ok (.aload_n 0, 1) := by decide +kernel
theorem dX5_init_46 : decode cX5_init 46 = .ok (.iconst 2, 1) := by decide +kernel
theorem dX5_init_47 : decode cX5_init 47 = .ok (.newarray .boolean, 2) := by decide +kernel
theorem dX5_init_49 : decode cX5_init 49 = .ok (.putfield 34, 3) := by decide +kernel
theorem dX5_init_52 : decode cX5_init 52 = .ok (.aload_n 0, 1) := by decide +kernel
theorem dX5_init_53 : decode cX5_init 53 = .ok (.new 7, 3) := by decide +kernel
theorem dX5_init_56 : decode cX5_init 56 = .ok (.dup, 1) := by decide +kernel
theorem dX5_init_57 : decode cX5_init 57 = .ok (.invokespecial 9, 3) := by decide +kernel
theorem dX5_init_60 : decode cX5_init 60 = .ok (.putfield 38, 3) := by decide +kernel
theorem dX5_init_63 : decode cX5_init 63 = .ok (.aload_n 0, 1) := by decide +kernel
theorem dX5_init_64 : decode cX5_init 64 = .ok (.new 7, 3) := by decide +kernel
theorem dX5_init_67 : decode cX5_init 67 = .ok (.dup, 1) := by decide +kernel
theorem dX5_init_68 : decode cX5_init 68 = .ok (.invokespecial 9, 3) := by decide +kernel
theorem dX5_init_71 : decode cX5_init 71 = .ok (.putfield 41, 3) := by decide +kernel
theorem dX5_init_74 : decode cX5_init 74 = .ok (.iconst 0, 1) := by decide +kernel
theorem dX5_init_75 : decode cX5_init 75 = .ok (.istore_n 1, 1) := by decide +kernel
theorem dX5_init_76 : decode cX5_init 76 = .ok (.iload_n 1, 1) := by decide +kernel
theorem dX5_init_77 : decode cX5_init 77 = .ok (.iconst 2, 1) := by decide +kernel
theorem dX5_init_78 : decode cX5_init 78 = .ok (.if_icmp .ge 22, 3) := by decide +kernel
theorem dX5_init_81 : decode cX5_init 81 = .ok (.aload_n 0, 1) := by decide +kernel
theorem dX5_init_82 : decode cX5_init 82 = .ok (.getfield 30, 3) := by decide +kernel
theorem dX5_init_85 : decode cX5_init 85 = .ok (.iload_n 1, 1) := by decide +kernel
theorem dX5_init_86 : decode cX5_init 86 = .ok (.new 7, 3) := by decide +kernel
theorem dX5_init_89 : decode cX5_init 89 = .ok (.dup, 1) := by decide +kernel
theorem dX5_init_90 : decode cX5_init 90 = .ok (.invokespecial 9, 3) := by decide +kernel
theorem dX5_init_93 : decode cX5_init 93 = .ok (.aastore, 1) := by decide +kernel
theorem dX5_init_94 : decode cX5_init 94 = .ok (.iinc 1 1, 3) := by decide +kernel
theorem dX5_init_97 : decode cX5_init 97 = .ok (.goto (-21), 3) := by decide +kernel
theorem dX5_init_100 : decode cX5_init 100 = .ok (.return_, 1) := by decide +kernel
theorem dX5_set_0 : decode cX5_set 0 = .ok (.aload_n 0, 1) := by decide +kernel
theorem dX5_set_1 : decode cX5_set 1 = .ok (.getfield 38, 3) := by decide +kernel
theorem dX5_set_4 : decode cX5_set 4 = .ok (.aload_n 0, 1) := by decide +kernel
theorem dX5_set_5 : decode cX5_set 5 = .ok (.getfield 10, 3) := by decide +kernel
theorem dX5_set_8 : decode cX5_set 8 = .ok (.invokevirtual 44, 3) := by decide +kernel
theorem dX5_set_11 : decode cX5_set 11 = .ok (.aload_n 0, 1) := by decide +kernel
theorem dX5_set_12 : decode cX5_set 12 = .ok (.aload_n 0, 1) := by decide +kernel
theorem dX5_set_13 : decode cX5_set 13 = .ok (.getfield 10, 3) := by decide +kernel
theorem dX5_set_16 : decode cX5_set 16 = .ok (.iload_n 1, 1) := by decide +kernel
theorem dX5_set_17 : decode cX5_set 17 = .ok (.iload_n 2, 1) := by decide +kernel
theorem dX5_set_18 : decode cX5_set 18 = .ok (.invokevirtual 48, 3) := by decide +kernel
theorem dX5_set_21 : decode cX5_set 21 = .ok (.invokevirtual 52, 3) := by decide +kernel
theorem dX5_set_24 : decode cX5_set 24 = .ok (.ireturn, 1) := by decide +kernel
theorem dX5_paddle_0 : decode cX5_paddle 0 = .ok (.aload_n 0, 1) := by decide +kernel
theorem dX5_paddle_1 : decode cX5_paddle 1 = .ok (.getfield 38, 3) := by decide +kernel
theorem dX5_paddle_4 : decode cX5_paddle 4 = .ok (.aload_n 0, 1) := by decide +kernel
theorem dX5_paddle_5 : decode cX5_paddle 5 = .ok (.getfield 10, 3) := by decide +kernel
theorem dX5_paddle_8 : decode cX5_paddle 8 = .ok (.invokevirtual 44, 3) := by decide +kernel
theorem dX5_paddle_11 : decode cX5_paddle 11 = .ok (.aload_n 0, 1) := by decide +kernel
theorem dX5_paddle_12 : decode cX5_paddle 12 = .ok (.aload_n 0, 1) := by decide +kernel
theorem dX5_paddle_13 : decode cX5_paddle 13 = .ok (.getfield 10, 3) := by decide +kernel
theorem dX5_paddle_16 : decode cX5_paddle 16 = .ok (.iload_n 1, 1) := by decide +kernel
theorem dX5_paddle_17 : decode cX5_paddle 17 = .ok (.iload_n 2, 1) := by decide +kernel
theorem dX5_paddle_18 : decode cX5_paddle 18 = .ok (.iload_n 3, 1) := by decide +kernel
theorem dX5_paddle_19 : decode cX5_paddle 19 = .ok (.iload 4, 2) := by decide +kernel
theorem dX5_paddle_21 : decode cX5_paddle 21 = .ok (.iload 5, 2) := by decide +kernel
theorem dX5_paddle_23 : decode cX5_paddle 23 = .ok (.invokevirtual 56, 3) := by decide +kernel
theorem dX5_paddle_26 : decode cX5_paddle 26 = .ok (.invokevirtual 52, 3) := by decide +kernel
theorem dX5_paddle_29 : decode cX5_paddle 29 = .ok (.ireturn, 1) := by decide +kernel
theorem dX5_lift_0 : decode cX5_lift 0 = .ok (.aload_n 0, 1) := by decide +kernel
theorem dX5_lift_1 : decode cX5_lift 1 = .ok (.getfield 38, 3) := by decide +kernel
theorem dX5_lift_4 : decode cX5_lift 4 = .ok (.aload_n 0, 1) := by decide +kernel
theorem dX5_lift_5 : decode cX5_lift 5 = .ok (.getfield 10, 3) := by decide +kernel
theorem dX5_lift_8 : decode cX5_lift 8 = .ok (.invokevirtual 44, 3) := by decide +kernel
theorem dX5_lift_11 : decode cX5_lift 11 = .ok (.aload_n 0, 1) := by decide +kernel
theorem dX5_lift_12 : decode cX5_lift 12 = .ok (.aload_n 0, 1) := by decide +kernel
theorem dX5_lift_13 : decode cX5_lift 13 = .ok (.getfield 10, 3) := by decide +kernel
theorem dX5_lift_16 : decode cX5_lift 16 = .ok (.iload_n 1, 1) := by decide +kernel
theorem dX5_lift_17 : decode cX5_lift 17 = .ok (.invokevirtual 60, 3) := by decide +kernel
theorem dX5_lift_20 : decode cX5_lift 20 = .ok (.invokevirtual 52, 3) := by decide +kernel
theorem dX5_lift_23 : decode cX5_lift 23 = .ok (.ireturn, 1) := by decide +kernel
theorem dX5_again_0 : decode cX5_again 0 = .ok (.aload_n 0, 1) := by decide +kernel
theorem dX5_again_1 : decode cX5_again 1 = .ok (.getfield 38, 3) := by decide +kernel
theorem dX5_again_4 : decode cX5_again 4 = .ok (.aload_n 0, 1) := by decide +kernel
theorem dX5_again_5 : decode cX5_again 5 = .ok (.getfield 10, 3) := by decide +kernel
theorem dX5_again_8 : decode cX5_again 8 = .ok (.invokevirtual 44, 3) := by decide +kernel
theorem dX5_again_11 : decode cX5_again 11 = .ok (.aload_n 0, 1) := by decide +kernel
theorem dX5_again_12 : decode cX5_again 12 = .ok (.aload_n 0, 1) := by decide +kernel
theorem dX5_again_13 : decode cX5_again 13 = .ok (.getfield 10, 3) := by decide +kernel
theorem dX5_again_16 : decode cX5_again 16 = .ok (.iload_n 1, 1) := by decide +kernel
theorem dX5_again_17 : decode cX5_again 17 = .ok (.invokevirtual 63, 3) := by decide +kernel
theorem dX5_again_20 : decode cX5_again 20 = .ok (.invokevirtual 52, 3) := by decide +kernel
theorem dX5_again_23 : decode cX5_again 23 = .ok (.ireturn, 1) := by decide +kernel
theorem dX5_gauge_0 : decode cX5_gauge 0 = .ok (.aload_n 0, 1) := by decide +kernel
theorem dX5_gauge_1 : decode cX5_gauge 1 = .ok (.getfield 38, 3) := by decide +kernel
theorem dX5_gauge_4 : decode cX5_gauge 4 = .ok (.aload_n 0, 1) := by decide +kernel
theorem dX5_gauge_5 : decode cX5_gauge 5 = .ok (.getfield 10, 3) := by decide +kernel
theorem dX5_gauge_8 : decode cX5_gauge 8 = .ok (.invokevirtual 44, 3) := by decide +kernel
theorem dX5_gauge_11 : decode cX5_gauge 11 = .ok (.aload_n 0, 1) := by decide +kernel
theorem dX5_gauge_12 : decode cX5_gauge 12 = .ok (.aload_n 0, 1) := by decide +kernel
theorem dX5_gauge_13 : decode cX5_gauge 13 = .ok (.getfield 10, 3) := by decide +kernel
theorem dX5_gauge_16 : decode cX5_gauge 16 = .ok (.iload_n 1, 1) := by decide +kernel
theorem dX5_gauge_17 : decode cX5_gauge 17 = .ok (.invokevirtual 66, 3) := by decide +kernel
theorem dX5_gauge_20 : decode cX5_gauge 20 = .ok (.invokevirtual 52, 3) := by decide +kernel
theorem dX5_gauge_23 : decode cX5_gauge 23 = .ok (.ireturn, 1) := by decide +kernel
theorem dX5_level_0 : decode cX5_level 0 = .ok (.aload_n 0, 1) := by decide +kernel
theorem dX5_level_1 : decode cX5_level 1 = .ok (.getfield 38, 3) := by decide +kernel
theorem dX5_level_4 : decode cX5_level 4 = .ok (.aload_n 0, 1) := by decide +kernel
theorem dX5_level_5 : decode cX5_level 5 = .ok (.getfield 10, 3) := by decide +kernel
theorem dX5_level_8 : decode cX5_level 8 = .ok (.invokevirtual 44, 3) := by decide +kernel
theorem dX5_level_11 : decode cX5_level 11 = .ok (.aload_n 0, 1) := by decide +kernel
theorem dX5_level_12 : decode cX5_level 12 = .ok (.aload_n 0, 1) := by decide +kernel
theorem dX5_level_13 : decode cX5_level 13 = .ok (.getfield 10, 3) := by decide +kernel
theorem dX5_level_16 : decode cX5_level 16 = .ok (.iload_n 1, 1) := by decide +kernel
theorem dX5_level_17 : decode cX5_level 17 = .ok (.iload_n 2, 1) := by decide +kernel
theorem dX5_level_18 : decode cX5_level 18 = .ok (.invokevirtual 69, 3) := by decide +kernel
theorem dX5_level_21 : decode cX5_level 21 = .ok (.invokevirtual 52, 3) := by decide +kernel
theorem dX5_level_24 : decode cX5_level 24 = .ok (.ireturn, 1) := by decide +kernel
theorem dX5_pass_0 : decode cX5_pass 0 = .ok (.aload_n 0, 1) := by decide +kernel
theorem dX5_pass_1 : decode cX5_pass 1 = .ok (.getfield 38, 3) := by decide +kernel
theorem dX5_pass_4 : decode cX5_pass 4 = .ok (.aload_n 0, 1) := by decide +kernel
theorem dX5_pass_5 : decode cX5_pass 5 = .ok (.getfield 10, 3) := by decide +kernel
theorem dX5_pass_8 : decode cX5_pass 8 = .ok (.invokevirtual 44, 3) := by decide +kernel
theorem dX5_pass_11 : decode cX5_pass 11 = .ok (.aload_n 0, 1) := by decide +kernel
theorem dX5_pass_12 : decode cX5_pass 12 = .ok (.aload_n 0, 1) := by decide +kernel
theorem dX5_pass_13 : decode cX5_pass 13 = .ok (.getfield 10, 3) := by decide +kernel
theorem dX5_pass_16 : decode cX5_pass 16 = .ok (.iload_n 1, 1) := by decide +kernel
theorem dX5_pass_17 : decode cX5_pass 17 = .ok (.invokevirtual 72, 3) := by decide +kernel
theorem dX5_pass_20 : decode cX5_pass 20 = .ok (.invokevirtual 52, 3) := by decide +kernel
theorem dX5_pass_23 : decode cX5_pass 23 = .ok (.ireturn, 1) := by decide +kernel
theorem dX5_recorded_0 : decode cX5_recorded 0 = .ok (.iload_n 1, 1) := by decide +kernel
theorem dX5_recorded_1 : decode cX5_recorded 1 = .ok (.ifCond .lt 14, 3) := by decide +kernel
theorem dX5_recorded_4 : decode cX5_recorded 4 = .ok (.aload_n 0, 1) := by decide +kernel
theorem dX5_recorded_5 : decode cX5_recorded 5 = .ok (.getfield 26, 3) := by decide +kernel
theorem dX5_recorded_8 : decode cX5_recorded 8 = .ok (.aload_n 0, 1) := by decide +kernel
theorem dX5_recorded_9 : decode cX5_recorded 9 = .ok (.getfield 38, 3) := by decide +kernel
theorem dX5_recorded_12 : decode cX5_recorded 12 = .ok (.invokevirtual 75, 3) := by decide +kernel
theorem dX5_recorded_15 : decode cX5_recorded 15 = .ok (.iload_n 1, 1) := by decide +kernel
theorem dX5_recorded_16 : decode cX5_recorded 16 = .ok (.ireturn, 1) := by decide +kernel
theorem dX5_cell_0 : decode cX5_cell 0 = .ok (.iload_n 1, 1) := by decide +kernel
theorem dX5_cell_1 : decode cX5_cell 1 = .ok (.bipush 40, 2) := by decide +kernel
theorem dX5_cell_3 : decode cX5_cell 3 = .ok (.invokestatic 78, 3) := by decide +kernel
theorem dX5_cell_6 : decode cX5_cell 6 = .ok (.ifCond .eq 5, 3) := by decide +kernel
theorem dX5_cell_9 : decode cX5_cell 9 = .ok (.iconst (-1), 1) := by decide +kernel
theorem dX5_cell_10 : decode cX5_cell 10 = .ok (.ireturn, 1) := by decide +kernel
theorem dX5_cell_11 : decode cX5_cell 11 = .ok (.iload_n 2, 1) := by decide +kernel
theorem dX5_cell_12 : decode cX5_cell 12 = .ok (.tableswitch 84 0 3 #[32, 46, 60, 72], 32) := by decide +kernel
theorem dX5_cell_44 : decode cX5_cell 44 = .ok (.aload_n 0, 1) := by decide +kernel
theorem dX5_cell_45 : decode cX5_cell 45 = .ok (.getfield 10, 3) := by decide +kernel
theorem dX5_cell_48 : decode cX5_cell 48 = .ok (.getfield 82, 3) := by decide +kernel
theorem dX5_cell_51 : decode cX5_cell 51 = .ok (.iload_n 1, 1) := by decide +kernel
theorem dX5_cell_52 : decode cX5_cell 52 = .ok (.iaload, 1) := by decide +kernel
theorem dX5_cell_53 : decode cX5_cell 53 = .ok (.sipush 10000, 3) := by decide +kernel
theorem dX5_cell_56 : decode cX5_cell 56 = .ok (.iadd, 1) := by decide +kernel
theorem dX5_cell_57 : decode cX5_cell 57 = .ok (.ireturn, 1) := by decide +kernel
theorem dX5_cell_58 : decode cX5_cell 58 = .ok (.aload_n 0, 1) := by decide +kernel
theorem dX5_cell_59 : decode cX5_cell 59 = .ok (.getfield 10, 3) := by decide +kernel
theorem dX5_cell_62 : decode cX5_cell 62 = .ok (.getfield 86, 3) := by decide +kernel
theorem dX5_cell_65 : decode cX5_cell 65 = .ok (.iload_n 1, 1) := by decide +kernel
theorem dX5_cell_66 : decode cX5_cell 66 = .ok (.iaload, 1) := by decide +kernel
theorem dX5_cell_67 : decode cX5_cell 67 = .ok (.sipush 10000, 3) := by decide +kernel
theorem dX5_cell_70 : decode cX5_cell 70 = .ok (.iadd, 1) := by decide +kernel
theorem dX5_cell_71 : decode cX5_cell 71 = .ok (.ireturn, 1) := by decide +kernel
theorem dX5_cell_72 : decode cX5_cell 72 = .ok (.aload_n 0, 1) := by decide +kernel
theorem dX5_cell_73 : decode cX5_cell 73 = .ok (.getfield 10, 3) := by decide +kernel
theorem dX5_cell_76 : decode cX5_cell 76 = .ok (.iload_n 1, 1) := by decide +kernel
theorem dX5_cell_77 : decode cX5_cell 77 = .ok (.invokevirtual 89, 3) := by decide +kernel
theorem dX5_cell_80 : decode cX5_cell 80 = .ok (.invokestatic 93, 3) := by decide +kernel
theorem dX5_cell_83 : decode cX5_cell 83 = .ok (.ireturn, 1) := by decide +kernel
theorem dX5_cell_84 : decode cX5_cell 84 = .ok (.aload_n 0, 1) := by decide +kernel
theorem dX5_cell_85 : decode cX5_cell 85 = .ok (.getfield 10, 3) := by decide +kernel
theorem dX5_cell_88 : decode cX5_cell 88 = .ok (.iload_n 1, 1) := by decide +kernel
theorem dX5_cell_89 : decode cX5_cell 89 = .ok (.invokevirtual 97, 3) := by decide +kernel
theorem dX5_cell_92 : decode cX5_cell 92 = .ok (.invokestatic 93, 3) := by decide +kernel
theorem dX5_cell_95 : decode cX5_cell 95 = .ok (.ireturn, 1) := by decide +kernel
theorem dX5_cell_96 : decode cX5_cell 96 = .ok (.bipush (-2), 2) := by decide +kernel
theorem dX5_cell_98 : decode cX5_cell 98 = .ok (.ireturn, 1) := by decide +kernel
theorem dX5_ofPaddle_0 : decode cX5_ofPaddle 0 = .ok (.iload_n 1, 1) := by decide +kernel
theorem dX5_ofPaddle_1 : decode cX5_ofPaddle 1 = .ok (.aload_n 0, 1) := by decide +kernel
theorem dX5_ofPaddle_2 : decode cX5_ofPaddle 2 = .ok (.getfield 10, 3) := by decide +kernel
theorem dX5_ofPaddle_5 : decode cX5_ofPaddle 5 = .ok (.getfield 100, 3) := by decide +kernel
theorem dX5_ofPaddle_8 : decode cX5_ofPaddle 8 = .ok (.invokestatic 78, 3) := by decide +kernel
theorem dX5_ofPaddle_11 : decode cX5_ofPaddle 11 = .ok (.ifCond .eq 5, 3) := by decide +kernel
theorem dX5_ofPaddle_14 : decode cX5_ofPaddle 14 = .ok (.iconst (-1), 1) := by decide +kernel
theorem dX5_ofPaddle_15 : decode cX5_ofPaddle 15 = .ok (.ireturn, 1) := by decide +kernel
theorem dX5_ofPaddle_16 : decode cX5_ofPaddle 16 = .ok (.aload_n 0, 1) := by decide +kernel
theorem dX5_ofPaddle_17 : decode cX5_ofPaddle 17 = .ok (.getfield 10, 3) := by decide +kernel
theorem dX5_ofPaddle_20 : decode cX5_ofPaddle 20 = .ok (.getfield 104, 3) := by decide +kernel
theorem dX5_ofPaddle_23 : decode cX5_ofPaddle 23 = .ok (.iload_n 1, 1) := by decide +kernel
theorem dX5_ofPaddle_24 : decode cX5_ofPaddle 24 = .ok (.aaload, 1) := by decide +kernel
theorem dX5_ofPaddle_25 : decode cX5_ofPaddle 25 = .ok (.astore_n 3, 1) := by decide +kernel
theorem dX5_ofPaddle_26 : decode cX5_ofPaddle 26 = .ok (.iload_n 2, 1) := by decide +kernel
theorem dX5_ofPaddle_27 : decode cX5_ofPaddle 27 = .ok (.tableswitch 94 0 6 #[41, 46, 51, 60, 65, 70, 78], 41) := by decide +kernel
theorem dX5_ofPaddle_68 : decode cX5_ofPaddle 68 = .ok (.aload_n 3, 1) := by decide +kernel
theorem dX5_ofPaddle_69 : decode cX5_ofPaddle 69 = .ok (.getfield 108, 3) := by decide +kernel
theorem dX5_ofPaddle_72 : decode cX5_ofPaddle 72 = .ok (.ireturn, 1) := by decide +kernel
theorem dX5_ofPaddle_73 : decode cX5_ofPaddle 73 = .ok (.aload_n 3, 1) := by decide +kernel
theorem dX5_ofPaddle_74 : decode cX5_ofPaddle 74 = .ok (.getfield 113, 3) := by decide +kernel
theorem dX5_ofPaddle_77 : decode cX5_ofPaddle 77 = .ok (.ireturn, 1) := by decide +kernel
theorem dX5_ofPaddle_78 : decode cX5_ofPaddle 78 = .ok (.aload_n 3, 1) := by decide +kernel
theorem dX5_ofPaddle_79 : decode cX5_ofPaddle 79 = .ok (.getfield 116, 3) := by decide +kernel
theorem dX5_ofPaddle_82 : decode cX5_ofPaddle 82 = .ok (.sipush 1000, 3) := by decide +kernel
theorem dX5_ofPaddle_85 : decode cX5_ofPaddle 85 = .ok (.iadd, 1) := by decide +kernel
theorem dX5_ofPaddle_86 : decode cX5_ofPaddle 86 = .ok (.ireturn, 1) := by decide +kernel
theorem dX5_ofPaddle_87 : decode cX5_ofPaddle 87 = .ok (.aload_n 3, 1) := by decide +kernel
theorem dX5_ofPaddle_88 : decode cX5_ofPaddle 88 = .ok (.getfield 119, 3) := by decide +kernel
theorem dX5_ofPaddle_91 : decode cX5_ofPaddle 91 = .ok (.ireturn, 1) := by decide +kernel
theorem dX5_ofPaddle_92 : decode cX5_ofPaddle 92 = .ok (.aload_n 3, 1) := by decide +kernel
theorem dX5_ofPaddle_93 : decode cX5_ofPaddle 93 = .ok (.getfield 122, 3) := by decide +kernel
theorem dX5_ofPaddle_96 : decode cX5_ofPaddle 96 = .ok (.ireturn, 1) := by decide +kernel
theorem dX5_ofPaddle_97 : decode cX5_ofPaddle 97 = .ok (.aload_n 3, 1) := by decide +kernel
theorem dX5_ofPaddle_98 : decode cX5_ofPaddle 98 = .ok (.getfield 125, 3) := by decide +kernel
theorem dX5_ofPaddle_101 : decode cX5_ofPaddle 101 = .ok (.invokestatic 93, 3) := by decide +kernel
theorem dX5_ofPaddle_104 : decode cX5_ofPaddle 104 = .ok (.ireturn, 1) := by decide +kernel
theorem dX5_ofPaddle_105 : decode cX5_ofPaddle 105 = .ok (.aload_n 3, 1) := by decide +kernel
theorem dX5_ofPaddle_106 : decode cX5_ofPaddle 106 = .ok (.aload_n 0, 1) := by decide +kernel
theorem dX5_ofPaddle_107 : decode cX5_ofPaddle 107 = .ok (.getfield 10, 3) := by decide +kernel
theorem dX5_ofPaddle_110 : decode cX5_ofPaddle 110 = .ok (.getfield 129, 3) := by decide +kernel
theorem dX5_ofPaddle_113 : decode cX5_ofPaddle 113 = .ok (.invokevirtual 132, 3) := by decide +kernel
theorem dX5_ofPaddle_116 : decode cX5_ofPaddle 116 = .ok (.sipush 1000, 3) := by decide +kernel
theorem dX5_ofPaddle_119 : decode cX5_ofPaddle 119 = .ok (.iadd, 1) := by decide +kernel
theorem dX5_ofPaddle_120 : decode cX5_ofPaddle 120 = .ok (.ireturn, 1) := by decide +kernel
theorem dX5_ofPaddle_121 : decode cX5_ofPaddle 121 = .ok (.bipush (-2), 2) := by decide +kernel
theorem dX5_ofPaddle_123 : decode cX5_ofPaddle 123 = .ok (.ireturn, 1) := by decide +kernel
theorem dX5_ofGauge_0 : decode cX5_ofGauge 0 = .ok (.iload_n 1, 1) := by decide +kernel
theorem dX5_ofGauge_1 : decode cX5_ofGauge 1 = .ok (.aload_n 0, 1) := by decide +kernel
theorem dX5_ofGauge_2 : decode cX5_ofGauge 2 = .ok (.getfield 10, 3) := by decide +kernel
theorem dX5_ofGauge_5 : decode cX5_ofGauge 5 = .ok (.getfield 135, 3) := by decide +kernel
theorem dX5_ofGauge_8 : decode cX5_ofGauge 8 = .ok (.invokestatic 78, 3) := by decide +kernel
theorem dX5_ofGauge_11 : decode cX5_ofGauge 11 = .ok (.ifCond .eq 5, 3) := by decide +kernel
theorem dX5_ofGauge_14 : decode cX5_ofGauge 14 = .ok (.iconst (-1), 1) := by decide +kernel
theorem dX5_ofGauge_15 : decode cX5_ofGauge 15 = .ok (.ireturn, 1) := by decide +kernel
theorem dX5_ofGauge_16 : decode cX5_ofGauge 16 = .ok (.aload_n 0, 1) := by decide +kernel
theorem dX5_ofGauge_17 : decode cX5_ofGauge 17 = .ok (.getfield 10, 3) := by decide +kernel
theorem dX5_ofGauge_20 : decode cX5_ofGauge 20 = .ok (.getfield 138, 3) := by decide +kernel
theorem dX5_ofGauge_23 : decode cX5_ofGauge 23 = .ok (.iload_n 1, 1) := by decide +kernel
theorem dX5_ofGauge_24 : decode cX5_ofGauge 24 = .ok (.aaload, 1) := by decide +kernel
theorem dX5_ofGauge_25 : decode cX5_ofGauge 25 = .ok (.astore_n 3, 1) := by decide +kernel
theorem dX5_ofGauge_26 : decode cX5_ofGauge 26 = .ok (.iload_n 2, 1) := by decide +kernel
theorem dX5_ofGauge_27 : decode cX5_ofGauge 27 = .ok (.tableswitch 90 0 4 #[33, 38, 43, 64, 85], 33) := by decide +kernel
theorem dX5_ofGauge_60 : decode cX5_ofGauge 60 = .ok (.aload_n 3, 1) := by decide +kernel
theorem dX5_ofGauge_61 : decode cX5_ofGauge 61 = .ok (.getfield 142, 3) := by decide +kernel
theorem dX5_ofGauge_64 : decode cX5_ofGauge 64 = .ok (.ireturn, 1) := by decide +kernel
theorem dX5_ofGauge_65 : decode cX5_ofGauge 65 = .ok (.aload_n 3, 1) := by decide +kernel
theorem dX5_ofGauge_66 : decode cX5_ofGauge 66 = .ok (.getfield 145, 3) := by decide +kernel
theorem dX5_ofGauge_69 : decode cX5_ofGauge 69 = .ok (.ireturn, 1) := by decide +kernel
theorem dX5_ofGauge_70 : decode cX5_ofGauge 70 = .ok (.aload_n 3, 1) := by decide +kernel
theorem dX5_ofGauge_71 : decode cX5_ofGauge 71 = .ok (.getfield 145, 3) := by decide +kernel
theorem dX5_ofGauge_74 : decode cX5_ofGauge 74 = .ok (.ifCond .ne 8, 3) := by decide +kernel
theorem dX5_ofGauge_77 : decode cX5_ofGauge 77 = .ok (.bipush (-6), 2) := by decide +kernel
theorem dX5_ofGauge_79 : decode cX5_ofGauge 79 = .ok (.goto 11, 3) := by decide +kernel
theorem dX5_ofGauge_82 : decode cX5_ofGauge 82 = .ok (.aload_n 3, 1) := by decide +kernel
theorem dX5_ofGauge_83 : decode cX5_ofGauge 83 = .ok (.invokevirtual 148, 3) := by decide +kernel
theorem dX5_ofGauge_86 : decode cX5_ofGauge 86 = .ok (.sipush 10000, 3) := by decide +kernel
theorem dX5_ofGauge_89 : decode cX5_ofGauge 89 = .ok (.iadd, 1) := by decide +kernel
theorem dX5_ofGauge_90 : decode cX5_ofGauge 90 = .ok (.ireturn, 1) := by decide +kernel
theorem dX5_ofGauge_91 : decode cX5_ofGauge 91 = .ok (.aload_n 3, 1) := by decide +kernel
theorem dX5_ofGauge_92 : decode cX5_ofGauge 92 = .ok (.getfield 145, 3) := by decide +kernel
theorem dX5_ofGauge_95 : decode cX5_ofGauge 95 = .ok (.ifCond .ne 8, 3) := by decide +kernel
theorem dX5_ofGauge_98 : decode cX5_ofGauge 98 = .ok (.bipush (-6), 2) := by decide +kernel
theorem dX5_ofGauge_100 : decode cX5_ofGauge 100 = .ok (.goto 11, 3) := by decide +kernel
theorem dX5_ofGauge_103 : decode cX5_ofGauge 103 = .ok (.aload_n 3, 1) := by decide +kernel
theorem dX5_ofGauge_104 : decode cX5_ofGauge 104 = .ok (.invokevirtual 152, 3) := by decide +kernel
theorem dX5_ofGauge_107 : decode cX5_ofGauge 107 = .ok (.sipush 10000, 3) := by decide +kernel
theorem dX5_ofGauge_110 : decode cX5_ofGauge 110 = .ok (.iadd, 1) := by decide +kernel
theorem dX5_ofGauge_111 : decode cX5_ofGauge 111 = .ok (.ireturn, 1) := by decide +kernel
theorem dX5_ofGauge_112 : decode cX5_ofGauge 112 = .ok (.aload_n 3, 1) := by decide +kernel
theorem dX5_ofGauge_113 : decode cX5_ofGauge 113 = .ok (.invokevirtual 155, 3) := by decide +kernel
theorem dX5_ofGauge_116 : decode cX5_ofGauge 116 = .ok (.ireturn, 1) := by decide +kernel
theorem dX5_ofGauge_117 : decode cX5_ofGauge 117 = .ok (.bipush (-2), 2) := by decide +kernel
theorem dX5_ofGauge_119 : decode cX5_ofGauge 119 = .ok (.ireturn, 1) := by decide +kernel
theorem dX5_noted_0 : decode cX5_noted 0 = .ok (.iload_n 1, 1) := by decide +kernel
theorem dX5_noted_1 : decode cX5_noted 1 = .ok (.aload_n 0, 1) := by decide +kernel
theorem dX5_noted_2 : decode cX5_noted 2 = .ok (.getfield 10, 3) := by decide +kernel
theorem dX5_noted_5 : decode cX5_noted 5 = .ok (.getfield 135, 3) := by decide +kernel
theorem dX5_noted_8 : decode cX5_noted 8 = .ok (.invokestatic 78, 3) := by decide +kernel
theorem dX5_noted_11 : decode cX5_noted 11 = .ok (.ifCond .eq 5, 3) := by decide +kernel
theorem dX5_noted_14 : decode cX5_noted 14 = .ok (.iconst (-1), 1) := by decide +kernel
theorem dX5_noted_15 : decode cX5_noted 15 = .ok (.ireturn, 1) := by decide +kernel
theorem dX5_noted_16 : decode cX5_noted 16 = .ok (.aload_n 0, 1) := by decide +kernel
theorem dX5_noted_17 : decode cX5_noted 17 = .ok (.getfield 10, 3) := by decide +kernel
theorem dX5_noted_20 : decode cX5_noted 20 = .ok (.getfield 138, 3) := by decide +kernel
theorem dX5_noted_23 : decode cX5_noted 23 = .ok (.iload_n 1, 1) := by decide +kernel
theorem dX5_noted_24 : decode cX5_noted 24 = .ok (.aaload, 1) := by decide +kernel
theorem dX5_noted_25 : decode cX5_noted 25 = .ok (.astore_n 3, 1) := by decide +kernel
theorem dX5_noted_26 : decode cX5_noted 26 = .ok (.iload_n 2, 1) := by decide +kernel
theorem dX5_noted_27 : decode cX5_noted 27 = .ok (.aload_n 3, 1) := by decide +kernel
theorem dX5_noted_28 : decode cX5_noted 28 = .ok (.getfield 145, 3) := by decide +kernel
theorem dX5_noted_31 : decode cX5_noted 31 = .ok (.invokestatic 78, 3) := by decide +kernel
theorem dX5_noted_34 : decode cX5_noted 34 = .ok (.ifCond .eq 5, 3) := by decide +kernel
theorem dX5_noted_37 : decode cX5_noted 37 = .ok (.iconst (-1), 1) := by decide +kernel
theorem dX5_noted_38 : decode cX5_noted 38 = .ok (.ireturn, 1) := by decide +kernel
theorem dX5_noted_39 : decode cX5_noted 39 = .ok (.aload_n 3, 1) := by decide +kernel
theorem dX5_noted_40 : decode cX5_noted 40 = .ok (.iload_n 2, 1) := by decide +kernel
theorem dX5_noted_41 : decode cX5_noted 41 = .ok (.invokevirtual 158, 3) := by decide +kernel
theorem dX5_noted_44 : decode cX5_noted 44 = .ok (.sipush 10000, 3) := by decide +kernel
theorem dX5_noted_47 : decode cX5_noted 47 = .ok (.iadd, 1) := by decide +kernel
theorem dX5_noted_48 : decode cX5_noted 48 = .ok (.ireturn, 1) := by decide +kernel
theorem dX5_places_0 : decode cX5_places 0 = .ok (.iload_n 1, 1) := by decide +kernel
theorem dX5_places_1 : decode cX5_places 1 = .ok (.iconst 5, 1) := by decide +kernel
theorem dX5_places_2 : decode cX5_places 2 = .ok (.invokestatic 78, 3) := by decide +kernel
theorem dX5_places_5 : decode cX5_places 5 = .ok (.ifCond .eq 9, 3) := by decide +kernel
theorem dX5_places_8 : decode cX5_places 8 = .ok (.ldc2_w 161, 3) := by decide +kernel
theorem dX5_places_11 : decode cX5_places 11 = .ok (.goto 11, 3) := by decide +kernel
theorem dX5_places_14 : decode cX5_places 14 = .ok (.aload_n 0, 1) := by decide +kernel
theorem dX5_places_15 : decode cX5_places 15 = .ok (.getfield 10, 3) := by decide +kernel
theorem dX5_places_18 : decode cX5_places 18 = .ok (.iload_n 1, 1) := by decide +kernel
theorem dX5_places_19 : decode cX5_places 19 = .ok (.invokevirtual 163, 3) := by decide +kernel
theorem dX5_places_22 : decode cX5_places 22 = .ok (.lreturn, 1) := by decide +kernel
theorem dX5_count_0 : decode cX5_count 0 = .ok (.iload_n 1, 1) := by decide +kernel
theorem dX5_count_1 : decode cX5_count 1 = .ok (.tableswitch 167 0 12 #[67, 75, 83, 95, 103, 114, 122, 130, 138, 138, 138, 151, 159], 67) := by decide +kernel
theorem dX5_count_68 : decode cX5_count 68 = .ok (.aload_n 0, 1) := by decide +kernel
theorem dX5_count_69 : decode cX5_count 69 = .ok (.getfield 10, 3) := by decide +kernel
theorem dX5_count_72 : decode cX5_count 72 = .ok (.getfield 129, 3) := by decide +kernel
theorem dX5_count_75 : decode cX5_count 75 = .ok (.ireturn, 1) := by decide +kernel
theorem dX5_count_76 : decode cX5_count 76 = .ok (.aload_n 0, 1) := by decide +kernel
theorem dX5_count_77 : decode cX5_count 77 = .ok (.getfield 10, 3) := by decide +kernel
theorem dX5_count_80 : decode cX5_count 80 = .ok (.getfield 100, 3) := by decide +kernel
theorem dX5_count_83 : decode cX5_count 83 = .ok (.ireturn, 1) := by decide +kernel
theorem dX5_count_84 : decode cX5_count 84 = .ok (.aload_n 0, 1) := by decide +kernel
theorem dX5_count_85 : decode cX5_count 85 = .ok (.getfield 10, 3) := by decide +kernel
theorem dX5_count_88 : decode cX5_count 88 = .ok (.iconst 4, 1) := by decide +kernel
theorem dX5_count_89 : decode cX5_count 89 = .ok (.invokevirtual 163, 3) := by decide +kernel
theorem dX5_count_92 : decode cX5_count 92 = .ok (.invokestatic 167, 3) := by decide +kernel
theorem dX5_count_95 : decode cX5_count 95 = .ok (.ireturn, 1) := by decide +kernel
theorem dX5_count_96 : decode cX5_count 96 = .ok (.aload_n 0, 1) := by decide +kernel
theorem dX5_count_97 : decode cX5_count 97 = .ok (.getfield 10, 3) := by decide +kernel
theorem dX5_count_100 : decode cX5_count 100 = .ok (.getfield 135, 3) := by decide +kernel
theorem dX5_count_103 : decode cX5_count 103 = .ok (.ireturn, 1) := by decide +kernel
theorem dX5_count_104 : decode cX5_count 104 = .ok (.aload_n 0, 1) := by decide +kernel
theorem dX5_count_105 : decode cX5_count 105 = .ok (.getfield 10, 3) := by decide +kernel
theorem dX5_count_108 : decode cX5_count 108 = .ok (.invokevirtual 173, 3) := by decide +kernel
theorem dX5_count_111 : decode cX5_count 111 = .ok (.ldc 176, 2) := by decide +kernel
theorem dX5_count_113 : decode cX5_count 113 = .ok (.iadd, 1) := by decide +kernel
theorem dX5_count_114 : decode cX5_count 114 = .ok (.ireturn, 1) := by decide +kernel
theorem dX5_count_115 : decode cX5_count 115 = .ok (.aload_n 0, 1) := by decide +kernel
theorem dX5_count_116 : decode cX5_count 116 = .ok (.getfield 10, 3) := by decide +kernel
theorem dX5_count_119 : decode cX5_count 119 = .ok (.invokevirtual 177, 3) := by decide +kernel
theorem dX5_count_122 : decode cX5_count 122 = .ok (.ireturn, 1) := by decide +kernel
theorem dX5_count_123 : decode cX5_count 123 = .ok (.aload_n 0, 1) := by decide +kernel
theorem dX5_count_124 : decode cX5_count 124 = .ok (.getfield 10, 3) := by decide +kernel
theorem dX5_count_127 : decode cX5_count 127 = .ok (.invokevirtual 180, 3) := by decide +kernel
theorem dX5_count_130 : decode cX5_count 130 = .ok (.ireturn, 1) := by decide +kernel
theorem dX5_count_131 : decode cX5_count 131 = .ok (.aload_n 0, 1) := by decide +kernel
theorem dX5_count_132 : decode cX5_count 132 = .ok (.getfield 10, 3) := by decide +kernel
theorem dX5_count_135 : decode cX5_count 135 = .ok (.invokevirtual 183, 3) := by decide +kernel
theorem dX5_count_138 : decode cX5_count 138 = .ok (.ireturn, 1) := by decide +kernel
theorem dX5_count_139 : decode cX5_count 139 = .ok (.aload_n 0, 1) := by decide +kernel
theorem dX5_count_140 : decode cX5_count 140 = .ok (.getfield 10, 3) := by decide +kernel
theorem dX5_count_143 : decode cX5_count 143 = .ok (.getfield 186, 3) := by decide +kernel
theorem dX5_count_146 : decode cX5_count 146 = .ok (.iload_n 1, 1) := by decide +kernel
theorem dX5_count_147 : decode cX5_count 147 = .ok (.bipush 8, 2) := by decide +kernel
theorem dX5_count_149 : decode cX5_count 149 = .ok (.isub, 1) := by decide +kernel
theorem dX5_count_150 : decode cX5_count 150 = .ok (.iaload, 1) := by decide +kernel
theorem dX5_count_151 : decode cX5_count 151 = .ok (.ireturn, 1) := by decide +kernel
theorem dX5_count_152 : decode cX5_count 152 = .ok (.aload_n 0, 1) := by decide +kernel
theorem dX5_count_153 : decode cX5_count 153 = .ok (.getfield 19, 3) := by decide +kernel
theorem dX5_count_156 : decode cX5_count 156 = .ok (.getfield 189, 3) := by decide +kernel
theorem dX5_count_159 : decode cX5_count 159 = .ok (.ireturn, 1) := by decide +kernel
theorem dX5_count_160 : decode cX5_count 160 = .ok (.aload_n 0, 1) := by decide +kernel
theorem dX5_count_161 : decode cX5_count 161 = .ok (.getfield 26, 3) := by decide +kernel
theorem dX5_count_164 : decode cX5_count 164 = .ok (.getfield 192, 3) := by decide +kernel
theorem dX5_count_167 : decode cX5_count 167 = .ok (.ireturn, 1) := by decide +kernel
theorem dX5_count_168 : decode cX5_count 168 = .ok (.bipush (-2), 2) := by decide +kernel
theorem dX5_count_170 : decode cX5_count 170 = .ok (.ireturn, 1) := by decide +kernel
theorem dX5_reaches_0 : decode cX5_reaches 0 = .ok (.iload_n 1, 1) := by decide +kernel
theorem dX5_reaches_1 : decode cX5_reaches 1 = .ok (.bipush 40, 2) := by decide +kernel
theorem dX5_reaches_3 : decode cX5_reaches 3 = .ok (.invokestatic 78, 3) := by decide +kernel
theorem dX5_reaches_6 : decode cX5_reaches 6 = .ok (.ifCond .eq 5, 3) := by decide +kernel
theorem dX5_reaches_9 : decode cX5_reaches 9 = .ok (.iconst (-1), 1) := by decide +kernel
theorem dX5_reaches_10 : decode cX5_reaches 10 = .ok (.ireturn, 1) := by decide +kernel
theorem dX5_reaches_11 : decode cX5_reaches 11 = .ok (.iload_n 2, 1) := by decide +kernel
theorem dX5_reaches_12 : decode cX5_reaches 12 = .ok (.iconst 1, 1) := by decide +kernel
theorem dX5_reaches_13 : decode cX5_reaches 13 = .ok (.if_icmp .lt 10, 3) := by decide +kernel
theorem dX5_reaches_16 : decode cX5_reaches 16 = .ok (.iload_n 2, 1) := by decide +kernel
theorem dX5_reaches_17 : decode cX5_reaches 17 = .ok (.sipush 9999, 3) := by decide +kernel
theorem dX5_reaches_20 : decode cX5_reaches 20 = .ok (.if_icmp .le 6, 3) := by decide +kernel
theorem dX5_reaches_23 : decode cX5_reaches 23 = .ok (.bipush (-2), 2) := by decide +kernel
theorem dX5_reaches_25 : decode cX5_reaches 25 = .ok (.ireturn, 1) := by decide +kernel
theorem dX5_reaches_26 : decode cX5_reaches 26 = .ok (.aload_n 0, 1) := by decide +kernel
theorem dX5_reaches_27 : decode cX5_reaches 27 = .ok (.getfield 41, 3) := by decide +kernel
theorem dX5_reaches_30 : decode cX5_reaches 30 = .ok (.aload_n 0, 1) := by decide +kernel
theorem dX5_reaches_31 : decode cX5_reaches 31 = .ok (.getfield 10, 3) := by decide +kernel
theorem dX5_reaches_34 : decode cX5_reaches 34 = .ok (.invokevirtual 44, 3) := by decide +kernel
theorem dX5_reaches_37 : decode cX5_reaches 37 = .ok (.iconst 0, 1) := by decide +kernel
theorem dX5_reaches_38 : decode cX5_reaches 38 = .ok (.istore_n 3, 1) := by decide +kernel
theorem dX5_reaches_39 : decode cX5_reaches 39 = .ok (.iload_n 3, 1) := by decide +kernel
theorem dX5_reaches_40 : decode cX5_reaches 40 = .ok (.sipush 500, 3) := by decide +kernel
theorem dX5_reaches_43 : decode cX5_reaches 43 = .ok (.if_icmp .gt 35, 3) := by decide +kernel
theorem dX5_reaches_46 : decode cX5_reaches 46 = .ok (.aload_n 0, 1) := by decide +kernel
theorem dX5_reaches_47 : decode cX5_reaches 47 = .ok (.getfield 41, 3) := by decide +kernel
theorem dX5_reaches_50 : decode cX5_reaches 50 = .ok (.getfield 82, 3) := by decide +kernel
theorem dX5_reaches_53 : decode cX5_reaches 53 = .ok (.iload_n 1, 1) := by decide +kernel
theorem dX5_reaches_54 : decode cX5_reaches 54 = .ok (.iaload, 1) := by decide +kernel
theorem dX5_reaches_55 : decode cX5_reaches 55 = .ok (.invokestatic 195, 3) := by decide +kernel
theorem dX5_reaches_58 : decode cX5_reaches 58 = .ok (.iload_n 2, 1) := by decide +kernel
theorem dX5_reaches_59 : decode cX5_reaches 59 = .ok (.if_icmp .lt 5, 3) := by decide +kernel
theorem dX5_reaches_62 : decode cX5_reaches 62 = .ok (.iload_n 3, 1) := by decide +kernel
theorem dX5_reaches_63 : decode cX5_reaches 63 = .ok (.ireturn, 1) := by decide +kernel
theorem dX5_reaches_64 : decode cX5_reaches 64 = .ok (.aload_n 0, 1) := by decide +kernel
theorem dX5_reaches_65 : decode cX5_reaches 65 = .ok (.getfield 41, 3) := by decide +kernel
theorem dX5_reaches_68 : decode cX5_reaches 68 = .ok (.invokevirtual 200, 3) := by decide +kernel
theorem dX5_reaches_71 : decode cX5_reaches 71 = .ok (.pop, 1) := by decide +kernel
theorem dX5_reaches_72 : decode cX5_reaches 72 = .ok (.iinc 3 1, 3) := by decide +kernel
theorem dX5_reaches_75 : decode cX5_reaches 75 = .ok (.goto (-36), 3) := by decide +kernel
theorem dX5_reaches_78 : decode cX5_reaches 78 = .ok (.bipush (-6), 2) := by decide +kernel
theorem dX5_reaches_80 : decode cX5_reaches 80 = .ok (.ireturn, 1) := by decide +kernel
theorem dX5_bestPeriod_0 : decode cX5_bestPeriod 0 = .ok (.iload_n 1, 1) := by decide +kernel
theorem dX5_bestPeriod_1 : decode cX5_bestPeriod 1 = .ok (.aload_n 0, 1) := by decide +kernel
theorem dX5_bestPeriod_2 : decode cX5_bestPeriod 2 = .ok (.getfield 10, 3) := by decide +kernel
theorem dX5_bestPeriod_5 : decode cX5_bestPeriod 5 = .ok (.getfield 100, 3) := by decide +kernel
theorem dX5_bestPeriod_8 : decode cX5_bestPeriod 8 = .ok (.invokestatic 78, 3) := by decide +kernel
theorem dX5_bestPeriod_11 : decode cX5_bestPeriod 11 = .ok (.ifCond .ne 12, 3) := by decide +kernel
theorem dX5_bestPeriod_14 : decode cX5_bestPeriod 14 = .ok (.iload_n 2, 1) := by decide +kernel
theorem dX5_bestPeriod_15 : decode cX5_bestPeriod 15 = .ok (.bipush 40, 2) := by decide +kernel
theorem dX5_bestPeriod_17 : decode cX5_bestPeriod 17 = .ok (.invokestatic 78, 3) := by decide +kernel
theorem dX5_bestPeriod_20 : decode cX5_bestPeriod 20 = .ok (.ifCond .eq 5, 3) := by decide +kernel
theorem dX5_bestPeriod_23 : decode cX5_bestPeriod 23 = .ok (.iconst (-1), 1) := by decide +kernel
theorem dX5_bestPeriod_24 : decode cX5_bestPeriod 24 = .ok (.ireturn, 1) := by decide +kernel
theorem dX5_bestPeriod_25 : decode cX5_bestPeriod 25 = .ok (.iload_n 3, 1) := by decide +kernel
theorem dX5_bestPeriod_26 : decode cX5_bestPeriod 26 = .ok (.iconst 1, 1) := by decide +kernel
theorem dX5_bestPeriod_27 : decode cX5_bestPeriod 27 = .ok (.if_icmp .lt 18, 3) := by decide +kernel
theorem dX5_bestPeriod_30 : decode cX5_bestPeriod 30 = .ok (.iload_n 3, 1) := by decide +kernel
theorem dX5_bestPeriod_31 : decode cX5_bestPeriod 31 = .ok (.bipush 99, 2) := by decide +kernel
theorem dX5_bestPeriod_33 : decode cX5_bestPeriod 33 = .ok (.if_icmp .gt 12, 3) := by decide +kernel
theorem dX5_bestPeriod_36 : decode cX5_bestPeriod 36 = .ok (.iload 4, 2) := by decide +kernel
theorem dX5_bestPeriod_38 : decode cX5_bestPeriod 38 = .ok (.iconst 2, 1) := by decide +kernel
theorem dX5_bestPeriod_39 : decode cX5_bestPeriod 39 = .ok (.invokestatic 78, 3) := by decide +kernel
theorem dX5_bestPeriod_42 : decode cX5_bestPeriod 42 = .ok (.ifCond .eq 6, 3) := by decide +kernel
theorem dX5_bestPeriod_45 : decode cX5_bestPeriod 45 = .ok (.bipush (-2), 2) := by decide +kernel
theorem dX5_bestPeriod_47 : decode cX5_bestPeriod 47 = .ok (.ireturn, 1) := by decide +kernel
theorem dX5_bestPeriod_48 : decode cX5_bestPeriod 48 = .ok (.iconst 0, 1) := by decide +kernel
theorem dX5_bestPeriod_49 : decode cX5_bestPeriod 49 = .ok (.istore 5, 2) := by decide +kernel
theorem dX5_bestPeriod_51 : decode cX5_bestPeriod 51 = .ok (.iconst (-1), 1) := by decide +kernel
theorem dX5_bestPeriod_52 : decode cX5_bestPeriod 52 = .ok (.istore 6, 2) := by decide +kernel
theorem dX5_bestPeriod_54 : decode cX5_bestPeriod 54 = .ok (.iconst 1, 1) := by decide +kernel
theorem dX5_bestPeriod_55 : decode cX5_bestPeriod 55 = .ok (.istore 7, 2) := by decide +kernel
theorem dX5_bestPeriod_57 : decode cX5_bestPeriod 57 = .ok (.iload 7, 2) := by decide +kernel
theorem dX5_bestPeriod_59 : decode cX5_bestPeriod 59 = .ok (.bipush 60, 2) := by decide +kernel
theorem dX5_bestPeriod_61 : decode cX5_bestPeriod 61 = .ok (.if_icmp .gt 35, 3) := by decide +kernel
theorem dX5_bestPeriod_64 : decode cX5_bestPeriod 64 = .ok (.aload_n 0, 1) := by decide +kernel
theorem dX5_bestPeriod_65 : decode cX5_bestPeriod 65 = .ok (.iload_n 1, 1) := by decide +kernel
theorem dX5_bestPeriod_66 : decode cX5_bestPeriod 66 = .ok (.iload 7, 2) := by decide +kernel
theorem dX5_bestPeriod_68 : decode cX5_bestPeriod 68 = .ok (.iload_n 2, 1) := by decide +kernel
theorem dX5_bestPeriod_69 : decode cX5_bestPeriod 69 = .ok (.iload_n 3, 1) := by decide +kernel
theorem dX5_bestPeriod_70 : decode cX5_bestPeriod 70 = .ok (.invokevirtual 203, 3) := by decide +kernel
theorem dX5_bestPeriod_73 : decode cX5_bestPeriod 73 = .ok (.istore 8, 2) := by decide +kernel
theorem dX5_bestPeriod_75 : decode cX5_bestPeriod 75 = .ok (.iload 8, 2) := by decide +kernel
theorem dX5_bestPeriod_77 : decode cX5_bestPeriod 77 = .ok (.iload 6, 2) := by decide +kernel
theorem dX5_bestPeriod_79 : decode cX5_bestPeriod 79 = .ok (.if_icmp .le 11, 3) := by decide +kernel
theorem dX5_bestPeriod_82 : decode cX5_bestPeriod 82 = .ok (.iload 8, 2) := by decide +kernel
theorem dX5_bestPeriod_84 : decode cX5_bestPeriod 84 = .ok (.istore 6, 2) := by decide +kernel
theorem dX5_bestPeriod_86 : decode cX5_bestPeriod 86 = .ok (.iload 7, 2) := by decide +kernel
theorem dX5_bestPeriod_88 : decode cX5_bestPeriod 88 = .ok (.istore 5, 2) := by decide +kernel
theorem dX5_bestPeriod_90 : decode cX5_bestPeriod 90 = .ok (.iinc 7 1, 3) := by decide +kernel
theorem dX5_bestPeriod_93 : decode cX5_bestPeriod 93 = .ok (.goto (-36), 3) := by decide +kernel
theorem dX5_bestPeriod_96 : decode cX5_bestPeriod 96 = .ok (.iload 4, 2) := by decide +kernel
theorem dX5_bestPeriod_98 : decode cX5_bestPeriod 98 = .ok (.ifCond .ne 8, 3) := by decide +kernel
theorem dX5_bestPeriod_101 : decode cX5_bestPeriod 101 = .ok (.iload 5, 2) := by decide +kernel
theorem dX5_bestPeriod_103 : decode cX5_bestPeriod 103 = .ok (.goto 5, 3) := by decide +kernel
theorem dX5_bestPeriod_106 : decode cX5_bestPeriod 106 = .ok (.iload 6, 2) := by decide +kernel
theorem dX5_bestPeriod_108 : decode cX5_bestPeriod 108 = .ok (.ireturn, 1) := by decide +kernel
theorem dX5_peakWithPeriod_0 : decode cX5_peakWithPeriod 0 = .ok (.aload_n 0, 1) := by decide +kernel
theorem dX5_peakWithPeriod_1 : decode cX5_peakWithPeriod 1 = .ok (.getfield 41, 3) := by decide +kernel
theorem dX5_peakWithPeriod_4 : decode cX5_peakWithPeriod 4 = .ok (.aload_n 0, 1) := by decide +kernel
theorem dX5_peakWithPeriod_5 : decode cX5_peakWithPeriod 5 = .ok (.getfield 10, 3) := by decide +kernel
theorem dX5_peakWithPeriod_8 : decode cX5_peakWithPeriod 8 = .ok (.invokevirtual 44, 3) := by decide +kernel
theorem dX5_peakWithPeriod_11 : decode cX5_peakWithPeriod 11 = .ok (.aload_n 0, 1) := by decide +kernel
theorem dX5_peakWithPeriod_12 : decode cX5_peakWithPeriod 12 = .ok (.getfield 41, 3) := by decide +kernel
theorem dX5_peakWithPeriod_15 : decode cX5_peakWithPeriod 15 = .ok (.getfield 104, 3) := by decide +kernel
theorem dX5_peakWithPeriod_18 : decode cX5_peakWithPeriod 18 = .ok (.iload_n 1, 1) := by decide +kernel
theorem dX5_peakWithPeriod_19 : decode cX5_peakWithPeriod 19 = .ok (.aaload, 1) := by decide +kernel
theorem dX5_peakWithPeriod_20 : decode cX5_peakWithPeriod 20 = .ok (.iload_n 2, 1) := by decide +kernel
theorem dX5_peakWithPeriod_21 : decode cX5_peakWithPeriod 21 = .ok (.putfield 119, 3) := by decide +kernel
theorem dX5_peakWithPeriod_24 : decode cX5_peakWithPeriod 24 = .ok (.iconst 0, 1) := by decide +kernel
theorem dX5_peakWithPeriod_25 : decode cX5_peakWithPeriod 25 = .ok (.istore 5, 2) := by decide +kernel
theorem dX5_peakWithPeriod_27 : decode cX5_peakWithPeriod 27 = .ok (.iconst 0, 1) := by decide +kernel
theorem dX5_peakWithPeriod_28 : decode cX5_peakWithPeriod 28 = .ok (.istore 6, 2) := by decide +kernel
theorem dX5_peakWithPeriod_30 : decode cX5_peakWithPeriod 30 = .ok (.iload 6, 2) := by decide +kernel
theorem dX5_peakWithPeriod_32 : decode cX5_peakWithPeriod 32 = .ok (.iload 4, 2) := by decide +kernel
theorem dX5_peakWithPeriod_34 : decode cX5_peakWithPeriod 34 = .ok (.if_icmp .ge 36, 3) := by decide +kernel
theorem dX5_peakWithPeriod_37 : decode cX5_peakWithPeriod 37 = .ok (.aload_n 0, 1) := by decide +kernel
theorem dX5_peakWithPeriod_38 : decode cX5_peakWithPeriod 38 = .ok (.getfield 41, 3) := by decide +kernel
theorem dX5_peakWithPeriod_41 : decode cX5_peakWithPeriod 41 = .ok (.invokevirtual 200, 3) := by decide +kernel
theorem dX5_peakWithPeriod_44 : decode cX5_peakWithPeriod 44 = .ok (.pop, 1) := by decide +kernel
theorem dX5_peakWithPeriod_45 : decode cX5_peakWithPeriod 45 = .ok (.iload 5, 2) := by decide +kernel
theorem dX5_peakWithPeriod_47 : decode cX5_peakWithPeriod 47 = .ok (.aload_n 0, 1) := by decide +kernel
theorem dX5_peakWithPeriod_48 : decode cX5_peakWithPeriod 48 = .ok (.getfield 41, 3) := by decide +kernel
theorem dX5_peakWithPeriod_51 : decode cX5_peakWithPeriod 51 = .ok (.getfield 82, 3) := by decide +kernel
theorem dX5_peakWithPeriod_54 : decode cX5_peakWithPeriod 54 = .ok (.iload_n 3, 1) := by decide +kernel
theorem dX5_peakWithPeriod_55 : decode cX5_peakWithPeriod 55 = .ok (.iaload, 1) := by decide +kernel
theorem dX5_peakWithPeriod_56 : decode cX5_peakWithPeriod 56 = .ok (.invokestatic 195, 3) := by decide +kernel
theorem dX5_peakWithPeriod_59 : decode cX5_peakWithPeriod 59 = .ok (.invokestatic 207, 3) := by decide +kernel
theorem dX5_peakWithPeriod_62 : decode cX5_peakWithPeriod 62 = .ok (.istore 5, 2) := by decide +kernel
theorem dX5_peakWithPeriod_64 : decode cX5_peakWithPeriod 64 = .ok (.iinc 6 1, 3) := by decide +kernel
theorem dX5_peakWithPeriod_67 : decode cX5_peakWithPeriod 67 = .ok (.goto (-37), 3) := by decide +kernel
theorem dX5_peakWithPeriod_70 : decode cX5_peakWithPeriod 70 = .ok (.iload 5, 2) := by decide +kernel
theorem dX5_peakWithPeriod_72 : decode cX5_peakWithPeriod 72 = .ok (.ireturn, 1) := by decide +kernel
theorem dX5_calmIn_0 : decode cX5_calmIn 0 = .ok (.aload_n 0, 1) := by decide +kernel
theorem dX5_calmIn_1 : decode cX5_calmIn 1 = .ok (.getfield 41, 3) := by decide +kernel
theorem dX5_calmIn_4 : decode cX5_calmIn 4 = .ok (.aload_n 0, 1) := by decide +kernel
theorem dX5_calmIn_5 : decode cX5_calmIn 5 = .ok (.getfield 10, 3) := by decide +kernel
theorem dX5_calmIn_8 : decode cX5_calmIn 8 = .ok (.invokevirtual 44, 3) := by decide +kernel
theorem dX5_calmIn_11 : decode cX5_calmIn 11 = .ok (.aload_n 0, 1) := by decide +kernel
theorem dX5_calmIn_12 : decode cX5_calmIn 12 = .ok (.getfield 41, 3) := by decide +kernel
theorem dX5_calmIn_15 : decode cX5_calmIn 15 = .ok (.iconst 0, 1) := by decide +kernel
theorem dX5_calmIn_16 : decode cX5_calmIn 16 = .ok (.putfield 100, 3) := by decide +kernel
theorem dX5_calmIn_19 : decode cX5_calmIn 19 = .ok (.iconst 0, 1) := by decide +kernel
theorem dX5_calmIn_20 : decode cX5_calmIn 20 = .ok (.istore_n 1, 1) := by decide +kernel
theorem dX5_calmIn_21 : decode cX5_calmIn 21 = .ok (.iload_n 1, 1) := by decide +kernel
theorem dX5_calmIn_22 : decode cX5_calmIn 22 = .ok (.sipush 500, 3) := by decide +kernel
theorem dX5_calmIn_25 : decode cX5_calmIn 25 = .ok (.if_icmp .gt 29, 3) := by decide +kernel
theorem dX5_calmIn_28 : decode cX5_calmIn 28 = .ok (.aload_n 0, 1) := by decide +kernel
theorem dX5_calmIn_29 : decode cX5_calmIn 29 = .ok (.getfield 41, 3) := by decide +kernel
theorem dX5_calmIn_32 : decode cX5_calmIn 32 = .ok (.invokevirtual 210, 3) := by decide +kernel
theorem dX5_calmIn_35 : decode cX5_calmIn 35 = .ok (.ifCond .eq 5, 3) := by decide +kernel
theorem dX5_calmIn_38 : decode cX5_calmIn 38 = .ok (.iload_n 1, 1) := by decide +kernel
theorem dX5_calmIn_39 : decode cX5_calmIn 39 = .ok (.ireturn, 1) := by decide +kernel
theorem dX5_calmIn_40 : decode cX5_calmIn 40 = .ok (.aload_n 0, 1) := by decide +kernel
theorem dX5_calmIn_41 : decode cX5_calmIn 41 = .ok (.getfield 41, 3) := by decide +kernel
theorem dX5_calmIn_44 : decode cX5_calmIn 44 = .ok (.invokevirtual 200, 3) := by decide +kernel
theorem dX5_calmIn_47 : decode cX5_calmIn 47 = .ok (.pop, 1) := by decide +kernel
theorem dX5_calmIn_48 : decode cX5_calmIn 48 = .ok (.iinc 1 1, 3) := by decide +kernel
theorem dX5_calmIn_51 : decode cX5_calmIn 51 = .ok (.goto (-30), 3) := by decide +kernel
theorem dX5_calmIn_54 : decode cX5_calmIn 54 = .ok (.bipush (-6), 2) := by decide +kernel
theorem dX5_calmIn_56 : decode cX5_calmIn 56 = .ok (.ireturn, 1) := by decide +kernel
theorem dX5_put_0 : decode cX5_put 0 = .ok (.aload_n 0, 1) := by decide +kernel
theorem dX5_put_1 : decode cX5_put 1 = .ok (.getfield 19, 3) := by decide +kernel
theorem dX5_put_4 : decode cX5_put 4 = .ok (.lload_n 1, 1) := by decide +kernel
theorem dX5_put_5 : decode cX5_put 5 = .ok (.invokevirtual 214, 3) := by decide +kernel
theorem dX5_put_8 : decode cX5_put 8 = .ok (.ireturn, 1) := by decide +kernel
theorem dX5_wipe_0 : decode cX5_wipe 0 = .ok (.aload_n 0, 1) := by decide +kernel
theorem dX5_wipe_1 : decode cX5_wipe 1 = .ok (.getfield 19, 3) := by decide +kernel
theorem dX5_wipe_4 : decode cX5_wipe 4 = .ok (.getfield 189, 3) := by decide +kernel
theorem dX5_wipe_7 : decode cX5_wipe 7 = .ok (.istore_n 1, 1) := by decide +kernel
theorem dX5_wipe_8 : decode cX5_wipe 8 = .ok (.aload_n 0, 1) := by decide +kernel
theorem dX5_wipe_9 : decode cX5_wipe 9 = .ok (.getfield 19, 3) := by decide +kernel
theorem dX5_wipe_12 : decode cX5_wipe 12 = .ok (.iconst 0, 1) := by decide +kernel
theorem dX5_wipe_13 : decode cX5_wipe 13 = .ok (.putfield 189, 3) := by decide +kernel
theorem dX5_wipe_16 : decode cX5_wipe 16 = .ok (.iload_n 1, 1) := by decide +kernel
theorem dX5_wipe_17 : decode cX5_wipe 17 = .ok (.ireturn, 1) := by decide +kernel
theorem dX5_fault_0 : decode cX5_fault 0 = .ok (.aload_n 0, 1) := by decide +kernel
theorem dX5_fault_1 : decode cX5_fault 1 = .ok (.getfield 19, 3) := by decide +kernel
theorem dX5_fault_4 : decode cX5_fault 4 = .ok (.invokevirtual 217, 3) := by decide +kernel
theorem dX5_fault_7 : decode cX5_fault 7 = .ok (.ireturn, 1) := by decide +kernel
theorem dX5_carryOut_0 : decode cX5_carryOut 0 = .ok (.aload_n 0, 1) := by decide +kernel
theorem dX5_carryOut_1 : decode cX5_carryOut 1 = .ok (.getfield 19, 3) := by decide +kernel
theorem dX5_carryOut_4 : decode cX5_carryOut 4 = .ok (.invokevirtual 217, 3) := by decide +kernel
theorem dX5_carryOut_7 : decode cX5_carryOut 7 = .ok (.bipush (-6), 2) := by decide +kernel
theorem dX5_carryOut_9 : decode cX5_carryOut 9 = .ok (.if_icmp .eq 6, 3) := by decide +kernel
theorem dX5_carryOut_12 : decode cX5_carryOut 12 = .ok (.bipush (-3), 2) := by decide +kernel
theorem dX5_carryOut_14 : decode cX5_carryOut 14 = .ok (.ireturn, 1) := by decide +kernel
theorem dX5_carryOut_15 : decode cX5_carryOut 15 = .ok (.aload_n 0, 1) := by decide +kernel
theorem dX5_carryOut_16 : decode cX5_carryOut 16 = .ok (.getfield 38, 3) := by decide +kernel
theorem dX5_carryOut_19 : decode cX5_carryOut 19 = .ok (.aload_n 0, 1) := by decide +kernel
theorem dX5_carryOut_20 : decode cX5_carryOut 20 = .ok (.getfield 10, 3) := by decide +kernel
theorem dX5_carryOut_23 : decode cX5_carryOut 23 = .ok (.invokevirtual 44, 3) := by decide +kernel
theorem dX5_carryOut_26 : decode cX5_carryOut 26 = .ok (.aload_n 0, 1) := by decide +kernel
theorem dX5_carryOut_27 : decode cX5_carryOut 27 = .ok (.invokevirtual 220, 3) := by decide +kernel
theorem dX5_carryOut_30 : decode cX5_carryOut 30 = .ok (.istore_n 1, 1) := by decide +kernel
theorem dX5_carryOut_31 : decode cX5_carryOut 31 = .ok (.aload_n 0, 1) := by decide +kernel
theorem dX5_carryOut_32 : decode cX5_carryOut 32 = .ok (.getfield 19, 3) := by decide +kernel
theorem dX5_carryOut_35 : decode cX5_carryOut 35 = .ok (.iconst 0, 1) := by decide +kernel
theorem dX5_carryOut_36 : decode cX5_carryOut 36 = .ok (.putfield 189, 3) := by decide +kernel
theorem dX5_carryOut_39 : decode cX5_carryOut 39 = .ok (.aload_n 0, 1) := by decide +kernel
theorem dX5_carryOut_40 : decode cX5_carryOut 40 = .ok (.iload_n 1, 1) := by decide +kernel
theorem dX5_carryOut_41 : decode cX5_carryOut 41 = .ok (.invokevirtual 52, 3) := by decide +kernel
theorem dX5_carryOut_44 : decode cX5_carryOut 44 = .ok (.ireturn, 1) := by decide +kernel
theorem dX5_carryOrders_0 : decode cX5_carryOrders 0 = .ok (.iconst 0, 1) := by decide +kernel
theorem dX5_carryOrders_1 : decode cX5_carryOrders 1 = .ok (.istore_n 1, 1) := by decide +kernel
theorem dX5_carryOrders_2 : decode cX5_carryOrders 2 = .ok (.aload_n 0, 1) := by decide +kernel
theorem dX5_carryOrders_3 : decode cX5_carryOrders 3 = .ok (.getfield 19, 3) := by decide +kernel
theorem dX5_carryOrders_6 : decode cX5_carryOrders 6 = .ok (.iconst 0, 1) := by decide +kernel
theorem dX5_carryOrders_7 : decode cX5_carryOrders 7 = .ok (.putfield 223, 3) := by decide +kernel
theorem dX5_carryOrders_10 : decode cX5_carryOrders 10 = .ok (.iload_n 1, 1) := by decide +kernel
theorem dX5_carryOrders_11 : decode cX5_carryOrders 11 = .ok (.bipush 80, 2) := by decide +kernel
theorem dX5_carryOrders_13 : decode cX5_carryOrders 13 = .ok (.if_icmp .ge 38, 3) := by decide +kernel
theorem dX5_carryOrders_16 : decode cX5_carryOrders 16 = .ok (.aload_n 0, 1) := by decide +kernel
theorem dX5_carryOrders_17 : decode cX5_carryOrders 17 = .ok (.getfield 19, 3) := by decide +kernel
theorem dX5_carryOrders_20 : decode cX5_carryOrders 20 = .ok (.invokevirtual 226, 3) := by decide +kernel
theorem dX5_carryOrders_23 : decode cX5_carryOrders 23 = .ok (.ifCond .eq 28, 3) := by decide +kernel
theorem dX5_carryOrders_26 : decode cX5_carryOrders 26 = .ok (.aload_n 0, 1) := by decide +kernel
theorem dX5_carryOrders_27 : decode cX5_carryOrders 27 = .ok (.invokevirtual 229, 3) := by decide +kernel
theorem dX5_carryOrders_30 : decode cX5_carryOrders 30 = .ok (.ifCond .lt 21, 3) := by decide +kernel
theorem dX5_carryOrders_33 : decode cX5_carryOrders 33 = .ok (.iinc 1 1, 3) := by decide +kernel
theorem dX5_carryOrders_36 : decode cX5_carryOrders 36 = .ok (.aload_n 0, 1) := by decide +kernel
theorem dX5_carryOrders_37 : decode cX5_carryOrders 37 = .ok (.getfield 19, 3) := by decide +kernel
theorem dX5_carryOrders_40 : decode cX5_carryOrders 40 = .ok (.bipush 59, 2) := by decide +kernel
theorem dX5_carryOrders_42 : decode cX5_carryOrders 42 = .ok (.invokevirtual 232, 3) := by decide +kernel
theorem dX5_carryOrders_45 : decode cX5_carryOrders 45 = .ok (.ifCond .ne (-35), 3) := by decide +kernel
theorem dX5_carryOrders_48 : decode cX5_carryOrders 48 = .ok (.goto 3, 3) := by decide +kernel
theorem dX5_carryOrders_51 : decode cX5_carryOrders 51 = .ok (.iload_n 1, 1) := by decide +kernel
theorem dX5_carryOrders_52 : decode cX5_carryOrders 52 = .ok (.ireturn, 1) := by decide +kernel
theorem dX5_carryOneOrder_0 : decode cX5_carryOneOrder 0 = .ok (.aload_n 0, 1) := by decide +kernel
theorem dX5_carryOneOrder_1 : decode cX5_carryOneOrder 1 = .ok (.getfield 19, 3) := by decide +kernel
theorem dX5_carryOneOrder_4 : decode cX5_carryOneOrder 4 = .ok (.getfield 236, 3) := by decide +kernel
theorem dX5_carryOneOrder_7 : decode cX5_carryOneOrder 7 = .ok (.lookupswitch 129 #[(103, 99), (112, 41), (116, 114), (120, 84)], 41) := by decide +kernel
theorem dX5_carryOneOrder_48 : decode cX5_carryOneOrder 48 = .ok (.aload_n 0, 1) := by decide +kernel
theorem dX5_carryOneOrder_49 : decode cX5_carryOneOrder 49 = .ok (.getfield 10, 3) := by decide +kernel
theorem dX5_carryOneOrder_52 : decode cX5_carryOneOrder 52 = .ok (.aload_n 0, 1) := by decide +kernel
theorem dX5_carryOneOrder_53 : decode cX5_carryOneOrder 53 = .ok (.getfield 19, 3) := by decide +kernel
theorem dX5_carryOneOrder_56 : decode cX5_carryOneOrder 56 = .ok (.getfield 239, 3) := by decide +kernel
theorem dX5_carryOneOrder_59 : decode cX5_carryOneOrder 59 = .ok (.aload_n 0, 1) := by decide +kernel
theorem dX5_carryOneOrder_60 : decode cX5_carryOneOrder 60 = .ok (.getfield 19, 3) := by decide +kernel
theorem dX5_carryOneOrder_63 : decode cX5_carryOneOrder 63 = .ok (.getfield 242, 3) := by decide +kernel
theorem dX5_carryOneOrder_66 : decode cX5_carryOneOrder 66 = .ok (.aload_n 0, 1) := by decide +kernel
theorem dX5_carryOneOrder_67 : decode cX5_carryOneOrder 67 = .ok (.getfield 19, 3) := by decide +kernel
theorem dX5_carryOneOrder_70 : decode cX5_carryOneOrder 70 = .ok (.getfield 243, 3) := by decide +kernel
theorem dX5_carryOneOrder_73 : decode cX5_carryOneOrder 73 = .ok (.aload_n 0, 1) := by decide +kernel
theorem dX5_carryOneOrder_74 : decode cX5_carryOneOrder 74 = .ok (.getfield 19, 3) := by decide +kernel
theorem dX5_carryOneOrder_77 : decode cX5_carryOneOrder 77 = .ok (.getfield 246, 3) := by decide +kernel
theorem dX5_carryOneOrder_80 : decode cX5_carryOneOrder 80 = .ok (.aload_n 0, 1) := by decide +kernel
theorem dX5_carryOneOrder_81 : decode cX5_carryOneOrder 81 = .ok (.getfield 19, 3) := by decide +kernel
theorem dX5_carryOneOrder_84 : decode cX5_carryOneOrder 84 = .ok (.getfield 247, 3) := by decide +kernel
theorem dX5_carryOneOrder_87 : decode cX5_carryOneOrder 87 = .ok (.invokevirtual 56, 3) := by decide +kernel
theorem dX5_carryOneOrder_90 : decode cX5_carryOneOrder 90 = .ok (.ireturn, 1) := by decide +kernel
theorem dX5_carryOneOrder_91 : decode cX5_carryOneOrder 91 = .ok (.aload_n 0, 1) := by decide +kernel
theorem dX5_carryOneOrder_92 : decode cX5_carryOneOrder 92 = .ok (.getfield 10, 3) := by decide +kernel
theorem dX5_carryOneOrder_95 : decode cX5_carryOneOrder 95 = .ok (.aload_n 0, 1) := by decide +kernel
theorem dX5_carryOneOrder_96 : decode cX5_carryOneOrder 96 = .ok (.getfield 19, 3) := by decide +kernel
theorem dX5_carryOneOrder_99 : decode cX5_carryOneOrder 99 = .ok (.getfield 239, 3) := by decide +kernel
theorem dX5_carryOneOrder_102 : decode cX5_carryOneOrder 102 = .ok (.invokevirtual 60, 3) := by decide +kernel
theorem dX5_carryOneOrder_105 : decode cX5_carryOneOrder 105 = .ok (.ireturn, 1) := by decide +kernel
theorem dX5_carryOneOrder_106 : decode cX5_carryOneOrder 106 = .ok (.aload_n 0, 1) := by decide +kernel
theorem dX5_carryOneOrder_107 : decode cX5_carryOneOrder 107 = .ok (.getfield 10, 3) := by decide +kernel
theorem dX5_carryOneOrder_110 : decode cX5_carryOneOrder 110 = .ok (.aload_n 0, 1) := by decide +kernel
theorem dX5_carryOneOrder_111 : decode cX5_carryOneOrder 111 = .ok (.getfield 19, 3) := by decide +kernel
theorem dX5_carryOneOrder_114 : decode cX5_carryOneOrder 114 = .ok (.getfield 239, 3) := by decide +kernel
theorem dX5_carryOneOrder_117 : decode cX5_carryOneOrder 117 = .ok (.invokevirtual 66, 3) := by decide +kernel
theorem dX5_carryOneOrder_120 : decode cX5_carryOneOrder 120 = .ok (.ireturn, 1) := by decide +kernel
theorem dX5_carryOneOrder_121 : decode cX5_carryOneOrder 121 = .ok (.aload_n 0, 1) := by decide +kernel
theorem dX5_carryOneOrder_122 : decode cX5_carryOneOrder 122 = .ok (.getfield 10, 3) := by decide +kernel
theorem dX5_carryOneOrder_125 : decode cX5_carryOneOrder 125 = .ok (.aload_n 0, 1) := by decide +kernel
theorem dX5_carryOneOrder_126 : decode cX5_carryOneOrder 126 = .ok (.getfield 19, 3) := by decide +kernel
theorem dX5_carryOneOrder_129 : decode cX5_carryOneOrder 129 = .ok (.getfield 239, 3) := by decide +kernel
theorem dX5_carryOneOrder_132 : decode cX5_carryOneOrder 132 = .ok (.invokevirtual 72, 3) := by decide +kernel
theorem dX5_carryOneOrder_135 : decode cX5_carryOneOrder 135 = .ok (.ireturn, 1) := by decide +kernel
theorem dX5_carryOneOrder_136 : decode cX5_carryOneOrder 136 = .ok (.aload_n 0, 1) := by decide +kernel
theorem dX5_carryOneOrder_137 : decode cX5_carryOneOrder 137 = .ok (.getfield 10, 3) := by decide +kernel
theorem dX5_carryOneOrder_140 : decode cX5_carryOneOrder 140 = .ok (.aload_n 0, 1) := by decide +kernel
theorem dX5_carryOneOrder_141 : decode cX5_carryOneOrder 141 = .ok (.getfield 19, 3) := by decide +kernel
theorem dX5_carryOneOrder_144 : decode cX5_carryOneOrder 144 = .ok (.getfield 239, 3) := by decide +kernel
theorem dX5_carryOneOrder_147 : decode cX5_carryOneOrder 147 = .ok (.aload_n 0, 1) := by decide +kernel
theorem dX5_carryOneOrder_148 : decode cX5_carryOneOrder 148 = .ok (.getfield 19, 3) := by decide +kernel
theorem dX5_carryOneOrder_151 : decode cX5_carryOneOrder 151 = .ok (.getfield 243, 3) := by decide +kernel
theorem dX5_carryOneOrder_154 : decode cX5_carryOneOrder 154 = .ok (.invokevirtual 69, 3) := by decide +kernel
theorem dX5_carryOneOrder_157 : decode cX5_carryOneOrder 157 = .ok (.ireturn, 1) := by decide +kernel
theorem dX5_undo_0 : decode cX5_undo 0 = .ok (.aload_n 0, 1) := by decide +kernel
theorem dX5_undo_1 : decode cX5_undo 1 = .ok (.getfield 26, 3) := by decide +kernel
theorem dX5_undo_4 : decode cX5_undo 4 = .ok (.getfield 192, 3) := by decide +kernel
theorem dX5_undo_7 : decode cX5_undo 7 = .ok (.ifCond .ne 6, 3) := by decide +kernel
theorem dX5_undo_10 : decode cX5_undo 10 = .ok (.bipush (-5), 2) := by decide +kernel
theorem dX5_undo_12 : decode cX5_undo 12 = .ok (.ireturn, 1) := by decide +kernel
theorem dX5_undo_13 : decode cX5_undo 13 = .ok (.aload_n 0, 1) := by decide +kernel
theorem dX5_undo_14 : decode cX5_undo 14 = .ok (.getfield 26, 3) := by decide +kernel
theorem dX5_undo_17 : decode cX5_undo 17 = .ok (.aload_n 0, 1) := by decide +kernel
theorem dX5_undo_18 : decode cX5_undo 18 = .ok (.getfield 10, 3) := by decide +kernel
theorem dX5_undo_21 : decode cX5_undo 21 = .ok (.invokevirtual 248, 3) := by decide +kernel
theorem dX5_undo_24 : decode cX5_undo 24 = .ok (.aload_n 0, 1) := by decide +kernel
theorem dX5_undo_25 : decode cX5_undo 25 = .ok (.getfield 26, 3) := by decide +kernel
theorem dX5_undo_28 : decode cX5_undo 28 = .ok (.getfield 192, 3) := by decide +kernel
theorem dX5_undo_31 : decode cX5_undo 31 = .ok (.ireturn, 1) := by decide +kernel
theorem dX5_save_0 : decode cX5_save 0 = .ok (.iload_n 1, 1) := by decide +kernel
theorem dX5_save_1 : decode cX5_save 1 = .ok (.iconst 2, 1) := by decide +kernel
theorem dX5_save_2 : decode cX5_save 2 = .ok (.invokestatic 78, 3) := by decide +kernel
theorem dX5_save_5 : decode cX5_save 5 = .ok (.ifCond .eq 6, 3) := by decide +kernel
theorem dX5_save_8 : decode cX5_save 8 = .ok (.bipush (-2), 2) := by decide +kernel
theorem dX5_save_10 : decode cX5_save 10 = .ok (.ireturn, 1) := by decide +kernel
theorem dX5_save_11 : decode cX5_save 11 = .ok (.aload_n 0, 1) := by decide +kernel
theorem dX5_save_12 : decode cX5_save 12 = .ok (.getfield 30, 3) := by decide +kernel
theorem dX5_save_15 : decode cX5_save 15 = .ok (.iload_n 1, 1) := by decide +kernel
theorem dX5_save_16 : decode cX5_save 16 = .ok (.aaload, 1) := by decide +kernel
theorem dX5_save_17 : decode cX5_save 17 = .ok (.aload_n 0, 1) := by decide +kernel
theorem dX5_save_18 : decode cX5_save 18 = .ok (.getfield 10, 3) := by decide +kernel
theorem dX5_save_21 : decode cX5_save 21 = .ok (.invokevirtual 44, 3) := by decide +kernel
theorem dX5_save_24 : decode cX5_save 24 = .ok (.aload_n 0, 1) := by decide +kernel
theorem dX5_save_25 : decode cX5_save 25 = .ok (.getfield 34, 3) := by decide +kernel
theorem dX5_save_28 : decode cX5_save 28 = .ok (.iload_n 1, 1) := by decide +kernel
theorem dX5_save_29 : decode cX5_save 29 = .ok (.iconst 1, 1) := by decide +kernel
theorem dX5_save_30 : decode cX5_save 30 = .ok (.bastore, 1) := by decide +kernel
theorem dX5_save_31 : decode cX5_save 31 = .ok (.aload_n 0, 1) := by decide +kernel
theorem dX5_save_32 : decode cX5_save 32 = .ok (.getfield 10, 3) := by decide +kernel
theorem dX5_save_35 : decode cX5_save 35 = .ok (.getfield 100, 3) := by decide +kernel
theorem dX5_save_38 : decode cX5_save 38 = .ok (.ireturn, 1) := by decide +kernel
theorem dX5_restore_0 : decode cX5_restore 0 = .ok (.iload_n 1, 1) := by decide +kernel
theorem dX5_restore_1 : decode cX5_restore 1 = .ok (.iconst 2, 1) := by decide +kernel
theorem dX5_restore_2 : decode cX5_restore 2 = .ok (.invokestatic 78, 3) := by decide +kernel
theorem dX5_restore_5 : decode cX5_restore 5 = .ok (.ifCond .eq 6, 3) := by decide +kernel
theorem dX5_restore_8 : decode cX5_restore 8 = .ok (.bipush (-2), 2) := by decide +kernel
theorem dX5_restore_10 : decode cX5_restore 10 = .ok (.ireturn, 1) := by decide +kernel
theorem dX5_restore_11 : decode cX5_restore 11 = .ok (.aload_n 0, 1) := by decide +kernel
theorem dX5_restore_12 : decode cX5_restore 12 = .ok (.getfield 34, 3) := by decide +kernel
theorem dX5_restore_15 : decode cX5_restore 15 = .ok (.iload_n 1, 1) := by decide +kernel
theorem dX5_restore_16 : decode cX5_restore 16 = .ok (.baload, 1) := by decide +kernel
theorem dX5_restore_17 : decode cX5_restore 17 = .ok (.ifCond .ne 6, 3) := by decide +kernel
theorem dX5_restore_20 : decode cX5_restore 20 = .ok (.bipush (-5), 2) := by decide +kernel
theorem dX5_restore_22 : decode cX5_restore 22 = .ok (.ireturn, 1) := by decide +kernel
theorem dX5_restore_23 : decode cX5_restore 23 = .ok (.aload_n 0, 1) := by decide +kernel
theorem dX5_restore_24 : decode cX5_restore 24 = .ok (.getfield 26, 3) := by decide +kernel
theorem dX5_restore_27 : decode cX5_restore 27 = .ok (.aload_n 0, 1) := by decide +kernel
theorem dX5_restore_28 : decode cX5_restore 28 = .ok (.getfield 10, 3) := by decide +kernel
theorem dX5_restore_31 : decode cX5_restore 31 = .ok (.invokevirtual 75, 3) := by decide +kernel
theorem dX5_restore_34 : decode cX5_restore 34 = .ok (.aload_n 0, 1) := by decide +kernel
theorem dX5_restore_35 : decode cX5_restore 35 = .ok (.getfield 10, 3) := by decide +kernel
theorem dX5_restore_38 : decode cX5_restore 38 = .ok (.aload_n 0, 1) := by decide +kernel
theorem dX5_restore_39 : decode cX5_restore 39 = .ok (.getfield 30, 3) := by decide +kernel
theorem dX5_restore_42 : decode cX5_restore 42 = .ok (.iload_n 1, 1) := by decide +kernel
theorem dX5_restore_43 : decode cX5_restore 43 = .ok (.aaload, 1) := by decide +kernel
theorem dX5_restore_44 : decode cX5_restore 44 = .ok (.invokevirtual 44, 3) := by decide +kernel
theorem dX5_restore_47 : decode cX5_restore 47 = .ok (.aload_n 0, 1) := by decide +kernel
theorem dX5_restore_48 : decode cX5_restore 48 = .ok (.getfield 10, 3) := by decide +kernel
theorem dX5_restore_51 : decode cX5_restore 51 = .ok (.getfield 100, 3) := by decide +kernel
theorem dX5_restore_54 : decode cX5_restore 54 = .ok (.ireturn, 1) := by decide +kernel
theorem dX5_isOutside_0 : decode cX5_isOutside 0 = .ok (.iload_n 0, 1) := by decide +kernel
theorem dX5_isOutside_1 : decode cX5_isOutside 1 = .ok (.ifCond .lt 8, 3) := by decide +kernel
theorem dX5_isOutside_4 : decode cX5_isOutside 4 = .ok (.iload_n 0, 1) := by decide +kernel
theorem dX5_isOutside_5 : decode cX5_isOutside 5 = .ok (.iload_n 1, 1) := by decide +kernel
theorem dX5_isOutside_6 : decode cX5_isOutside 6 = .ok (.if_icmp .lt 7, 3) := by decide +kernel
theorem dX5_isOutside_9 : decode cX5_isOutside 9 = .ok (.iconst 1, 1) := by decide +kernel
theorem dX5_isOutside_10 : decode cX5_isOutside 10 = .ok (.goto 4, 3) := by decide +kernel
theorem dX5_isOutside_13 : decode cX5_isOutside 13 = .ok (.iconst 0, 1) := by decide +kernel
theorem dX5_isOutside_14 : decode cX5_isOutside 14 = .ok (.ireturn, 1) := by decide +kernel
theorem dX5_asNumber_0 : decode cX5_asNumber 0 = .ok (.iload_n 0, 1) := by decide +kernel
theorem dX5_asNumber_1 : decode cX5_asNumber 1 = .ok (.ifCond .eq 7, 3) := by decide +kernel
theorem dX5_asNumber_4 : decode cX5_asNumber 4 = .ok (.iconst 1, 1) := by decide +kernel
theorem dX5_asNumber_5 : decode cX5_asNumber 5 = .ok (.goto 4, 3) := by decide +kernel
theorem dX5_asNumber_8 : decode cX5_asNumber 8 = .ok (.iconst 0, 1) := by decide +kernel
theorem dX5_asNumber_9 : decode cX5_asNumber 9 = .ok (.ireturn, 1) := by decide +kernel
theorem dX5_withinBounds_0 : decode cX5_withinBounds 0 = .ok (.sipush (-9999), 3) := by decide +kernel
theorem dX5_withinBounds_3 : decode cX5_withinBounds 3 = .ok (.sipush 9999, 3) := by decide +kernel
theorem dX5_withinBounds_6 : decode cX5_withinBounds 6 = .ok (.iload_n 0, 1) := by decide +kernel
theorem dX5_withinBounds_7 : decode cX5_withinBounds 7 = .ok (.invokestatic 251, 3) := by decide +kernel
theorem dX5_withinBounds_10 : decode cX5_withinBounds 10 = .ok (.invokestatic 207, 3) := by decide +kernel
theorem dX5_withinBounds_13 : decode cX5_withinBounds 13 = .ok (.ireturn, 1) := by decide +kernel
theorem dJ13_bitCount_95d88_0 : decode cJ13_bitCount_95d88 0 = .ok (.lload_n 0, 1) := by decide +kernel
theorem dJ13_bitCount_95d88_1 : decode cJ13_bitCount_95d88 1 = .ok (.lload_n 0, 1) := by decide +kernel
theorem dJ13_bitCount_95d88_2 : decode cJ13_bitCount_95d88 2 = .ok (.iconst 1, 1) := by decide +kernel
theorem dJ13_bitCount_95d88_3 : decode cJ13_bitCount_95d88 3 = .ok (.lushr, 1) := by decide +kernel
theorem dJ13_bitCount_95d88_4 : decode cJ13_bitCount_95d88 4 = .ok (.ldc2_w 314, 3) := by decide +kernel
theorem dJ13_bitCount_95d88_7 : decode cJ13_bitCount_95d88 7 = .ok (.land, 1) := by decide +kernel
theorem dJ13_bitCount_95d88_8 : decode cJ13_bitCount_95d88 8 = .ok (.lsub, 1) := by decide +kernel
theorem dJ13_bitCount_95d88_9 : decode cJ13_bitCount_95d88 9 = .ok (.lstore_n 0, 1) := by decide +kernel
theorem dJ13_bitCount_95d88_10 : decode cJ13_bitCount_95d88 10 = .ok (.lload_n 0, 1) := by decide +kernel
theorem dJ13_bitCount_95d88_11 : decode cJ13_bitCount_95d88 11 = .ok (.ldc2_w 316, 3) := by decide +kernel
theorem dJ13_bitCount_95d88_14 : decode cJ13_bitCount_95d88 14 = .ok (.land, 1) := by decide +kernel
theorem dJ13_bitCount_95d88_15 : decode cJ13_bitCount_95d88 15 = .ok (.lload_n 0, 1) := by decide +kernel
theorem dJ13_bitCount_95d88_16 : decode cJ13_bitCount_95d88 16 = .ok (.iconst 2, 1) := by decide +kernel
theorem dJ13_bitCount_95d88_17 : decode cJ13_bitCount_95d88 17 = .ok (.lushr, 1) := by decide +kernel
theorem dJ13_bitCount_95d88_18 : decode cJ13_bitCount_95d88 18 = .ok (.ldc2_w 316, 3) := by decide +kernel
theorem dJ13_bitCount_95d88_21 : decode cJ13_bitCount_95d88 21 = .ok (.land, 1) := by decide +kernel
theorem dJ13_bitCount_95d88_22 : decode cJ13_bitCount_95d88 22 = .ok (.ladd, 1) := by decide +kernel
theorem dJ13_bitCount_95d88_23 : decode cJ13_bitCount_95d88 23 = .ok (.lstore_n 0, 1) := by decide +kernel
theorem dJ13_bitCount_95d88_24 : decode cJ13_bitCount_95d88 24 = .ok (.lload_n 0, 1) := by decide +kernel
theorem dJ13_bitCount_95d88_25 : decode cJ13_bitCount_95d88 25 = .ok (.lload_n 0, 1) := by decide +kernel
theorem dJ13_bitCount_95d88_26 : decode cJ13_bitCount_95d88 26 = .ok (.iconst 4, 1) := by decide +kernel
theorem dJ13_bitCount_95d88_27 : decode cJ13_bitCount_95d88 27 = .ok (.lushr, 1) := by decide +kernel
theorem dJ13_bitCount_95d88_28 : decode cJ13_bitCount_95d88 28 = .ok (.ladd, 1) := by decide +kernel
theorem dJ13_bitCount_95d88_29 : decode cJ13_bitCount_95d88 29 = .ok (.ldc2_w 318, 3) := by decide +kernel
theorem dJ13_bitCount_95d88_32 : decode cJ13_bitCount_95d88 32 = .ok (.land, 1) := by decide +kernel
theorem dJ13_bitCount_95d88_33 : decode cJ13_bitCount_95d88 33 = .ok (.lstore_n 0, 1) := by decide +kernel
theorem dJ13_bitCount_95d88_34 : decode cJ13_bitCount_95d88 34 = .ok (.lload_n 0, 1) := by decide +kernel
theorem dJ13_bitCount_95d88_35 : decode cJ13_bitCount_95d88 35 = .ok (.lload_n 0, 1) := by decide +kernel
theorem dJ13_bitCount_95d88_36 : decode cJ13_bitCount_95d88 36 = .ok (.bipush 8, 2) := by decide +kernel
theorem dJ13_bitCount_95d88_38 : decode cJ13_bitCount_95d88 38 = .ok (.lushr, 1) := by decide +kernel
theorem dJ13_bitCount_95d88_39 : decode cJ13_bitCount_95d88 39 = .ok (.ladd, 1) := by decide +kernel
theorem dJ13_bitCount_95d88_40 : decode cJ13_bitCount_95d88 40 = .ok (.lstore_n 0, 1) := by decide +kernel
theorem dJ13_bitCount_95d88_41 : decode cJ13_bitCount_95d88 41 = .ok (.lload_n 0, 1) := by decide +kernel
theorem dJ13_bitCount_95d88_42 : decode cJ13_bitCount_95d88 42 = .ok (.lload_n 0, 1) := by decide +kernel
theorem dJ13_bitCount_95d88_43 : decode cJ13_bitCount_95d88 43 = .ok (.bipush 16, 2) := by decide +kernel
theorem dJ13_bitCount_95d88_45 : decode cJ13_bitCount_95d88 45 = .ok (.lushr, 1) := by decide +kernel
theorem dJ13_bitCount_95d88_46 : decode cJ13_bitCount_95d88 46 = .ok (.ladd, 1) := by decide +kernel
theorem dJ13_bitCount_95d88_47 : decode cJ13_bitCount_95d88 47 = .ok (.lstore_n 0, 1) := by decide +kernel
theorem dJ13_bitCount_95d88_48 : decode cJ13_bitCount_95d88 48 = .ok (.lload_n 0, 1) := by decide +kernel
theorem dJ13_bitCount_95d88_49 : decode cJ13_bitCount_95d88 49 = .ok (.lload_n 0, 1) := by decide +kernel
theorem dJ13_bitCount_95d88_50 : decode cJ13_bitCount_95d88 50 = .ok (.bipush 32, 2) := by decide +kernel
theorem dJ13_bitCount_95d88_52 : decode cJ13_bitCount_95d88 52 = .ok (.lushr, 1) := by decide +kernel
theorem dJ13_bitCount_95d88_53 : decode cJ13_bitCount_95d88 53 = .ok (.ladd, 1) := by decide +kernel
theorem dJ13_bitCount_95d88_54 : decode cJ13_bitCount_95d88 54 = .ok (.lstore_n 0, 1) := by decide +kernel
theorem dJ13_bitCount_95d88_55 : decode cJ13_bitCount_95d88 55 = .ok (.lload_n 0, 1) := by decide +kernel
theorem dJ13_bitCount_95d88_56 : decode cJ13_bitCount_95d88 56 = .ok (.l2i, 1) := by decide +kernel
theorem dJ13_bitCount_95d88_57 : decode cJ13_bitCount_95d88 57 = .ok (.bipush 127, 2) := by decide +kernel
theorem dJ13_bitCount_95d88_59 : decode cJ13_bitCount_95d88 59 = .ok (.iand, 1) := by decide +kernel
theorem dJ13_bitCount_95d88_60 : decode cJ13_bitCount_95d88 60 = .ok (.ireturn, 1) := by decide +kernel
theorem dJ9_floorMod_7cf53_0 : decode cJ9_floorMod_7cf53 0 = .ok (.iload_n 0, 1) := by decide +kernel
theorem dJ9_floorMod_7cf53_1 : decode cJ9_floorMod_7cf53 1 = .ok (.iload_n 1, 1) := by decide +kernel
theorem dJ9_floorMod_7cf53_2 : decode cJ9_floorMod_7cf53 2 = .ok (.irem, 1) := by decide +kernel
theorem dJ9_floorMod_7cf53_3 : decode cJ9_floorMod_7cf53 3 = .ok (.istore_n 2, 1) := by decide +kernel
theorem dJ9_floorMod_7cf53_4 : decode cJ9_floorMod_7cf53 4 = .ok (.iload_n 0, 1) := by decide +kernel
theorem dJ9_floorMod_7cf53_5 : decode cJ9_floorMod_7cf53 5 = .ok (.iload_n 1, 1) := by decide +kernel
theorem dJ9_floorMod_7cf53_6 : decode cJ9_floorMod_7cf53 6 = .ok (.ixor, 1) := by decide +kernel
theorem dJ9_floorMod_7cf53_7 : decode cJ9_floorMod_7cf53 7 = .ok (.ifCond .ge 11, 3) := by decide +kernel
theorem dJ9_floorMod_7cf53_10 : decode cJ9_floorMod_7cf53 10 = .ok (.iload_n 2, 1) := by decide +kernel
theorem dJ9_floorMod_7cf53_11 : decode cJ9_floorMod_7cf53 11 = .ok (.ifCond .eq 7, 3) := by decide +kernel
theorem dJ9_floorMod_7cf53_14 : decode cJ9_floorMod_7cf53 14 = .ok (.iload_n 2, 1) := by decide +kernel
theorem dJ9_floorMod_7cf53_15 : decode cJ9_floorMod_7cf53 15 = .ok (.iload_n 1, 1) := by decide +kernel
theorem dJ9_floorMod_7cf53_16 : decode cJ9_floorMod_7cf53 16 = .ok (.iadd, 1) := by decide +kernel
theorem dJ9_floorMod_7cf53_17 : decode cJ9_floorMod_7cf53 17 = .ok (.ireturn, 1) := by decide +kernel
theorem dJ9_floorMod_7cf53_18 : decode cJ9_floorMod_7cf53 18 = .ok (.iload_n 2, 1) := by decide +kernel
theorem dJ9_floorMod_7cf53_19 : decode cJ9_floorMod_7cf53 19 = .ok (.ireturn, 1) := by decide +kernel
theorem dJ9_abs_0f7a4_0 : decode cJ9_abs_0f7a4 0 = .ok (.iload_n 0, 1) := by decide +kernel
theorem dJ9_abs_0f7a4_1 : decode cJ9_abs_0f7a4 1 = .ok (.ifCond .ge 8, 3) := by decide +kernel
theorem dJ9_abs_0f7a4_4 : decode cJ9_abs_0f7a4 4 = .ok (.iload_n 0, 1) := by decide +kernel
theorem dJ9_abs_0f7a4_5 : decode cJ9_abs_0f7a4 5 = .ok (.ineg, 1) := by decide +kernel
theorem dJ9_abs_0f7a4_6 : decode cJ9_abs_0f7a4 6 = .ok (.goto 4, 3) := by decide +kernel
theorem dJ9_abs_0f7a4_9 : decode cJ9_abs_0f7a4 9 = .ok (.iload_n 0, 1) := by decide +kernel
theorem dJ9_abs_0f7a4_10 : decode cJ9_abs_0f7a4 10 = .ok (.ireturn, 1) := by decide +kernel
theorem dJ9_max_7cf53_0 : decode cJ9_max_7cf53 0 = .ok (.iload_n 0, 1) := by decide +kernel
theorem dJ9_max_7cf53_1 : decode cJ9_max_7cf53 1 = .ok (.iload_n 1, 1) := by decide +kernel
theorem dJ9_max_7cf53_2 : decode cJ9_max_7cf53 2 = .ok (.if_icmp .lt 7, 3) := by decide +kernel
theorem dJ9_max_7cf53_5 : decode cJ9_max_7cf53 5 = .ok (.iload_n 0, 1) := by decide +kernel
theorem dJ9_max_7cf53_6 : decode cJ9_max_7cf53 6 = .ok (.goto 4, 3) := by decide +kernel
theorem dJ9_max_7cf53_9 : decode cJ9_max_7cf53 9 = .ok (.iload_n 1, 1) := by decide +kernel
theorem dJ9_max_7cf53_10 : decode cJ9_max_7cf53 10 = .ok (.ireturn, 1) := by decide +kernel
theorem dJ9_min_7cf53_0 : decode cJ9_min_7cf53 0 = .ok (.iload_n 0, 1) := by decide +kernel
theorem dJ9_min_7cf53_1 : decode cJ9_min_7cf53 1 = .ok (.iload_n 1, 1) := by decide +kernel
theorem dJ9_min_7cf53_2 : decode cJ9_min_7cf53 2 = .ok (.if_icmp .gt 7, 3) := by decide +kernel
theorem dJ9_min_7cf53_5 : decode cJ9_min_7cf53 5 = .ok (.iload_n 0, 1) := by decide +kernel
theorem dJ9_min_7cf53_6 : decode cJ9_min_7cf53 6 = .ok (.goto 4, 3) := by decide +kernel
theorem dJ9_min_7cf53_9 : decode cJ9_min_7cf53 9 = .ok (.iload_n 1, 1) := by decide +kernel
theorem dJ9_min_7cf53_10 : decode cJ9_min_7cf53 10 = .ok (.ireturn, 1) := by decide +kernel
theorem dL_law_0 : decode cL_law 0 = .ok (.new 7, 3) := by decide +kernel
theorem dL_law_3 : decode cL_law 3 = .ok (.dup, 1) := by decide +kernel
theorem dL_law_4 : decode cL_law 4 = .ok (.invokespecial 9, 3) := by decide +kernel
theorem dL_law_7 : decode cL_law 7 = .ok (.astore_n 1, 1) := by decide +kernel
theorem dL_law_8 : decode cL_law 8 = .ok (.new 10, 3) := by decide +kernel
theorem dL_law_11 : decode cL_law 11 = .ok (.dup, 1) := by decide +kernel
theorem dL_law_12 : decode cL_law 12 = .ok (.invokespecial 12, 3) := by decide +kernel
theorem dL_law_15 : decode cL_law 15 = .ok (.astore_n 2, 1) := by decide +kernel
theorem dL_law_16 : decode cL_law 16 = .ok (.iconst 0, 1) := by decide +kernel
theorem dL_law_17 : decode cL_law 17 = .ok (.istore_n 3, 1) := by decide +kernel
theorem dL_law_18 : decode cL_law 18 = .ok (.iload_n 3, 1) := by decide +kernel
theorem dL_law_19 : decode cL_law 19 = .ok (.aload_n 0, 1) := by decide +kernel
theorem dL_law_20 : decode cL_law 20 = .ok (.arraylength, 1) := by decide +kernel
theorem dL_law_21 : decode cL_law 21 = .ok (.bipush 6, 2) := by decide +kernel
theorem dL_law_23 : decode cL_law 23 = .ok (.isub, 1) := by decide +kernel
theorem dL_law_24 : decode cL_law 24 = .ok (.if_icmp .gt 772, 3) := by decide +kernel
theorem dL_law_27 : decode cL_law 27 = .ok (.aload_n 0, 1) := by decide +kernel
theorem dL_law_28 : decode cL_law 28 = .ok (.iload_n 3, 1) := by decide +kernel
theorem dL_law_29 : decode cL_law 29 = .ok (.iaload, 1) := by decide +kernel
theorem dL_law_30 : decode cL_law 30 = .ok (.bipush 31, 2) := by decide +kernel
theorem dL_law_32 : decode cL_law 32 = .ok (.iand, 1) := by decide +kernel
theorem dL_law_33 : decode cL_law 33 = .ok (.tableswitch 757 0 22 #[107, 140, 203, 226, 249, 272, 305, 328, 361, 394, 427, 460, 484, 507, 540, 593, 606, 659, 672, 685, 698, 711, 734], 107) := by decide +kernel
theorem dL_law_140 : decode cL_law 140 = .ok (.aload_n 1, 1) := by decide +kernel
theorem dL_law_141 : decode cL_law 141 = .ok (.aload_n 0, 1) := by decide +kernel
theorem dL_law_142 : decode cL_law 142 = .ok (.iload_n 3, 1) := by decide +kernel
theorem dL_law_143 : decode cL_law 143 = .ok (.iconst 1, 1) := by decide +kernel
theorem dL_law_144 : decode cL_law 144 = .ok (.iadd, 1) := by decide +kernel
theorem dL_law_145 : decode cL_law 145 = .ok (.iaload, 1) := by decide +kernel
theorem dL_law_146 : decode cL_law 146 = .ok (.aload_n 0, 1) := by decide +kernel
theorem dL_law_147 : decode cL_law 147 = .ok (.iload_n 3, 1) := by decide +kernel
theorem dL_law_148 : decode cL_law 148 = .ok (.iconst 2, 1) := by decide +kernel
theorem dL_law_149 : decode cL_law 149 = .ok (.iadd, 1) := by decide +kernel
theorem dL_law_150 : decode cL_law 150 = .ok (.iaload, 1) := by decide +kernel
theorem dL_law_151 : decode cL_law 151 = .ok (.invokevirtual 13, 3) := by decide +kernel
theorem dL_law_154 : decode cL_law 154 = .ok (.aload_n 2, 1) := by decide +kernel
theorem dL_law_155 : decode cL_law 155 = .ok (.aload_n 0, 1) := by decide +kernel
theorem dL_law_156 : decode cL_law 156 = .ok (.iload_n 3, 1) := by decide +kernel
theorem dL_law_157 : decode cL_law 157 = .ok (.iconst 1, 1) := by decide +kernel
theorem dL_law_158 : decode cL_law 158 = .ok (.iadd, 1) := by decide +kernel
theorem dL_law_159 : decode cL_law 159 = .ok (.iaload, 1) := by decide +kernel
theorem dL_law_160 : decode cL_law 160 = .ok (.aload_n 0, 1) := by decide +kernel
theorem dL_law_161 : decode cL_law 161 = .ok (.iload_n 3, 1) := by decide +kernel
theorem dL_law_162 : decode cL_law 162 = .ok (.iconst 2, 1) := by decide +kernel
theorem dL_law_163 : decode cL_law 163 = .ok (.iadd, 1) := by decide +kernel
theorem dL_law_164 : decode cL_law 164 = .ok (.iaload, 1) := by decide +kernel
theorem dL_law_165 : decode cL_law 165 = .ok (.invokevirtual 17, 3) := by decide +kernel
theorem dL_law_168 : decode cL_law 168 = .ok (.if_icmp .eq 622, 3) := by decide +kernel
theorem dL_law_171 : decode cL_law 171 = .ok (.iconst 0, 1) := by decide +kernel
theorem dL_law_172 : decode cL_law 172 = .ok (.ireturn, 1) := by decide +kernel
theorem dL_law_173 : decode cL_law 173 = .ok (.aload_n 1, 1) := by decide +kernel
theorem dL_law_174 : decode cL_law 174 = .ok (.aload_n 0, 1) := by decide +kernel
theorem dL_law_175 : decode cL_law 175 = .ok (.iload_n 3, 1) := by decide +kernel
theorem dL_law_176 : decode cL_law 176 = .ok (.iconst 1, 1) := by decide +kernel
theorem dL_law_177 : decode cL_law 177 = .ok (.iadd, 1) := by decide +kernel
theorem dL_law_178 : decode cL_law 178 = .ok (.iaload, 1) := by decide +kernel
theorem dL_law_179 : decode cL_law 179 = .ok (.aload_n 0, 1) := by decide +kernel
theorem dL_law_180 : decode cL_law 180 = .ok (.iload_n 3, 1) := by decide +kernel
theorem dL_law_181 : decode cL_law 181 = .ok (.iconst 2, 1) := by decide +kernel
theorem dL_law_182 : decode cL_law 182 = .ok (.iadd, 1) := by decide +kernel
theorem dL_law_183 : decode cL_law 183 = .ok (.iaload, 1) := by decide +kernel
theorem dL_law_184 : decode cL_law 184 = .ok (.aload_n 0, 1) := by decide +kernel
theorem dL_law_185 : decode cL_law 185 = .ok (.iload_n 3, 1) := by decide +kernel
theorem dL_law_186 : decode cL_law 186 = .ok (.iconst 3, 1) := by decide +kernel
theorem dL_law_187 : decode cL_law 187 = .ok (.iadd, 1) := by decide +kernel
theorem dL_law_188 : decode cL_law 188 = .ok (.iaload, 1) := by decide +kernel
theorem dL_law_189 : decode cL_law 189 = .ok (.aload_n 0, 1) := by decide +kernel
theorem dL_law_190 : decode cL_law 190 = .ok (.iload_n 3, 1) := by decide +kernel
theorem dL_law_191 : decode cL_law 191 = .ok (.iconst 4, 1) := by decide +kernel
theorem dL_law_192 : decode cL_law 192 = .ok (.iadd, 1) := by decide +kernel
theorem dL_law_193 : decode cL_law 193 = .ok (.iaload, 1) := by decide +kernel
theorem dL_law_194 : decode cL_law 194 = .ok (.aload_n 0, 1) := by decide +kernel
theorem dL_law_195 : decode cL_law 195 = .ok (.iload_n 3, 1) := by decide +kernel
theorem dL_law_196 : decode cL_law 196 = .ok (.iconst 5, 1) := by decide +kernel
theorem dL_law_197 : decode cL_law 197 = .ok (.iadd, 1) := by decide +kernel
theorem dL_law_198 : decode cL_law 198 = .ok (.iaload, 1) := by decide +kernel
theorem dL_law_199 : decode cL_law 199 = .ok (.invokevirtual 18, 3) := by decide +kernel
theorem dL_law_202 : decode cL_law 202 = .ok (.aload_n 2, 1) := by decide +kernel
theorem dL_law_203 : decode cL_law 203 = .ok (.aload_n 0, 1) := by decide +kernel
theorem dL_law_204 : decode cL_law 204 = .ok (.iload_n 3, 1) := by decide +kernel
theorem dL_law_205 : decode cL_law 205 = .ok (.iconst 1, 1) := by decide +kernel
theorem dL_law_206 : decode cL_law 206 = .ok (.iadd, 1) := by decide +kernel
theorem dL_law_207 : decode cL_law 207 = .ok (.iaload, 1) := by decide +kernel
theorem dL_law_208 : decode cL_law 208 = .ok (.aload_n 0, 1) := by decide +kernel
theorem dL_law_209 : decode cL_law 209 = .ok (.iload_n 3, 1) := by decide +kernel
theorem dL_law_210 : decode cL_law 210 = .ok (.iconst 2, 1) := by decide +kernel
theorem dL_law_211 : decode cL_law 211 = .ok (.iadd, 1) := by decide +kernel
theorem dL_law_212 : decode cL_law 212 = .ok (.iaload, 1) := by decide +kernel
theorem dL_law_213 : decode cL_law 213 = .ok (.aload_n 0, 1) := by decide +kernel
theorem dL_law_214 : decode cL_law 214 = .ok (.iload_n 3, 1) := by decide +kernel
theorem dL_law_215 : decode cL_law 215 = .ok (.iconst 3, 1) := by decide +kernel
theorem dL_law_216 : decode cL_law 216 = .ok (.iadd, 1) := by decide +kernel
theorem dL_law_217 : decode cL_law 217 = .ok (.iaload, 1) := by decide +kernel
theorem dL_law_218 : decode cL_law 218 = .ok (.aload_n 0, 1) := by decide +kernel
theorem dL_law_219 : decode cL_law 219 = .ok (.iload_n 3, 1) := by decide +kernel
theorem dL_law_220 : decode cL_law 220 = .ok (.iconst 4, 1) := by decide +kernel
theorem dL_law_221 : decode cL_law 221 = .ok (.iadd, 1) := by decide +kernel
theorem dL_law_222 : decode cL_law 222 = .ok (.iaload, 1) := by decide +kernel
theorem dL_law_223 : decode cL_law 223 = .ok (.aload_n 0, 1) := by decide +kernel
theorem dL_law_224 : decode cL_law 224 = .ok (.iload_n 3, 1) := by decide +kernel
theorem dL_law_225 : decode cL_law 225 = .ok (.iconst 5, 1) := by decide +kernel
theorem dL_law_226 : decode cL_law 226 = .ok (.iadd, 1) := by decide +kernel
theorem dL_law_227 : decode cL_law 227 = .ok (.iaload, 1) := by decide +kernel
theorem dL_law_228 : decode cL_law 228 = .ok (.invokevirtual 22, 3) := by decide +kernel
theorem dL_law_231 : decode cL_law 231 = .ok (.if_icmp .eq 559, 3) := by decide +kernel
theorem dL_law_234 : decode cL_law 234 = .ok (.iconst 0, 1) := by decide +kernel
theorem dL_law_235 : decode cL_law 235 = .ok (.ireturn, 1) := by decide +kernel
theorem dL_law_236 : decode cL_law 236 = .ok (.aload_n 1, 1) := by decide +kernel
theorem dL_law_237 : decode cL_law 237 = .ok (.aload_n 0, 1) := by decide +kernel
theorem dL_law_238 : decode cL_law 238 = .ok (.iload_n 3, 1) := by decide +kernel
theorem dL_law_239 : decode cL_law 239 = .ok (.iconst 1, 1) := by decide +kernel
theorem dL_law_240 : decode cL_law 240 = .ok (.iadd, 1) := by decide +kernel
theorem dL_law_241 : decode cL_law 241 = .ok (.iaload, 1) := by decide +kernel
theorem dL_law_242 : decode cL_law 242 = .ok (.invokevirtual 23, 3) := by decide +kernel
theorem dL_law_245 : decode cL_law 245 = .ok (.aload_n 2, 1) := by decide +kernel
theorem dL_law_246 : decode cL_law 246 = .ok (.aload_n 0, 1) := by decide +kernel
theorem dL_law_247 : decode cL_law 247 = .ok (.iload_n 3, 1) := by decide +kernel
theorem dL_law_248 : decode cL_law 248 = .ok (.iconst 1, 1) := by decide +kernel
theorem dL_law_249 : decode cL_law 249 = .ok (.iadd, 1) := by decide +kernel
theorem dL_law_250 : decode cL_law 250 = .ok (.iaload, 1) := by decide +kernel
theorem dL_law_251 : decode cL_law 251 = .ok (.invokevirtual 27, 3) := by decide +kernel
theorem dL_law_254 : decode cL_law 254 = .ok (.if_icmp .eq 536, 3) := by decide +kernel
theorem dL_law_257 : decode cL_law 257 = .ok (.iconst 0, 1) := by decide +kernel
theorem dL_law_258 : decode cL_law 258 = .ok (.ireturn, 1) := by decide +kernel
theorem dL_law_259 : decode cL_law 259 = .ok (.aload_n 1, 1) := by decide +kernel
theorem dL_law_260 : decode cL_law 260 = .ok (.aload_n 0, 1) := by decide +kernel
theorem dL_law_261 : decode cL_law 261 = .ok (.iload_n 3, 1) := by decide +kernel
theorem dL_law_262 : decode cL_law 262 = .ok (.iconst 1, 1) := by decide +kernel
theorem dL_law_263 : decode cL_law 263 = .ok (.iadd, 1) := by decide +kernel
theorem dL_law_264 : decode cL_law 264 = .ok (.iaload, 1) := by decide +kernel
theorem dL_law_265 : decode cL_law 265 = .ok (.invokevirtual 28, 3) := by decide +kernel
theorem dL_law_268 : decode cL_law 268 = .ok (.aload_n 2, 1) := by decide +kernel
theorem dL_law_269 : decode cL_law 269 = .ok (.aload_n 0, 1) := by decide +kernel
theorem dL_law_270 : decode cL_law 270 = .ok (.iload_n 3, 1) := by decide +kernel
theorem dL_law_271 : decode cL_law 271 = .ok (.iconst 1, 1) := by decide +kernel
theorem dL_law_272 : decode cL_law 272 = .ok (.iadd, 1) := by decide +kernel
theorem dL_law_273 : decode cL_law 273 = .ok (.iaload, 1) := by decide +kernel
theorem dL_law_274 : decode cL_law 274 = .ok (.invokevirtual 31, 3) := by decide +kernel
theorem dL_law_277 : decode cL_law 277 = .ok (.if_icmp .eq 513, 3) := by decide +kernel
theorem dL_law_280 : decode cL_law 280 = .ok (.iconst 0, 1) := by decide +kernel
theorem dL_law_281 : decode cL_law 281 = .ok (.ireturn, 1) := by decide +kernel
theorem dL_law_282 : decode cL_law 282 = .ok (.aload_n 1, 1) := by decide +kernel
theorem dL_law_283 : decode cL_law 283 = .ok (.aload_n 0, 1) := by decide +kernel
theorem dL_law_284 : decode cL_law 284 = .ok (.iload_n 3, 1) := by decide +kernel
theorem dL_law_285 : decode cL_law 285 = .ok (.iconst 1, 1) := by decide +kernel
theorem dL_law_286 : decode cL_law 286 = .ok (.iadd, 1) := by decide +kernel
theorem dL_law_287 : decode cL_law 287 = .ok (.iaload, 1) := by decide +kernel
theorem dL_law_288 : decode cL_law 288 = .ok (.invokevirtual 32, 3) := by decide +kernel
theorem dL_law_291 : decode cL_law 291 = .ok (.aload_n 2, 1) := by decide +kernel
theorem dL_law_292 : decode cL_law 292 = .ok (.aload_n 0, 1) := by decide +kernel
theorem dL_law_293 : decode cL_law 293 = .ok (.iload_n 3, 1) := by decide +kernel
theorem dL_law_294 : decode cL_law 294 = .ok (.iconst 1, 1) := by decide +kernel
theorem dL_law_295 : decode cL_law 295 = .ok (.iadd, 1) := by decide +kernel
theorem dL_law_296 : decode cL_law 296 = .ok (.iaload, 1) := by decide +kernel
theorem dL_law_297 : decode cL_law 297 = .ok (.invokevirtual 35, 3) := by decide +kernel
theorem dL_law_300 : decode cL_law 300 = .ok (.if_icmp .eq 490, 3) := by decide +kernel
theorem dL_law_303 : decode cL_law 303 = .ok (.iconst 0, 1) := by decide +kernel
theorem dL_law_304 : decode cL_law 304 = .ok (.ireturn, 1) := by decide +kernel
theorem dL_law_305 : decode cL_law 305 = .ok (.aload_n 1, 1) := by decide +kernel
theorem dL_law_306 : decode cL_law 306 = .ok (.aload_n 0, 1) := by decide +kernel
theorem dL_law_307 : decode cL_law 307 = .ok (.iload_n 3, 1) := by decide +kernel
theorem dL_law_308 : decode cL_law 308 = .ok (.iconst 1, 1) := by decide +kernel
theorem dL_law_309 : decode cL_law 309 = .ok (.iadd, 1) := by decide +kernel
theorem dL_law_310 : decode cL_law 310 = .ok (.iaload, 1) := by decide +kernel
theorem dL_law_311 : decode cL_law 311 = .ok (.aload_n 0, 1) := by decide +kernel
theorem dL_law_312 : decode cL_law 312 = .ok (.iload_n 3, 1) := by decide +kernel
theorem dL_law_313 : decode cL_law 313 = .ok (.iconst 2, 1) := by decide +kernel
theorem dL_law_314 : decode cL_law 314 = .ok (.iadd, 1) := by decide +kernel
theorem dL_law_315 : decode cL_law 315 = .ok (.iaload, 1) := by decide +kernel
theorem dL_law_316 : decode cL_law 316 = .ok (.invokevirtual 36, 3) := by decide +kernel
theorem dL_law_319 : decode cL_law 319 = .ok (.aload_n 2, 1) := by decide +kernel
theorem dL_law_320 : decode cL_law 320 = .ok (.aload_n 0, 1) := by decide +kernel
theorem dL_law_321 : decode cL_law 321 = .ok (.iload_n 3, 1) := by decide +kernel
theorem dL_law_322 : decode cL_law 322 = .ok (.iconst 1, 1) := by decide +kernel
theorem dL_law_323 : decode cL_law 323 = .ok (.iadd, 1) := by decide +kernel
theorem dL_law_324 : decode cL_law 324 = .ok (.iaload, 1) := by decide +kernel
theorem dL_law_325 : decode cL_law 325 = .ok (.aload_n 0, 1) := by decide +kernel
theorem dL_law_326 : decode cL_law 326 = .ok (.iload_n 3, 1) := by decide +kernel
theorem dL_law_327 : decode cL_law 327 = .ok (.iconst 2, 1) := by decide +kernel
theorem dL_law_328 : decode cL_law 328 = .ok (.iadd, 1) := by decide +kernel
theorem dL_law_329 : decode cL_law 329 = .ok (.iaload, 1) := by decide +kernel
theorem dL_law_330 : decode cL_law 330 = .ok (.invokevirtual 39, 3) := by decide +kernel
theorem dL_law_333 : decode cL_law 333 = .ok (.if_icmp .eq 457, 3) := by decide +kernel
theorem dL_law_336 : decode cL_law 336 = .ok (.iconst 0, 1) := by decide +kernel
theorem dL_law_337 : decode cL_law 337 = .ok (.ireturn, 1) := by decide +kernel
theorem dL_law_338 : decode cL_law 338 = .ok (.aload_n 1, 1) := by decide +kernel
theorem dL_law_339 : decode cL_law 339 = .ok (.aload_n 0, 1) := by decide +kernel
theorem dL_law_340 : decode cL_law 340 = .ok (.iload_n 3, 1) := by decide +kernel
theorem dL_law_341 : decode cL_law 341 = .ok (.iconst 1, 1) := by decide +kernel
theorem dL_law_342 : decode cL_law 342 = .ok (.iadd, 1) := by decide +kernel
theorem dL_law_343 : decode cL_law 343 = .ok (.iaload, 1) := by decide +kernel
theorem dL_law_344 : decode cL_law 344 = .ok (.invokevirtual 40, 3) := by decide +kernel
theorem dL_law_347 : decode cL_law 347 = .ok (.aload_n 2, 1) := by decide +kernel
theorem dL_law_348 : decode cL_law 348 = .ok (.aload_n 0, 1) := by decide +kernel
theorem dL_law_349 : decode cL_law 349 = .ok (.iload_n 3, 1) := by decide +kernel
theorem dL_law_350 : decode cL_law 350 = .ok (.iconst 1, 1) := by decide +kernel
theorem dL_law_351 : decode cL_law 351 = .ok (.iadd, 1) := by decide +kernel
theorem dL_law_352 : decode cL_law 352 = .ok (.iaload, 1) := by decide +kernel
theorem dL_law_353 : decode cL_law 353 = .ok (.invokevirtual 43, 3) := by decide +kernel
theorem dL_law_356 : decode cL_law 356 = .ok (.if_icmp .eq 434, 3) := by decide +kernel
theorem dL_law_359 : decode cL_law 359 = .ok (.iconst 0, 1) := by decide +kernel
theorem dL_law_360 : decode cL_law 360 = .ok (.ireturn, 1) := by decide +kernel
theorem dL_law_361 : decode cL_law 361 = .ok (.aload_n 1, 1) := by decide +kernel
theorem dL_law_362 : decode cL_law 362 = .ok (.aload_n 0, 1) := by decide +kernel
theorem dL_law_363 : decode cL_law 363 = .ok (.iload_n 3, 1) := by decide +kernel
theorem dL_law_364 : decode cL_law 364 = .ok (.iconst 1, 1) := by decide +kernel
theorem dL_law_365 : decode cL_law 365 = .ok (.iadd, 1) := by decide +kernel
theorem dL_law_366 : decode cL_law 366 = .ok (.iaload, 1) := by decide +kernel
theorem dL_law_367 : decode cL_law 367 = .ok (.aload_n 0, 1) := by decide +kernel
theorem dL_law_368 : decode cL_law 368 = .ok (.iload_n 3, 1) := by decide +kernel
theorem dL_law_369 : decode cL_law 369 = .ok (.iconst 2, 1) := by decide +kernel
theorem dL_law_370 : decode cL_law 370 = .ok (.iadd, 1) := by decide +kernel
theorem dL_law_371 : decode cL_law 371 = .ok (.iaload, 1) := by decide +kernel
theorem dL_law_372 : decode cL_law 372 = .ok (.invokevirtual 44, 3) := by decide +kernel
theorem dL_law_375 : decode cL_law 375 = .ok (.aload_n 2, 1) := by decide +kernel
theorem dL_law_376 : decode cL_law 376 = .ok (.aload_n 0, 1) := by decide +kernel
theorem dL_law_377 : decode cL_law 377 = .ok (.iload_n 3, 1) := by decide +kernel
theorem dL_law_378 : decode cL_law 378 = .ok (.iconst 1, 1) := by decide +kernel
theorem dL_law_379 : decode cL_law 379 = .ok (.iadd, 1) := by decide +kernel
theorem dL_law_380 : decode cL_law 380 = .ok (.iaload, 1) := by decide +kernel
theorem dL_law_381 : decode cL_law 381 = .ok (.aload_n 0, 1) := by decide +kernel
theorem dL_law_382 : decode cL_law 382 = .ok (.iload_n 3, 1) := by decide +kernel
theorem dL_law_383 : decode cL_law 383 = .ok (.iconst 2, 1) := by decide +kernel
theorem dL_law_384 : decode cL_law 384 = .ok (.iadd, 1) := by decide +kernel
theorem dL_law_385 : decode cL_law 385 = .ok (.iaload, 1) := by decide +kernel
theorem dL_law_386 : decode cL_law 386 = .ok (.invokevirtual 47, 3) := by decide +kernel
theorem dL_law_389 : decode cL_law 389 = .ok (.if_icmp .eq 401, 3) := by decide +kernel
theorem dL_law_392 : decode cL_law 392 = .ok (.iconst 0, 1) := by decide +kernel
theorem dL_law_393 : decode cL_law 393 = .ok (.ireturn, 1) := by decide +kernel
theorem dL_law_394 : decode cL_law 394 = .ok (.aload_n 1, 1) := by decide +kernel
theorem dL_law_395 : decode cL_law 395 = .ok (.aload_n 0, 1) := by decide +kernel
theorem dL_law_396 : decode cL_law 396 = .ok (.iload_n 3, 1) := by decide +kernel
theorem dL_law_397 : decode cL_law 397 = .ok (.iconst 1, 1) := by decide +kernel
theorem dL_law_398 : decode cL_law 398 = .ok (.iadd, 1) := by decide +kernel
theorem dL_law_399 : decode cL_law 399 = .ok (.iaload, 1) := by decide +kernel
theorem dL_law_400 : decode cL_law 400 = .ok (.aload_n 0, 1) := by decide +kernel
theorem dL_law_401 : decode cL_law 401 = .ok (.iload_n 3, 1) := by decide +kernel
theorem dL_law_402 : decode cL_law 402 = .ok (.iconst 2, 1) := by decide +kernel
theorem dL_law_403 : decode cL_law 403 = .ok (.iadd, 1) := by decide +kernel
theorem dL_law_404 : decode cL_law 404 = .ok (.iaload, 1) := by decide +kernel
theorem dL_law_405 : decode cL_law 405 = .ok (.invokevirtual 48, 3) := by decide +kernel
theorem dL_law_408 : decode cL_law 408 = .ok (.aload_n 2, 1) := by decide +kernel
theorem dL_law_409 : decode cL_law 409 = .ok (.aload_n 0, 1) := by decide +kernel
theorem dL_law_410 : decode cL_law 410 = .ok (.iload_n 3, 1) := by decide +kernel
theorem dL_law_411 : decode cL_law 411 = .ok (.iconst 1, 1) := by decide +kernel
theorem dL_law_412 : decode cL_law 412 = .ok (.iadd, 1) := by decide +kernel
theorem dL_law_413 : decode cL_law 413 = .ok (.iaload, 1) := by decide +kernel
theorem dL_law_414 : decode cL_law 414 = .ok (.aload_n 0, 1) := by decide +kernel
theorem dL_law_415 : decode cL_law 415 = .ok (.iload_n 3, 1) := by decide +kernel
theorem dL_law_416 : decode cL_law 416 = .ok (.iconst 2, 1) := by decide +kernel
theorem dL_law_417 : decode cL_law 417 = .ok (.iadd, 1) := by decide +kernel
theorem dL_law_418 : decode cL_law 418 = .ok (.iaload, 1) := by decide +kernel
theorem dL_law_419 : decode cL_law 419 = .ok (.invokevirtual 51, 3) := by decide +kernel
theorem dL_law_422 : decode cL_law 422 = .ok (.if_icmp .eq 368, 3) := by decide +kernel
theorem dL_law_425 : decode cL_law 425 = .ok (.iconst 0, 1) := by decide +kernel
theorem dL_law_426 : decode cL_law 426 = .ok (.ireturn, 1) := by decide +kernel
theorem dL_law_427 : decode cL_law 427 = .ok (.aload_n 1, 1) := by decide +kernel
theorem dL_law_428 : decode cL_law 428 = .ok (.aload_n 0, 1) := by decide +kernel
theorem dL_law_429 : decode cL_law 429 = .ok (.iload_n 3, 1) := by decide +kernel
theorem dL_law_430 : decode cL_law 430 = .ok (.iconst 1, 1) := by decide +kernel
theorem dL_law_431 : decode cL_law 431 = .ok (.iadd, 1) := by decide +kernel
theorem dL_law_432 : decode cL_law 432 = .ok (.iaload, 1) := by decide +kernel
theorem dL_law_433 : decode cL_law 433 = .ok (.aload_n 0, 1) := by decide +kernel
theorem dL_law_434 : decode cL_law 434 = .ok (.iload_n 3, 1) := by decide +kernel
theorem dL_law_435 : decode cL_law 435 = .ok (.iconst 2, 1) := by decide +kernel
theorem dL_law_436 : decode cL_law 436 = .ok (.iadd, 1) := by decide +kernel
theorem dL_law_437 : decode cL_law 437 = .ok (.iaload, 1) := by decide +kernel
theorem dL_law_438 : decode cL_law 438 = .ok (.invokevirtual 52, 3) := by decide +kernel
theorem dL_law_441 : decode cL_law 441 = .ok (.aload_n 2, 1) := by decide +kernel
theorem dL_law_442 : decode cL_law 442 = .ok (.aload_n 0, 1) := by decide +kernel
theorem dL_law_443 : decode cL_law 443 = .ok (.iload_n 3, 1) := by decide +kernel
theorem dL_law_444 : decode cL_law 444 = .ok (.iconst 1, 1) := by decide +kernel
theorem dL_law_445 : decode cL_law 445 = .ok (.iadd, 1) := by decide +kernel
theorem dL_law_446 : decode cL_law 446 = .ok (.iaload, 1) := by decide +kernel
theorem dL_law_447 : decode cL_law 447 = .ok (.aload_n 0, 1) := by decide +kernel
theorem dL_law_448 : decode cL_law 448 = .ok (.iload_n 3, 1) := by decide +kernel
theorem dL_law_449 : decode cL_law 449 = .ok (.iconst 2, 1) := by decide +kernel
theorem dL_law_450 : decode cL_law 450 = .ok (.iadd, 1) := by decide +kernel
theorem dL_law_451 : decode cL_law 451 = .ok (.iaload, 1) := by decide +kernel
theorem dL_law_452 : decode cL_law 452 = .ok (.invokevirtual 55, 3) := by decide +kernel
theorem dL_law_455 : decode cL_law 455 = .ok (.if_icmp .eq 335, 3) := by decide +kernel
theorem dL_law_458 : decode cL_law 458 = .ok (.iconst 0, 1) := by decide +kernel
theorem dL_law_459 : decode cL_law 459 = .ok (.ireturn, 1) := by decide +kernel
theorem dL_law_460 : decode cL_law 460 = .ok (.aload_n 1, 1) := by decide +kernel
theorem dL_law_461 : decode cL_law 461 = .ok (.aload_n 0, 1) := by decide +kernel
theorem dL_law_462 : decode cL_law 462 = .ok (.iload_n 3, 1) := by decide +kernel
theorem dL_law_463 : decode cL_law 463 = .ok (.iconst 1, 1) := by decide +kernel
theorem dL_law_464 : decode cL_law 464 = .ok (.iadd, 1) := by decide +kernel
theorem dL_law_465 : decode cL_law 465 = .ok (.iaload, 1) := by decide +kernel
theorem dL_law_466 : decode cL_law 466 = .ok (.aload_n 0, 1) := by decide +kernel
theorem dL_law_467 : decode cL_law 467 = .ok (.iload_n 3, 1) := by decide +kernel
theorem dL_law_468 : decode cL_law 468 = .ok (.iconst 2, 1) := by decide +kernel
theorem dL_law_469 : decode cL_law 469 = .ok (.iadd, 1) := by decide +kernel
theorem dL_law_470 : decode cL_law 470 = .ok (.iaload, 1) := by decide +kernel
theorem dL_law_471 : decode cL_law 471 = .ok (.invokevirtual 56, 3) := by decide +kernel
theorem dL_law_474 : decode cL_law 474 = .ok (.aload_n 2, 1) := by decide +kernel
theorem dL_law_475 : decode cL_law 475 = .ok (.aload_n 0, 1) := by decide +kernel
theorem dL_law_476 : decode cL_law 476 = .ok (.iload_n 3, 1) := by decide +kernel
theorem dL_law_477 : decode cL_law 477 = .ok (.iconst 1, 1) := by decide +kernel
theorem dL_law_478 : decode cL_law 478 = .ok (.iadd, 1) := by decide +kernel
theorem dL_law_479 : decode cL_law 479 = .ok (.iaload, 1) := by decide +kernel
theorem dL_law_480 : decode cL_law 480 = .ok (.aload_n 0, 1) := by decide +kernel
theorem dL_law_481 : decode cL_law 481 = .ok (.iload_n 3, 1) := by decide +kernel
theorem dL_law_482 : decode cL_law 482 = .ok (.iconst 2, 1) := by decide +kernel
theorem dL_law_483 : decode cL_law 483 = .ok (.iadd, 1) := by decide +kernel
theorem dL_law_484 : decode cL_law 484 = .ok (.iaload, 1) := by decide +kernel
theorem dL_law_485 : decode cL_law 485 = .ok (.invokevirtual 59, 3) := by decide +kernel
theorem dL_law_488 : decode cL_law 488 = .ok (.if_icmp .eq 302, 3) := by decide +kernel
theorem dL_law_491 : decode cL_law 491 = .ok (.iconst 0, 1) := by decide +kernel
theorem dL_law_492 : decode cL_law 492 = .ok (.ireturn, 1) := by decide +kernel
theorem dL_law_493 : decode cL_law 493 = .ok (.aload_n 1, 1) := by decide +kernel
theorem dL_law_494 : decode cL_law 494 = .ok (.aload_n 0, 1) := by decide +kernel
theorem dL_law_495 : decode cL_law 495 = .ok (.iload_n 3, 1) := by decide +kernel
theorem dL_law_496 : decode cL_law 496 = .ok (.iconst 1, 1) := by decide +kernel
theorem dL_law_497 : decode cL_law 497 = .ok (.iadd, 1) := by decide +kernel
theorem dL_law_498 : decode cL_law 498 = .ok (.iaload, 1) := by decide +kernel
theorem dL_law_499 : decode cL_law 499 = .ok (.invokevirtual 60, 3) := by decide +kernel
theorem dL_law_502 : decode cL_law 502 = .ok (.aload_n 2, 1) := by decide +kernel
theorem dL_law_503 : decode cL_law 503 = .ok (.aload_n 0, 1) := by decide +kernel
theorem dL_law_504 : decode cL_law 504 = .ok (.iload_n 3, 1) := by decide +kernel
theorem dL_law_505 : decode cL_law 505 = .ok (.iconst 1, 1) := by decide +kernel
theorem dL_law_506 : decode cL_law 506 = .ok (.iadd, 1) := by decide +kernel
theorem dL_law_507 : decode cL_law 507 = .ok (.iaload, 1) := by decide +kernel
theorem dL_law_508 : decode cL_law 508 = .ok (.invokevirtual 64, 3) := by decide +kernel
theorem dL_law_511 : decode cL_law 511 = .ok (.lcmp, 1) := by decide +kernel
theorem dL_law_512 : decode cL_law 512 = .ok (.ifCond .eq 278, 3) := by decide +kernel
theorem dL_law_515 : decode cL_law 515 = .ok (.iconst 0, 1) := by decide +kernel
theorem dL_law_516 : decode cL_law 516 = .ok (.ireturn, 1) := by decide +kernel
theorem dL_law_517 : decode cL_law 517 = .ok (.aload_n 1, 1) := by decide +kernel
theorem dL_law_518 : decode cL_law 518 = .ok (.aload_n 0, 1) := by decide +kernel
theorem dL_law_519 : decode cL_law 519 = .ok (.iload_n 3, 1) := by decide +kernel
theorem dL_law_520 : decode cL_law 520 = .ok (.iconst 1, 1) := by decide +kernel
theorem dL_law_521 : decode cL_law 521 = .ok (.iadd, 1) := by decide +kernel
theorem dL_law_522 : decode cL_law 522 = .ok (.iaload, 1) := by decide +kernel
theorem dL_law_523 : decode cL_law 523 = .ok (.invokevirtual 65, 3) := by decide +kernel
theorem dL_law_526 : decode cL_law 526 = .ok (.aload_n 2, 1) := by decide +kernel
theorem dL_law_527 : decode cL_law 527 = .ok (.aload_n 0, 1) := by decide +kernel
theorem dL_law_528 : decode cL_law 528 = .ok (.iload_n 3, 1) := by decide +kernel
theorem dL_law_529 : decode cL_law 529 = .ok (.iconst 1, 1) := by decide +kernel
theorem dL_law_530 : decode cL_law 530 = .ok (.iadd, 1) := by decide +kernel
theorem dL_law_531 : decode cL_law 531 = .ok (.iaload, 1) := by decide +kernel
theorem dL_law_532 : decode cL_law 532 = .ok (.invokevirtual 68, 3) := by decide +kernel
theorem dL_law_535 : decode cL_law 535 = .ok (.if_icmp .eq 255, 3) := by decide +kernel
theorem dL_law_538 : decode cL_law 538 = .ok (.iconst 0, 1) := by decide +kernel
theorem dL_law_539 : decode cL_law 539 = .ok (.ireturn, 1) := by decide +kernel
theorem dL_law_540 : decode cL_law 540 = .ok (.aload_n 1, 1) := by decide +kernel
theorem dL_law_541 : decode cL_law 541 = .ok (.aload_n 0, 1) := by decide +kernel
theorem dL_law_542 : decode cL_law 542 = .ok (.iload_n 3, 1) := by decide +kernel
theorem dL_law_543 : decode cL_law 543 = .ok (.iconst 1, 1) := by decide +kernel
theorem dL_law_544 : decode cL_law 544 = .ok (.iadd, 1) := by decide +kernel
theorem dL_law_545 : decode cL_law 545 = .ok (.iaload, 1) := by decide +kernel
theorem dL_law_546 : decode cL_law 546 = .ok (.aload_n 0, 1) := by decide +kernel
theorem dL_law_547 : decode cL_law 547 = .ok (.iload_n 3, 1) := by decide +kernel
theorem dL_law_548 : decode cL_law 548 = .ok (.iconst 2, 1) := by decide +kernel
theorem dL_law_549 : decode cL_law 549 = .ok (.iadd, 1) := by decide +kernel
theorem dL_law_550 : decode cL_law 550 = .ok (.iaload, 1) := by decide +kernel
theorem dL_law_551 : decode cL_law 551 = .ok (.invokevirtual 69, 3) := by decide +kernel
theorem dL_law_554 : decode cL_law 554 = .ok (.aload_n 2, 1) := by decide +kernel
theorem dL_law_555 : decode cL_law 555 = .ok (.aload_n 0, 1) := by decide +kernel
theorem dL_law_556 : decode cL_law 556 = .ok (.iload_n 3, 1) := by decide +kernel
theorem dL_law_557 : decode cL_law 557 = .ok (.iconst 1, 1) := by decide +kernel
theorem dL_law_558 : decode cL_law 558 = .ok (.iadd, 1) := by decide +kernel
theorem dL_law_559 : decode cL_law 559 = .ok (.iaload, 1) := by decide +kernel
theorem dL_law_560 : decode cL_law 560 = .ok (.aload_n 0, 1) := by decide +kernel
theorem dL_law_561 : decode cL_law 561 = .ok (.iload_n 3, 1) := by decide +kernel
theorem dL_law_562 : decode cL_law 562 = .ok (.iconst 2, 1) := by decide +kernel
theorem dL_law_563 : decode cL_law 563 = .ok (.iadd, 1) := by decide +kernel
theorem dL_law_564 : decode cL_law 564 = .ok (.iaload, 1) := by decide +kernel
theorem dL_law_565 : decode cL_law 565 = .ok (.invokevirtual 72, 3) := by decide +kernel
theorem dL_law_568 : decode cL_law 568 = .ok (.if_icmp .eq 222, 3) := by decide +kernel
theorem dL_law_571 : decode cL_law 571 = .ok (.iconst 0, 1) := by decide +kernel
theorem dL_law_572 : decode cL_law 572 = .ok (.ireturn, 1) := by decide +kernel
theorem dL_law_573 : decode cL_law 573 = .ok (.aload_n 1, 1) := by decide +kernel
theorem dL_law_574 : decode cL_law 574 = .ok (.aload_n 0, 1) := by decide +kernel
theorem dL_law_575 : decode cL_law 575 = .ok (.iload_n 3, 1) := by decide +kernel
theorem dL_law_576 : decode cL_law 576 = .ok (.iconst 1, 1) := by decide +kernel
theorem dL_law_577 : decode cL_law 577 = .ok (.iadd, 1) := by decide +kernel
theorem dL_law_578 : decode cL_law 578 = .ok (.iaload, 1) := by decide +kernel
theorem dL_law_579 : decode cL_law 579 = .ok (.aload_n 0, 1) := by decide +kernel
theorem dL_law_580 : decode cL_law 580 = .ok (.iload_n 3, 1) := by decide +kernel
theorem dL_law_581 : decode cL_law 581 = .ok (.iconst 2, 1) := by decide +kernel
theorem dL_law_582 : decode cL_law 582 = .ok (.iadd, 1) := by decide +kernel
theorem dL_law_583 : decode cL_law 583 = .ok (.iaload, 1) := by decide +kernel
theorem dL_law_584 : decode cL_law 584 = .ok (.aload_n 0, 1) := by decide +kernel
theorem dL_law_585 : decode cL_law 585 = .ok (.iload_n 3, 1) := by decide +kernel
theorem dL_law_586 : decode cL_law 586 = .ok (.iconst 3, 1) := by decide +kernel
theorem dL_law_587 : decode cL_law 587 = .ok (.iadd, 1) := by decide +kernel
theorem dL_law_588 : decode cL_law 588 = .ok (.iaload, 1) := by decide +kernel
theorem dL_law_589 : decode cL_law 589 = .ok (.aload_n 0, 1) := by decide +kernel
theorem dL_law_590 : decode cL_law 590 = .ok (.iload_n 3, 1) := by decide +kernel
theorem dL_law_591 : decode cL_law 591 = .ok (.iconst 4, 1) := by decide +kernel
theorem dL_law_592 : decode cL_law 592 = .ok (.iadd, 1) := by decide +kernel
theorem dL_law_593 : decode cL_law 593 = .ok (.iaload, 1) := by decide +kernel
theorem dL_law_594 : decode cL_law 594 = .ok (.invokevirtual 73, 3) := by decide +kernel
theorem dL_law_597 : decode cL_law 597 = .ok (.aload_n 2, 1) := by decide +kernel
theorem dL_law_598 : decode cL_law 598 = .ok (.aload_n 0, 1) := by decide +kernel
theorem dL_law_599 : decode cL_law 599 = .ok (.iload_n 3, 1) := by decide +kernel
theorem dL_law_600 : decode cL_law 600 = .ok (.iconst 1, 1) := by decide +kernel
theorem dL_law_601 : decode cL_law 601 = .ok (.iadd, 1) := by decide +kernel
theorem dL_law_602 : decode cL_law 602 = .ok (.iaload, 1) := by decide +kernel
theorem dL_law_603 : decode cL_law 603 = .ok (.aload_n 0, 1) := by decide +kernel
theorem dL_law_604 : decode cL_law 604 = .ok (.iload_n 3, 1) := by decide +kernel
theorem dL_law_605 : decode cL_law 605 = .ok (.iconst 2, 1) := by decide +kernel
theorem dL_law_606 : decode cL_law 606 = .ok (.iadd, 1) := by decide +kernel
theorem dL_law_607 : decode cL_law 607 = .ok (.iaload, 1) := by decide +kernel
theorem dL_law_608 : decode cL_law 608 = .ok (.aload_n 0, 1) := by decide +kernel
theorem dL_law_609 : decode cL_law 609 = .ok (.iload_n 3, 1) := by decide +kernel
theorem dL_law_610 : decode cL_law 610 = .ok (.iconst 3, 1) := by decide +kernel
theorem dL_law_611 : decode cL_law 611 = .ok (.iadd, 1) := by decide +kernel
theorem dL_law_612 : decode cL_law 612 = .ok (.iaload, 1) := by decide +kernel
theorem dL_law_613 : decode cL_law 613 = .ok (.aload_n 0, 1) := by decide +kernel
theorem dL_law_614 : decode cL_law 614 = .ok (.iload_n 3, 1) := by decide +kernel
theorem dL_law_615 : decode cL_law 615 = .ok (.iconst 4, 1) := by decide +kernel
theorem dL_law_616 : decode cL_law 616 = .ok (.iadd, 1) := by decide +kernel
theorem dL_law_617 : decode cL_law 617 = .ok (.iaload, 1) := by decide +kernel
theorem dL_law_618 : decode cL_law 618 = .ok (.invokevirtual 77, 3) := by decide +kernel
theorem dL_law_621 : decode cL_law 621 = .ok (.if_icmp .eq 169, 3) := by decide +kernel
theorem dL_law_624 : decode cL_law 624 = .ok (.iconst 0, 1) := by decide +kernel
theorem dL_law_625 : decode cL_law 625 = .ok (.ireturn, 1) := by decide +kernel
theorem dL_law_626 : decode cL_law 626 = .ok (.aload_n 1, 1) := by decide +kernel
theorem dL_law_627 : decode cL_law 627 = .ok (.invokevirtual 78, 3) := by decide +kernel
theorem dL_law_630 : decode cL_law 630 = .ok (.aload_n 2, 1) := by decide +kernel
theorem dL_law_631 : decode cL_law 631 = .ok (.invokevirtual 82, 3) := by decide +kernel
theorem dL_law_634 : decode cL_law 634 = .ok (.if_icmp .eq 156, 3) := by decide +kernel
theorem dL_law_637 : decode cL_law 637 = .ok (.iconst 0, 1) := by decide +kernel
theorem dL_law_638 : decode cL_law 638 = .ok (.ireturn, 1) := by decide +kernel
theorem dL_law_639 : decode cL_law 639 = .ok (.aload_n 1, 1) := by decide +kernel
theorem dL_law_640 : decode cL_law 640 = .ok (.aload_n 0, 1) := by decide +kernel
theorem dL_law_641 : decode cL_law 641 = .ok (.iload_n 3, 1) := by decide +kernel
theorem dL_law_642 : decode cL_law 642 = .ok (.iconst 1, 1) := by decide +kernel
theorem dL_law_643 : decode cL_law 643 = .ok (.iadd, 1) := by decide +kernel
theorem dL_law_644 : decode cL_law 644 = .ok (.iaload, 1) := by decide +kernel
theorem dL_law_645 : decode cL_law 645 = .ok (.i2l, 1) := by decide +kernel
theorem dL_law_646 : decode cL_law 646 = .ok (.bipush 32, 2) := by decide +kernel
theorem dL_law_648 : decode cL_law 648 = .ok (.lshl, 1) := by decide +kernel
theorem dL_law_649 : decode cL_law 649 = .ok (.aload_n 0, 1) := by decide +kernel
theorem dL_law_650 : decode cL_law 650 = .ok (.iload_n 3, 1) := by decide +kernel
theorem dL_law_651 : decode cL_law 651 = .ok (.iconst 2, 1) := by decide +kernel
theorem dL_law_652 : decode cL_law 652 = .ok (.iadd, 1) := by decide +kernel
theorem dL_law_653 : decode cL_law 653 = .ok (.iaload, 1) := by decide +kernel
theorem dL_law_654 : decode cL_law 654 = .ok (.i2l, 1) := by decide +kernel
theorem dL_law_655 : decode cL_law 655 = .ok (.ldc2_w 83, 3) := by decide +kernel
theorem dL_law_658 : decode cL_law 658 = .ok (.land, 1) := by decide +kernel
theorem dL_law_659 : decode cL_law 659 = .ok (.lor, 1) := by decide +kernel
theorem dL_law_660 : decode cL_law 660 = .ok (.invokevirtual 85, 3) := by decide +kernel
theorem dL_law_663 : decode cL_law 663 = .ok (.aload_n 2, 1) := by decide +kernel
theorem dL_law_664 : decode cL_law 664 = .ok (.aload_n 0, 1) := by decide +kernel
theorem dL_law_665 : decode cL_law 665 = .ok (.iload_n 3, 1) := by decide +kernel
theorem dL_law_666 : decode cL_law 666 = .ok (.iconst 1, 1) := by decide +kernel
theorem dL_law_667 : decode cL_law 667 = .ok (.iadd, 1) := by decide +kernel
theorem dL_law_668 : decode cL_law 668 = .ok (.iaload, 1) := by decide +kernel
theorem dL_law_669 : decode cL_law 669 = .ok (.i2l, 1) := by decide +kernel
theorem dL_law_670 : decode cL_law 670 = .ok (.bipush 32, 2) := by decide +kernel
theorem dL_law_672 : decode cL_law 672 = .ok (.lshl, 1) := by decide +kernel
theorem dL_law_673 : decode cL_law 673 = .ok (.aload_n 0, 1) := by decide +kernel
theorem dL_law_674 : decode cL_law 674 = .ok (.iload_n 3, 1) := by decide +kernel
theorem dL_law_675 : decode cL_law 675 = .ok (.iconst 2, 1) := by decide +kernel
theorem dL_law_676 : decode cL_law 676 = .ok (.iadd, 1) := by decide +kernel
theorem dL_law_677 : decode cL_law 677 = .ok (.iaload, 1) := by decide +kernel
theorem dL_law_678 : decode cL_law 678 = .ok (.i2l, 1) := by decide +kernel
theorem dL_law_679 : decode cL_law 679 = .ok (.ldc2_w 83, 3) := by decide +kernel
theorem dL_law_682 : decode cL_law 682 = .ok (.land, 1) := by decide +kernel
theorem dL_law_683 : decode cL_law 683 = .ok (.lor, 1) := by decide +kernel
theorem dL_law_684 : decode cL_law 684 = .ok (.invokevirtual 89, 3) := by decide +kernel
theorem dL_law_687 : decode cL_law 687 = .ok (.if_icmp .eq 103, 3) := by decide +kernel
theorem dL_law_690 : decode cL_law 690 = .ok (.iconst 0, 1) := by decide +kernel
theorem dL_law_691 : decode cL_law 691 = .ok (.ireturn, 1) := by decide +kernel
theorem dL_law_692 : decode cL_law 692 = .ok (.aload_n 1, 1) := by decide +kernel
theorem dL_law_693 : decode cL_law 693 = .ok (.invokevirtual 90, 3) := by decide +kernel
theorem dL_law_696 : decode cL_law 696 = .ok (.aload_n 2, 1) := by decide +kernel
theorem dL_law_697 : decode cL_law 697 = .ok (.invokevirtual 93, 3) := by decide +kernel
theorem dL_law_700 : decode cL_law 700 = .ok (.if_icmp .eq 90, 3) := by decide +kernel
theorem dL_law_703 : decode cL_law 703 = .ok (.iconst 0, 1) := by decide +kernel
theorem dL_law_704 : decode cL_law 704 = .ok (.ireturn, 1) := by decide +kernel
theorem dL_law_705 : decode cL_law 705 = .ok (.aload_n 1, 1) := by decide +kernel
theorem dL_law_706 : decode cL_law 706 = .ok (.invokevirtual 94, 3) := by decide +kernel
theorem dL_law_709 : decode cL_law 709 = .ok (.aload_n 2, 1) := by decide +kernel
theorem dL_law_710 : decode cL_law 710 = .ok (.invokevirtual 97, 3) := by decide +kernel
theorem dL_law_713 : decode cL_law 713 = .ok (.if_icmp .eq 77, 3) := by decide +kernel
theorem dL_law_716 : decode cL_law 716 = .ok (.iconst 0, 1) := by decide +kernel
theorem dL_law_717 : decode cL_law 717 = .ok (.ireturn, 1) := by decide +kernel
theorem dL_law_718 : decode cL_law 718 = .ok (.aload_n 1, 1) := by decide +kernel
theorem dL_law_719 : decode cL_law 719 = .ok (.invokevirtual 98, 3) := by decide +kernel
theorem dL_law_722 : decode cL_law 722 = .ok (.aload_n 2, 1) := by decide +kernel
theorem dL_law_723 : decode cL_law 723 = .ok (.invokevirtual 101, 3) := by decide +kernel
theorem dL_law_726 : decode cL_law 726 = .ok (.if_icmp .eq 64, 3) := by decide +kernel
theorem dL_law_729 : decode cL_law 729 = .ok (.iconst 0, 1) := by decide +kernel
theorem dL_law_730 : decode cL_law 730 = .ok (.ireturn, 1) := by decide +kernel
theorem dL_law_731 : decode cL_law 731 = .ok (.aload_n 1, 1) := by decide +kernel
theorem dL_law_732 : decode cL_law 732 = .ok (.invokevirtual 102, 3) := by decide +kernel
theorem dL_law_735 : decode cL_law 735 = .ok (.aload_n 2, 1) := by decide +kernel
theorem dL_law_736 : decode cL_law 736 = .ok (.invokevirtual 105, 3) := by decide +kernel
theorem dL_law_739 : decode cL_law 739 = .ok (.if_icmp .eq 51, 3) := by decide +kernel
theorem dL_law_742 : decode cL_law 742 = .ok (.iconst 0, 1) := by decide +kernel
theorem dL_law_743 : decode cL_law 743 = .ok (.ireturn, 1) := by decide +kernel
theorem dL_law_744 : decode cL_law 744 = .ok (.aload_n 1, 1) := by decide +kernel
theorem dL_law_745 : decode cL_law 745 = .ok (.aload_n 0, 1) := by decide +kernel
theorem dL_law_746 : decode cL_law 746 = .ok (.iload_n 3, 1) := by decide +kernel
theorem dL_law_747 : decode cL_law 747 = .ok (.iconst 1, 1) := by decide +kernel
theorem dL_law_748 : decode cL_law 748 = .ok (.iadd, 1) := by decide +kernel
theorem dL_law_749 : decode cL_law 749 = .ok (.iaload, 1) := by decide +kernel
theorem dL_law_750 : decode cL_law 750 = .ok (.invokevirtual 106, 3) := by decide +kernel
theorem dL_law_753 : decode cL_law 753 = .ok (.aload_n 2, 1) := by decide +kernel
theorem dL_law_754 : decode cL_law 754 = .ok (.aload_n 0, 1) := by decide +kernel
theorem dL_law_755 : decode cL_law 755 = .ok (.iload_n 3, 1) := by decide +kernel
theorem dL_law_756 : decode cL_law 756 = .ok (.iconst 1, 1) := by decide +kernel
theorem dL_law_757 : decode cL_law 757 = .ok (.iadd, 1) := by decide +kernel
theorem dL_law_758 : decode cL_law 758 = .ok (.iaload, 1) := by decide +kernel
theorem dL_law_759 : decode cL_law 759 = .ok (.invokevirtual 109, 3) := by decide +kernel
theorem dL_law_762 : decode cL_law 762 = .ok (.if_icmp .eq 28, 3) := by decide +kernel
theorem dL_law_765 : decode cL_law 765 = .ok (.iconst 0, 1) := by decide +kernel
theorem dL_law_766 : decode cL_law 766 = .ok (.ireturn, 1) := by decide +kernel
theorem dL_law_767 : decode cL_law 767 = .ok (.aload_n 1, 1) := by decide +kernel
theorem dL_law_768 : decode cL_law 768 = .ok (.aload_n 0, 1) := by decide +kernel
theorem dL_law_769 : decode cL_law 769 = .ok (.iload_n 3, 1) := by decide +kernel
theorem dL_law_770 : decode cL_law 770 = .ok (.iconst 1, 1) := by decide +kernel
theorem dL_law_771 : decode cL_law 771 = .ok (.iadd, 1) := by decide +kernel
theorem dL_law_772 : decode cL_law 772 = .ok (.iaload, 1) := by decide +kernel
theorem dL_law_773 : decode cL_law 773 = .ok (.invokevirtual 110, 3) := by decide +kernel
theorem dL_law_776 : decode cL_law 776 = .ok (.aload_n 2, 1) := by decide +kernel
theorem dL_law_777 : decode cL_law 777 = .ok (.aload_n 0, 1) := by decide +kernel
theorem dL_law_778 : decode cL_law 778 = .ok (.iload_n 3, 1) := by decide +kernel
theorem dL_law_779 : decode cL_law 779 = .ok (.iconst 1, 1) := by decide +kernel
theorem dL_law_780 : decode cL_law 780 = .ok (.iadd, 1) := by decide +kernel
theorem dL_law_781 : decode cL_law 781 = .ok (.iaload, 1) := by decide +kernel
theorem dL_law_782 : decode cL_law 782 = .ok (.invokevirtual 113, 3) := by decide +kernel
theorem dL_law_785 : decode cL_law 785 = .ok (.if_icmp .eq 5, 3) := by decide +kernel
theorem dL_law_788 : decode cL_law 788 = .ok (.iconst 0, 1) := by decide +kernel
theorem dL_law_789 : decode cL_law 789 = .ok (.ireturn, 1) := by decide +kernel
theorem dL_law_790 : decode cL_law 790 = .ok (.iinc 3 6, 3) := by decide +kernel
theorem dL_law_793 : decode cL_law 793 = .ok (.goto (-775), 3) := by decide +kernel
theorem dL_law_796 : decode cL_law 796 = .ok (.iconst 1, 1) := by decide +kernel
theorem dL_law_797 : decode cL_law 797 = .ok (.ireturn, 1) := by decide +kernel
end
section
theorem dX6_init_0 : decode cX6_init 0 = .ok (.aload_n 0, 1) := by decide +kernel
theorem dX6_init_1 : decode cX6_init 1 = .ok (.invokespecial 1, 3) := by decide +kernel
theorem dX6_init_4 : decode cX6_init 4 = .ok (.aload_n 0, 1) := by decide +kernel
theorem dX6_init_5 : decode cX6_init 5 = .ok (.sipush 370, 3) := by decide +kernel
theorem dX6_init_8 : decode cX6_init 8 = .ok (.newarray .int, 2) := by decide +kernel
theorem dX6_init_10 : decode cX6_init 10 = .ok (.putfield 7, 3) := by decide +kernel
theorem dX6_init_13 : decode cX6_init 13 = .ok (.aload_n 0, 1) := by decide +kernel
theorem dX6_init_14 : decode cX6_init 14 = .ok (.sipush 370, 3) := by decide +kernel
theorem dX6_init_17 : decode cX6_init 17 = .ok (.newarray .int, 2) := by decide +kernel
theorem dX6_init_19 : decode cX6_init 19 = .ok (.putfield 13, 3) := by decide +kernel
theorem dX6_init_22 : decode cX6_init 22 = .ok (.aload_n 0, 1) := by decide +kernel
theorem dX6_init_23 : decode cX6_init 23 = .ok (.sipush 2220, 3) := by decide +kernel
theorem dX6_init_26 : decode cX6_init 26 = .ok (.newarray .int, 2) := by decide +kernel
theorem dX6_init_28 : decode cX6_init 28 = .ok (.putfield 16, 3) := by decide +kernel
theorem dX6_init_31 : decode cX6_init 31 = .ok (.aload_n 0, 1) := by decide +kernel
theorem dX6_init_32 : decode cX6_init 32 = .ok (.sipush 740, 3) := by decide +kernel
theorem dX6_init_35 : decode cX6_init 35 = .ok (.newarray .int, 2) := by decide +kernel
theorem dX6_init_37 : decode cX6_init 37 = .ok (.putfield 19, 3) := by decide +kernel
theorem dX6_init_40 : decode cX6_init 40 = .ok (.aload_n 0, 1) := by decide +kernel
theorem dX6_init_41 : decode cX6_init 41 = .ok (.iconst 2, 1) := by decide +kernel
theorem dX6_init_42 : decode cX6_init 42 = .ok (.newarray .int, 2) := by decide +kernel
theorem dX6_init_44 : decode cX6_init 44 = .ok (.putfield 22, 3) := by decide +kernel
theorem dX6_init_47 : decode cX6_init 47 = .ok (.aload_n 0, 1) := by decide +kernel
theorem dX6_init_48 : decode cX6_init 48 = .ok (.bipush 80, 2) := by decide +kernel
theorem dX6_init_50 : decode cX6_init 50 = .ok (.newarray .int, 2) := by decide +kernel
theorem dX6_init_52 : decode cX6_init 52 = .ok (.putfield 25, 3) := by decide +kernel
theorem dX6_init_55 : decode cX6_init 55 = .ok (.aload_n 0, 1) := by decide +kernel
theorem dX6_init_56 : decode cX6_init 56 = .ok (.iconst 5, 1) := by decide +kernel
theorem dX6_init_57 : decode cX6_init 57 = .ok (.newarray .int, 2) := by decide +kernel
theorem dX6_init_59 : decode cX6_init 59 = .ok (.putfield 28, 3) := by decide +kernel
theorem dX6_init_62 : decode cX6_init 62 = .ok (.aload_n 0, 1) := by decide +kernel
theorem dX6_init_63 : decode cX6_init 63 = .ok (.getfield 7, 3) := by decide +kernel
theorem dX6_init_66 : decode cX6_init 66 = .ok (.iconst 0, 1) := by decide +kernel
theorem dX6_init_67 : decode cX6_init 67 = .ok (.bipush 80, 2) := by decide +kernel
theorem dX6_init_69 : decode cX6_init 69 = .ok (.iastore, 1) := by decide +kernel
theorem dX6_init_70 : decode cX6_init 70 = .ok (.aload_n 0, 1) := by decide +kernel
theorem dX6_init_71 : decode cX6_init 71 = .ok (.getfield 7, 3) := by decide +kernel
theorem dX6_init_74 : decode cX6_init 74 = .ok (.iconst 1, 1) := by decide +kernel
theorem dX6_init_75 : decode cX6_init 75 = .ok (.iconst 2, 1) := by decide +kernel
theorem dX6_init_76 : decode cX6_init 76 = .ok (.iastore, 1) := by decide +kernel
theorem dX6_init_77 : decode cX6_init 77 = .ok (.aload_n 0, 1) := by decide +kernel
theorem dX6_init_78 : decode cX6_init 78 = .ok (.getfield 7, 3) := by decide +kernel
theorem dX6_init_81 : decode cX6_init 81 = .ok (.iconst 2, 1) := by decide +kernel
theorem dX6_init_82 : decode cX6_init 82 = .ok (.sipush 500, 3) := by decide +kernel
theorem dX6_init_85 : decode cX6_init 85 = .ok (.iastore, 1) := by decide +kernel
theorem dX6_init_86 : decode cX6_init 86 = .ok (.return_, 1) := by decide +kernel
theorem dX6_moves_0 : decode cX6_moves 0 = .ok (.iconst 0, 1) := by decide +kernel
theorem dX6_moves_1 : decode cX6_moves 1 = .ok (.istore 4, 2) := by decide +kernel
theorem dX6_moves_3 : decode cX6_moves 3 = .ok (.iload 4, 2) := by decide +kernel
theorem dX6_moves_5 : decode cX6_moves 5 = .ok (.sipush 370, 3) := by decide +kernel
theorem dX6_moves_8 : decode cX6_moves 8 = .ok (.if_icmp .ge 21, 3) := by decide +kernel
theorem dX6_moves_11 : decode cX6_moves 11 = .ok (.aload_n 2, 1) := by decide +kernel
theorem dX6_moves_12 : decode cX6_moves 12 = .ok (.iload_n 3, 1) := by decide +kernel
theorem dX6_moves_13 : decode cX6_moves 13 = .ok (.iload 4, 2) := by decide +kernel
theorem dX6_moves_15 : decode cX6_moves 15 = .ok (.iadd, 1) := by decide +kernel
theorem dX6_moves_16 : decode cX6_moves 16 = .ok (.aload_n 0, 1) := by decide +kernel
theorem dX6_moves_17 : decode cX6_moves 17 = .ok (.iload_n 1, 1) := by decide +kernel
theorem dX6_moves_18 : decode cX6_moves 18 = .ok (.iload 4, 2) := by decide +kernel
theorem dX6_moves_20 : decode cX6_moves 20 = .ok (.iadd, 1) := by decide +kernel
theorem dX6_moves_21 : decode cX6_moves 21 = .ok (.iaload, 1) := by decide +kernel
theorem dX6_moves_22 : decode cX6_moves 22 = .ok (.iastore, 1) := by decide +kernel
theorem dX6_moves_23 : decode cX6_moves 23 = .ok (.iinc 4 1, 3) := by decide +kernel
theorem dX6_moves_26 : decode cX6_moves 26 = .ok (.goto (-23), 3) := by decide +kernel
theorem dX6_moves_29 : decode cX6_moves 29 = .ok (.return_, 1) := by decide +kernel
theorem dX6_within_0 : decode cX6_within 0 = .ok (.iload_n 0, 1) := by decide +kernel
theorem dX6_within_1 : decode cX6_within 1 = .ok (.iload_n 1, 1) := by decide +kernel
theorem dX6_within_2 : decode cX6_within 2 = .ok (.if_icmp .lt 12, 3) := by decide +kernel
theorem dX6_within_5 : decode cX6_within 5 = .ok (.iload_n 0, 1) := by decide +kernel
theorem dX6_within_6 : decode cX6_within 6 = .ok (.iload_n 2, 1) := by decide +kernel
theorem dX6_within_7 : decode cX6_within 7 = .ok (.if_icmp .gt 7, 3) := by decide +kernel
theorem dX6_within_10 : decode cX6_within 10 = .ok (.iconst 1, 1) := by decide +kernel
theorem dX6_within_11 : decode cX6_within 11 = .ok (.goto 4, 3) := by decide +kernel
theorem dX6_within_14 : decode cX6_within 14 = .ok (.iconst 0, 1) := by decide +kernel
theorem dX6_within_15 : decode cX6_within 15 = .ok (.ireturn, 1) := by decide +kernel
theorem dX6_size_0 : decode cX6_size 0 = .ok (.iload_n 0, 1) := by decide +kernel
theorem dX6_size_1 : decode cX6_size 1 = .ok (.ifCond .ge 8, 3) := by decide +kernel
theorem dX6_size_4 : decode cX6_size 4 = .ok (.iload_n 0, 1) := by decide +kernel
theorem dX6_size_5 : decode cX6_size 5 = .ok (.ineg, 1) := by decide +kernel
theorem dX6_size_6 : decode cX6_size 6 = .ok (.goto 4, 3) := by decide +kernel
theorem dX6_size_9 : decode cX6_size 9 = .ok (.iload_n 0, 1) := by decide +kernel
theorem dX6_size_10 : decode cX6_size 10 = .ok (.ireturn, 1) := by decide +kernel
theorem dX6_bounded_0 : decode cX6_bounded 0 = .ok (.iload_n 0, 1) := by decide +kernel
theorem dX6_bounded_1 : decode cX6_bounded 1 = .ok (.sipush (-9999), 3) := by decide +kernel
theorem dX6_bounded_4 : decode cX6_bounded 4 = .ok (.if_icmp .ge 9, 3) := by decide +kernel
theorem dX6_bounded_7 : decode cX6_bounded 7 = .ok (.sipush (-9999), 3) := by decide +kernel
theorem dX6_bounded_10 : decode cX6_bounded 10 = .ok (.goto 17, 3) := by decide +kernel
theorem dX6_bounded_13 : decode cX6_bounded 13 = .ok (.iload_n 0, 1) := by decide +kernel
theorem dX6_bounded_14 : decode cX6_bounded 14 = .ok (.sipush 9999, 3) := by decide +kernel
theorem dX6_bounded_17 : decode cX6_bounded 17 = .ok (.if_icmp .le 9, 3) := by decide +kernel
theorem dX6_bounded_20 : decode cX6_bounded 20 = .ok (.sipush 9999, 3) := by decide +kernel
theorem dX6_bounded_23 : decode cX6_bounded 23 = .ok (.goto 4, 3) := by decide +kernel
theorem dX6_bounded_26 : decode cX6_bounded 26 = .ok (.iload_n 0, 1) := by decide +kernel
theorem dX6_bounded_27 : decode cX6_bounded 27 = .ok (.ireturn, 1) := by decide +kernel
theorem dX6_record_0 : decode cX6_record 0 = .ok (.aload_n 0, 1) := by decide +kernel
theorem dX6_record_1 : decode cX6_record 1 = .ok (.getfield 31, 3) := by decide +kernel
theorem dX6_record_4 : decode cX6_record 4 = .ok (.bipush 6, 2) := by decide +kernel
theorem dX6_record_6 : decode cX6_record 6 = .ok (.if_icmp .ne 44, 3) := by decide +kernel
theorem dX6_record_9 : decode cX6_record 9 = .ok (.iconst 0, 1) := by decide +kernel
theorem dX6_record_10 : decode cX6_record 10 = .ok (.istore_n 1, 1) := by decide +kernel
theorem dX6_record_11 : decode cX6_record 11 = .ok (.iload_n 1, 1) := by decide +kernel
theorem dX6_record_12 : decode cX6_record 12 = .ok (.sipush 1850, 3) := by decide +kernel
theorem dX6_record_15 : decode cX6_record 15 = .ok (.if_icmp .ge 25, 3) := by decide +kernel
theorem dX6_record_18 : decode cX6_record 18 = .ok (.aload_n 0, 1) := by decide +kernel
theorem dX6_record_19 : decode cX6_record 19 = .ok (.getfield 16, 3) := by decide +kernel
theorem dX6_record_22 : decode cX6_record 22 = .ok (.iload_n 1, 1) := by decide +kernel
theorem dX6_record_23 : decode cX6_record 23 = .ok (.aload_n 0, 1) := by decide +kernel
theorem dX6_record_24 : decode cX6_record 24 = .ok (.getfield 16, 3) := by decide +kernel
theorem dX6_record_27 : decode cX6_record 27 = .ok (.iload_n 1, 1) := by decide +kernel
theorem dX6_record_28 : decode cX6_record 28 = .ok (.sipush 370, 3) := by decide +kernel
theorem dX6_record_31 : decode cX6_record 31 = .ok (.iadd, 1) := by decide +kernel
theorem dX6_record_32 : decode cX6_record 32 = .ok (.iaload, 1) := by decide +kernel
theorem dX6_record_33 : decode cX6_record 33 = .ok (.iastore, 1) := by decide +kernel
theorem dX6_record_34 : decode cX6_record 34 = .ok (.iinc 1 1, 3) := by decide +kernel
theorem dX6_record_37 : decode cX6_record 37 = .ok (.goto (-26), 3) := by decide +kernel
theorem dX6_record_40 : decode cX6_record 40 = .ok (.aload_n 0, 1) := by decide +kernel
theorem dX6_record_41 : decode cX6_record 41 = .ok (.dup, 1) := by decide +kernel
theorem dX6_record_42 : decode cX6_record 42 = .ok (.getfield 31, 3) := by decide +kernel
theorem dX6_record_45 : decode cX6_record 45 = .ok (.iconst 1, 1) := by decide +kernel
theorem dX6_record_46 : decode cX6_record 46 = .ok (.isub, 1) := by decide +kernel
theorem dX6_record_47 : decode cX6_record 47 = .ok (.putfield 31, 3) := by decide +kernel
theorem dX6_record_50 : decode cX6_record 50 = .ok (.aload_n 0, 1) := by decide +kernel
theorem dX6_record_51 : decode cX6_record 51 = .ok (.getfield 7, 3) := by decide +kernel
theorem dX6_record_54 : decode cX6_record 54 = .ok (.iconst 0, 1) := by decide +kernel
theorem dX6_record_55 : decode cX6_record 55 = .ok (.aload_n 0, 1) := by decide +kernel
theorem dX6_record_56 : decode cX6_record 56 = .ok (.getfield 16, 3) := by decide +kernel
theorem dX6_record_59 : decode cX6_record 59 = .ok (.aload_n 0, 1) := by decide +kernel
theorem dX6_record_60 : decode cX6_record 60 = .ok (.getfield 31, 3) := by decide +kernel
theorem dX6_record_63 : decode cX6_record 63 = .ok (.sipush 370, 3) := by decide +kernel
theorem dX6_record_66 : decode cX6_record 66 = .ok (.imul, 1) := by decide +kernel
theorem dX6_record_67 : decode cX6_record 67 = .ok (.invokestatic 35, 3) := by decide +kernel
theorem dX6_record_70 : decode cX6_record 70 = .ok (.aload_n 0, 1) := by decide +kernel
theorem dX6_record_71 : decode cX6_record 71 = .ok (.dup, 1) := by decide +kernel
theorem dX6_record_72 : decode cX6_record 72 = .ok (.getfield 31, 3) := by decide +kernel
theorem dX6_record_75 : decode cX6_record 75 = .ok (.iconst 1, 1) := by decide +kernel
theorem dX6_record_76 : decode cX6_record 76 = .ok (.iadd, 1) := by decide +kernel
theorem dX6_record_77 : decode cX6_record 77 = .ok (.putfield 31, 3) := by decide +kernel
theorem dX6_record_80 : decode cX6_record 80 = .ok (.return_, 1) := by decide +kernel
theorem dX6_isCell_0 : decode cX6_isCell 0 = .ok (.iload_n 0, 1) := by decide +kernel
theorem dX6_isCell_1 : decode cX6_isCell 1 = .ok (.iconst 0, 1) := by decide +kernel
theorem dX6_isCell_2 : decode cX6_isCell 2 = .ok (.bipush 39, 2) := by decide +kernel
theorem dX6_isCell_4 : decode cX6_isCell 4 = .ok (.invokestatic 39, 3) := by decide +kernel
theorem dX6_isCell_7 : decode cX6_isCell 7 = .ok (.ireturn, 1) := by decide +kernel
theorem dX6_levelOf_0 : decode cX6_levelOf 0 = .ok (.aload_n 0, 1) := by decide +kernel
theorem dX6_levelOf_1 : decode cX6_levelOf 1 = .ok (.getfield 7, 3) := by decide +kernel
theorem dX6_levelOf_4 : decode cX6_levelOf 4 = .ok (.bipush 6, 2) := by decide +kernel
theorem dX6_levelOf_6 : decode cX6_levelOf 6 = .ok (.iload_n 1, 1) := by decide +kernel
theorem dX6_levelOf_7 : decode cX6_levelOf 7 = .ok (.iadd, 1) := by decide +kernel
theorem dX6_levelOf_8 : decode cX6_levelOf 8 = .ok (.iaload, 1) := by decide +kernel
theorem dX6_levelOf_9 : decode cX6_levelOf 9 = .ok (.ireturn, 1) := by decide +kernel
theorem dX6_paddlePart_0 : decode cX6_paddlePart 0 = .ok (.aload_n 0, 1) := by decide +kernel
theorem dX6_paddlePart_1 : decode cX6_paddlePart 1 = .ok (.getfield 7, 3) := by decide +kernel
theorem dX6_paddlePart_4 : decode cX6_paddlePart 4 = .ok (.bipush 86, 2) := by decide +kernel
theorem dX6_paddlePart_6 : decode cX6_paddlePart 6 = .ok (.bipush 6, 2) := by decide +kernel
theorem dX6_paddlePart_8 : decode cX6_paddlePart 8 = .ok (.iload_n 1, 1) := by decide +kernel
theorem dX6_paddlePart_9 : decode cX6_paddlePart 9 = .ok (.imul, 1) := by decide +kernel
theorem dX6_paddlePart_10 : decode cX6_paddlePart 10 = .ok (.iadd, 1) := by decide +kernel
theorem dX6_paddlePart_11 : decode cX6_paddlePart 11 = .ok (.iload_n 2, 1) := by decide +kernel
theorem dX6_paddlePart_12 : decode cX6_paddlePart 12 = .ok (.iadd, 1) := by decide +kernel
theorem dX6_paddlePart_13 : decode cX6_paddlePart 13 = .ok (.iaload, 1) := by decide +kernel
theorem dX6_paddlePart_14 : decode cX6_paddlePart 14 = .ok (.ireturn, 1) := by decide +kernel
theorem dX6_setPaddle_0 : decode cX6_setPaddle 0 = .ok (.aload_n 0, 1) := by decide +kernel
theorem dX6_setPaddle_1 : decode cX6_setPaddle 1 = .ok (.getfield 7, 3) := by decide +kernel
theorem dX6_setPaddle_4 : decode cX6_setPaddle 4 = .ok (.bipush 86, 2) := by decide +kernel
theorem dX6_setPaddle_6 : decode cX6_setPaddle 6 = .ok (.bipush 6, 2) := by decide +kernel
theorem dX6_setPaddle_8 : decode cX6_setPaddle 8 = .ok (.iload_n 1, 1) := by decide +kernel
theorem dX6_setPaddle_9 : decode cX6_setPaddle 9 = .ok (.imul, 1) := by decide +kernel
theorem dX6_setPaddle_10 : decode cX6_setPaddle 10 = .ok (.iadd, 1) := by decide +kernel
theorem dX6_setPaddle_11 : decode cX6_setPaddle 11 = .ok (.iload_n 2, 1) := by decide +kernel
theorem dX6_setPaddle_12 : decode cX6_setPaddle 12 = .ok (.iadd, 1) := by decide +kernel
theorem dX6_setPaddle_13 : decode cX6_setPaddle 13 = .ok (.iload_n 3, 1) := by decide +kernel
theorem dX6_setPaddle_14 : decode cX6_setPaddle 14 = .ok (.iastore, 1) := by decide +kernel
theorem dX6_setPaddle_15 : decode cX6_setPaddle 15 = .ok (.return_, 1) := by decide +kernel
theorem dX6_rankIn_0 : decode cX6_rankIn 0 = .ok (.bipush (-6), 2) := by decide +kernel
theorem dX6_rankIn_2 : decode cX6_rankIn 2 = .ok (.istore_n 2, 1) := by decide +kernel
theorem dX6_rankIn_3 : decode cX6_rankIn 3 = .ok (.iconst 0, 1) := by decide +kernel
theorem dX6_rankIn_4 : decode cX6_rankIn 4 = .ok (.istore_n 3, 1) := by decide +kernel
theorem dX6_rankIn_5 : decode cX6_rankIn 5 = .ok (.iload_n 3, 1) := by decide +kernel
theorem dX6_rankIn_6 : decode cX6_rankIn 6 = .ok (.aload_n 0, 1) := by decide +kernel
theorem dX6_rankIn_7 : decode cX6_rankIn 7 = .ok (.getfield 7, 3) := by decide +kernel
theorem dX6_rankIn_10 : decode cX6_rankIn 10 = .ok (.iconst 4, 1) := by decide +kernel
theorem dX6_rankIn_11 : decode cX6_rankIn 11 = .ok (.iaload, 1) := by decide +kernel
theorem dX6_rankIn_12 : decode cX6_rankIn 12 = .ok (.if_icmp .ge 25, 3) := by decide +kernel
theorem dX6_rankIn_15 : decode cX6_rankIn 15 = .ok (.aload_n 0, 1) := by decide +kernel
theorem dX6_rankIn_16 : decode cX6_rankIn 16 = .ok (.iload_n 3, 1) := by decide +kernel
theorem dX6_rankIn_17 : decode cX6_rankIn 17 = .ok (.iconst 0, 1) := by decide +kernel
theorem dX6_rankIn_18 : decode cX6_rankIn 18 = .ok (.invokevirtual 43, 3) := by decide +kernel
theorem dX6_rankIn_21 : decode cX6_rankIn 21 = .ok (.iload_n 1, 1) := by decide +kernel
theorem dX6_rankIn_22 : decode cX6_rankIn 22 = .ok (.if_icmp .ne 7, 3) := by decide +kernel
theorem dX6_rankIn_25 : decode cX6_rankIn 25 = .ok (.iload_n 3, 1) := by decide +kernel
theorem dX6_rankIn_26 : decode cX6_rankIn 26 = .ok (.goto 4, 3) := by decide +kernel
theorem dX6_rankIn_29 : decode cX6_rankIn 29 = .ok (.iload_n 2, 1) := by decide +kernel
theorem dX6_rankIn_30 : decode cX6_rankIn 30 = .ok (.istore_n 2, 1) := by decide +kernel
theorem dX6_rankIn_31 : decode cX6_rankIn 31 = .ok (.iinc 3 1, 3) := by decide +kernel
theorem dX6_rankIn_34 : decode cX6_rankIn 34 = .ok (.goto (-29), 3) := by decide +kernel
theorem dX6_rankIn_37 : decode cX6_rankIn 37 = .ok (.iload_n 2, 1) := by decide +kernel
theorem dX6_rankIn_38 : decode cX6_rankIn 38 = .ok (.ireturn, 1) := by decide +kernel
theorem dX6_gaugePart_0 : decode cX6_gaugePart 0 = .ok (.aload_n 0, 1) := by decide +kernel
theorem dX6_gaugePart_1 : decode cX6_gaugePart 1 = .ok (.getfield 7, 3) := by decide +kernel
theorem dX6_gaugePart_4 : decode cX6_gaugePart 4 = .ok (.bipush 122, 2) := by decide +kernel
theorem dX6_gaugePart_6 : decode cX6_gaugePart 6 = .ok (.bipush 62, 2) := by decide +kernel
theorem dX6_gaugePart_8 : decode cX6_gaugePart 8 = .ok (.iload_n 1, 1) := by decide +kernel
theorem dX6_gaugePart_9 : decode cX6_gaugePart 9 = .ok (.imul, 1) := by decide +kernel
theorem dX6_gaugePart_10 : decode cX6_gaugePart 10 = .ok (.iadd, 1) := by decide +kernel
theorem dX6_gaugePart_11 : decode cX6_gaugePart 11 = .ok (.iload_n 2, 1) := by decide +kernel
theorem dX6_gaugePart_12 : decode cX6_gaugePart 12 = .ok (.iadd, 1) := by decide +kernel
theorem dX6_gaugePart_13 : decode cX6_gaugePart 13 = .ok (.iaload, 1) := by decide +kernel
theorem dX6_gaugePart_14 : decode cX6_gaugePart 14 = .ok (.ireturn, 1) := by decide +kernel
theorem dX6_push_0 : decode cX6_push 0 = .ok (.aload_n 0, 1) := by decide +kernel
theorem dX6_push_1 : decode cX6_push 1 = .ok (.iload_n 1, 1) := by decide +kernel
theorem dX6_push_2 : decode cX6_push 2 = .ok (.iconst 2, 1) := by decide +kernel
theorem dX6_push_3 : decode cX6_push 3 = .ok (.invokevirtual 43, 3) := by decide +kernel
theorem dX6_push_6 : decode cX6_push 6 = .ok (.istore_n 2, 1) := by decide +kernel
theorem dX6_push_7 : decode cX6_push 7 = .ok (.aload_n 0, 1) := by decide +kernel
theorem dX6_push_8 : decode cX6_push 8 = .ok (.iload_n 1, 1) := by decide +kernel
theorem dX6_push_9 : decode cX6_push 9 = .ok (.iconst 3, 1) := by decide +kernel
theorem dX6_push_10 : decode cX6_push 10 = .ok (.invokevirtual 43, 3) := by decide +kernel
theorem dX6_push_13 : decode cX6_push 13 = .ok (.istore_n 3, 1) := by decide +kernel
theorem dX6_push_14 : decode cX6_push 14 = .ok (.aload_n 0, 1) := by decide +kernel
theorem dX6_push_15 : decode cX6_push 15 = .ok (.getfield 7, 3) := by decide +kernel
theorem dX6_push_18 : decode cX6_push 18 = .ok (.iconst 3, 1) := by decide +kernel
theorem dX6_push_19 : decode cX6_push 19 = .ok (.iaload, 1) := by decide +kernel
theorem dX6_push_20 : decode cX6_push 20 = .ok (.aload_n 0, 1) := by decide +kernel
theorem dX6_push_21 : decode cX6_push 21 = .ok (.iload_n 1, 1) := by decide +kernel
theorem dX6_push_22 : decode cX6_push 22 = .ok (.iconst 4, 1) := by decide +kernel
theorem dX6_push_23 : decode cX6_push 23 = .ok (.invokevirtual 43, 3) := by decide +kernel
theorem dX6_push_26 : decode cX6_push 26 = .ok (.iadd, 1) := by decide +kernel
theorem dX6_push_27 : decode cX6_push 27 = .ok (.iload_n 3, 1) := by decide +kernel
theorem dX6_push_28 : decode cX6_push 28 = .ok (.irem, 1) := by decide +kernel
theorem dX6_push_29 : decode cX6_push 29 = .ok (.istore 4, 2) := by decide +kernel
theorem dX6_push_31 : decode cX6_push 31 = .ok (.iload 4, 2) := by decide +kernel
theorem dX6_push_33 : decode cX6_push 33 = .ok (.iload_n 3, 1) := by decide +kernel
theorem dX6_push_34 : decode cX6_push 34 = .ok (.iload 4, 2) := by decide +kernel
theorem dX6_push_36 : decode cX6_push 36 = .ok (.isub, 1) := by decide +kernel
theorem dX6_push_37 : decode cX6_push 37 = .ok (.if_icmp .ge 8, 3) := by decide +kernel
theorem dX6_push_40 : decode cX6_push 40 = .ok (.iload 4, 2) := by decide +kernel
theorem dX6_push_42 : decode cX6_push 42 = .ok (.goto 7, 3) := by decide +kernel
theorem dX6_push_45 : decode cX6_push 45 = .ok (.iload_n 3, 1) := by decide +kernel
theorem dX6_push_46 : decode cX6_push 46 = .ok (.iload 4, 2) := by decide +kernel
theorem dX6_push_48 : decode cX6_push 48 = .ok (.isub, 1) := by decide +kernel
theorem dX6_push_49 : decode cX6_push 49 = .ok (.istore 5, 2) := by decide +kernel
theorem dX6_push_51 : decode cX6_push 51 = .ok (.aload_n 0, 1) := by decide +kernel
theorem dX6_push_52 : decode cX6_push 52 = .ok (.iload_n 1, 1) := by decide +kernel
theorem dX6_push_53 : decode cX6_push 53 = .ok (.iconst 1, 1) := by decide +kernel
theorem dX6_push_54 : decode cX6_push 54 = .ok (.invokevirtual 43, 3) := by decide +kernel
theorem dX6_push_57 : decode cX6_push 57 = .ok (.tableswitch 55 0 2 #[27, 29, 40], 27) := by decide +kernel
theorem dX6_push_84 : decode cX6_push 84 = .ok (.iload_n 2, 1) := by decide +kernel
theorem dX6_push_85 : decode cX6_push 85 = .ok (.ireturn, 1) := by decide +kernel
theorem dX6_push_86 : decode cX6_push 86 = .ok (.iload_n 2, 1) := by decide +kernel
theorem dX6_push_87 : decode cX6_push 87 = .ok (.iconst 2, 1) := by decide +kernel
theorem dX6_push_88 : decode cX6_push 88 = .ok (.iload 4, 2) := by decide +kernel
theorem dX6_push_90 : decode cX6_push 90 = .ok (.imul, 1) := by decide +kernel
theorem dX6_push_91 : decode cX6_push 91 = .ok (.iload_n 3, 1) := by decide +kernel
theorem dX6_push_92 : decode cX6_push 92 = .ok (.isub, 1) := by decide +kernel
theorem dX6_push_93 : decode cX6_push 93 = .ok (.imul, 1) := by decide +kernel
theorem dX6_push_94 : decode cX6_push 94 = .ok (.iload_n 3, 1) := by decide +kernel
theorem dX6_push_95 : decode cX6_push 95 = .ok (.idiv, 1) := by decide +kernel
theorem dX6_push_96 : decode cX6_push 96 = .ok (.ireturn, 1) := by decide +kernel
theorem dX6_push_97 : decode cX6_push 97 = .ok (.iconst 2, 1) := by decide +kernel
theorem dX6_push_98 : decode cX6_push 98 = .ok (.iload 4, 2) := by decide +kernel
theorem dX6_push_100 : decode cX6_push 100 = .ok (.imul, 1) := by decide +kernel
theorem dX6_push_101 : decode cX6_push 101 = .ok (.iload_n 3, 1) := by decide +kernel
theorem dX6_push_102 : decode cX6_push 102 = .ok (.if_icmp .ge 7, 3) := by decide +kernel
theorem dX6_push_105 : decode cX6_push 105 = .ok (.iload_n 2, 1) := by decide +kernel
theorem dX6_push_106 : decode cX6_push 106 = .ok (.goto 5, 3) := by decide +kernel
theorem dX6_push_109 : decode cX6_push 109 = .ok (.iload_n 2, 1) := by decide +kernel
theorem dX6_push_110 : decode cX6_push 110 = .ok (.ineg, 1) := by decide +kernel
theorem dX6_push_111 : decode cX6_push 111 = .ok (.ireturn, 1) := by decide +kernel
theorem dX6_push_112 : decode cX6_push 112 = .ok (.iload_n 2, 1) := by decide +kernel
theorem dX6_push_113 : decode cX6_push 113 = .ok (.iconst 4, 1) := by decide +kernel
theorem dX6_push_114 : decode cX6_push 114 = .ok (.iload 5, 2) := by decide +kernel
theorem dX6_push_116 : decode cX6_push 116 = .ok (.imul, 1) := by decide +kernel
theorem dX6_push_117 : decode cX6_push 117 = .ok (.iload_n 3, 1) := by decide +kernel
theorem dX6_push_118 : decode cX6_push 118 = .ok (.isub, 1) := by decide +kernel
theorem dX6_push_119 : decode cX6_push 119 = .ok (.imul, 1) := by decide +kernel
theorem dX6_push_120 : decode cX6_push 120 = .ok (.iload_n 3, 1) := by decide +kernel
theorem dX6_push_121 : decode cX6_push 121 = .ok (.idiv, 1) := by decide +kernel
theorem dX6_push_122 : decode cX6_push 122 = .ok (.ireturn, 1) := by decide +kernel
theorem dX6_pushAll_0 : decode cX6_pushAll 0 = .ok (.iconst 0, 1) := by decide +kernel
theorem dX6_pushAll_1 : decode cX6_pushAll 1 = .ok (.istore_n 1, 1) := by decide +kernel
theorem dX6_pushAll_2 : decode cX6_pushAll 2 = .ok (.iconst 0, 1) := by decide +kernel
theorem dX6_pushAll_3 : decode cX6_pushAll 3 = .ok (.istore_n 2, 1) := by decide +kernel
theorem dX6_pushAll_4 : decode cX6_pushAll 4 = .ok (.iload_n 2, 1) := by decide +kernel
theorem dX6_pushAll_5 : decode cX6_pushAll 5 = .ok (.aload_n 0, 1) := by decide +kernel
theorem dX6_pushAll_6 : decode cX6_pushAll 6 = .ok (.getfield 7, 3) := by decide +kernel
theorem dX6_pushAll_9 : decode cX6_pushAll 9 = .ok (.iconst 4, 1) := by decide +kernel
theorem dX6_pushAll_10 : decode cX6_pushAll 10 = .ok (.iaload, 1) := by decide +kernel
theorem dX6_pushAll_11 : decode cX6_pushAll 11 = .ok (.if_icmp .ge 106, 3) := by decide +kernel
theorem dX6_pushAll_14 : decode cX6_pushAll 14 = .ok (.aload_n 0, 1) := by decide +kernel
theorem dX6_pushAll_15 : decode cX6_pushAll 15 = .ok (.iload_n 2, 1) := by decide +kernel
theorem dX6_pushAll_16 : decode cX6_pushAll 16 = .ok (.iconst 0, 1) := by decide +kernel
theorem dX6_pushAll_17 : decode cX6_pushAll 17 = .ok (.invokevirtual 43, 3) := by decide +kernel
theorem dX6_pushAll_20 : decode cX6_pushAll 20 = .ok (.istore_n 3, 1) := by decide +kernel
theorem dX6_pushAll_21 : decode cX6_pushAll 21 = .ok (.aload_n 0, 1) := by decide +kernel
theorem dX6_pushAll_22 : decode cX6_pushAll 22 = .ok (.iload_n 2, 1) := by decide +kernel
theorem dX6_pushAll_23 : decode cX6_pushAll 23 = .ok (.iconst 5, 1) := by decide +kernel
theorem dX6_pushAll_24 : decode cX6_pushAll 24 = .ok (.invokevirtual 43, 3) := by decide +kernel
theorem dX6_pushAll_27 : decode cX6_pushAll 27 = .ok (.iconst 1, 1) := by decide +kernel
theorem dX6_pushAll_28 : decode cX6_pushAll 28 = .ok (.if_icmp .ne 83, 3) := by decide +kernel
theorem dX6_pushAll_31 : decode cX6_pushAll 31 = .ok (.aload_n 0, 1) := by decide +kernel
theorem dX6_pushAll_32 : decode cX6_pushAll 32 = .ok (.iload_n 3, 1) := by decide +kernel
theorem dX6_pushAll_33 : decode cX6_pushAll 33 = .ok (.invokevirtual 47, 3) := by decide +kernel
theorem dX6_pushAll_36 : decode cX6_pushAll 36 = .ok (.invokestatic 51, 3) := by decide +kernel
theorem dX6_pushAll_39 : decode cX6_pushAll 39 = .ok (.aload_n 0, 1) := by decide +kernel
theorem dX6_pushAll_40 : decode cX6_pushAll 40 = .ok (.getfield 7, 3) := by decide +kernel
theorem dX6_pushAll_43 : decode cX6_pushAll 43 = .ok (.iconst 2, 1) := by decide +kernel
theorem dX6_pushAll_44 : decode cX6_pushAll 44 = .ok (.iaload, 1) := by decide +kernel
theorem dX6_pushAll_45 : decode cX6_pushAll 45 = .ok (.if_icmp .le 7, 3) := by decide +kernel
theorem dX6_pushAll_48 : decode cX6_pushAll 48 = .ok (.iconst 1, 1) := by decide +kernel
theorem dX6_pushAll_49 : decode cX6_pushAll 49 = .ok (.goto 4, 3) := by decide +kernel
theorem dX6_pushAll_52 : decode cX6_pushAll 52 = .ok (.iconst 0, 1) := by decide +kernel
theorem dX6_pushAll_53 : decode cX6_pushAll 53 = .ok (.istore 4, 2) := by decide +kernel
theorem dX6_pushAll_55 : decode cX6_pushAll 55 = .ok (.iload_n 1, 1) := by decide +kernel
theorem dX6_pushAll_56 : decode cX6_pushAll 56 = .ok (.iload 4, 2) := by decide +kernel
theorem dX6_pushAll_58 : decode cX6_pushAll 58 = .ok (.ifCond .eq 7, 3) := by decide +kernel
theorem dX6_pushAll_61 : decode cX6_pushAll 61 = .ok (.iconst 1, 1) := by decide +kernel
theorem dX6_pushAll_62 : decode cX6_pushAll 62 = .ok (.goto 4, 3) := by decide +kernel
theorem dX6_pushAll_65 : decode cX6_pushAll 65 = .ok (.iconst 0, 1) := by decide +kernel
theorem dX6_pushAll_66 : decode cX6_pushAll 66 = .ok (.iadd, 1) := by decide +kernel
theorem dX6_pushAll_67 : decode cX6_pushAll 67 = .ok (.istore_n 1, 1) := by decide +kernel
theorem dX6_pushAll_68 : decode cX6_pushAll 68 = .ok (.aload_n 0, 1) := by decide +kernel
theorem dX6_pushAll_69 : decode cX6_pushAll 69 = .ok (.iload_n 2, 1) := by decide +kernel
theorem dX6_pushAll_70 : decode cX6_pushAll 70 = .ok (.iconst 5, 1) := by decide +kernel
theorem dX6_pushAll_71 : decode cX6_pushAll 71 = .ok (.iload 4, 2) := by decide +kernel
theorem dX6_pushAll_73 : decode cX6_pushAll 73 = .ok (.ifCond .eq 7, 3) := by decide +kernel
theorem dX6_pushAll_76 : decode cX6_pushAll 76 = .ok (.iconst 0, 1) := by decide +kernel
theorem dX6_pushAll_77 : decode cX6_pushAll 77 = .ok (.goto 4, 3) := by decide +kernel
theorem dX6_pushAll_80 : decode cX6_pushAll 80 = .ok (.iconst 1, 1) := by decide +kernel
theorem dX6_pushAll_81 : decode cX6_pushAll 81 = .ok (.invokevirtual 54, 3) := by decide +kernel
theorem dX6_pushAll_84 : decode cX6_pushAll 84 = .ok (.aload_n 0, 1) := by decide +kernel
theorem dX6_pushAll_85 : decode cX6_pushAll 85 = .ok (.getfield 7, 3) := by decide +kernel
theorem dX6_pushAll_88 : decode cX6_pushAll 88 = .ok (.bipush 6, 2) := by decide +kernel
theorem dX6_pushAll_90 : decode cX6_pushAll 90 = .ok (.iload_n 3, 1) := by decide +kernel
theorem dX6_pushAll_91 : decode cX6_pushAll 91 = .ok (.iadd, 1) := by decide +kernel
theorem dX6_pushAll_92 : decode cX6_pushAll 92 = .ok (.iload 4, 2) := by decide +kernel
theorem dX6_pushAll_94 : decode cX6_pushAll 94 = .ok (.ifCond .eq 11, 3) := by decide +kernel
theorem dX6_pushAll_97 : decode cX6_pushAll 97 = .ok (.aload_n 0, 1) := by decide +kernel
theorem dX6_pushAll_98 : decode cX6_pushAll 98 = .ok (.iload_n 3, 1) := by decide +kernel
theorem dX6_pushAll_99 : decode cX6_pushAll 99 = .ok (.invokevirtual 47, 3) := by decide +kernel
theorem dX6_pushAll_102 : decode cX6_pushAll 102 = .ok (.goto 8, 3) := by decide +kernel
theorem dX6_pushAll_105 : decode cX6_pushAll 105 = .ok (.aload_n 0, 1) := by decide +kernel
theorem dX6_pushAll_106 : decode cX6_pushAll 106 = .ok (.iload_n 2, 1) := by decide +kernel
theorem dX6_pushAll_107 : decode cX6_pushAll 107 = .ok (.invokevirtual 58, 3) := by decide +kernel
theorem dX6_pushAll_110 : decode cX6_pushAll 110 = .ok (.iastore, 1) := by decide +kernel
theorem dX6_pushAll_111 : decode cX6_pushAll 111 = .ok (.iinc 2 1, 3) := by decide +kernel
theorem dX6_pushAll_114 : decode cX6_pushAll 114 = .ok (.goto (-110), 3) := by decide +kernel
theorem dX6_pushAll_117 : decode cX6_pushAll 117 = .ok (.iload_n 1, 1) := by decide +kernel
theorem dX6_pushAll_118 : decode cX6_pushAll 118 = .ok (.ireturn, 1) := by decide +kernel
theorem dX6_swing_0 : decode cX6_swing 0 = .ok (.iconst 0, 1) := by decide +kernel
theorem dX6_swing_1 : decode cX6_swing 1 = .ok (.istore_n 1, 1) := by decide +kernel
theorem dX6_swing_2 : decode cX6_swing 2 = .ok (.iload_n 1, 1) := by decide +kernel
theorem dX6_swing_3 : decode cX6_swing 3 = .ok (.bipush 40, 2) := by decide +kernel
theorem dX6_swing_5 : decode cX6_swing 5 = .ok (.if_icmp .ge 95, 3) := by decide +kernel
theorem dX6_swing_8 : decode cX6_swing 8 = .ok (.aload_n 0, 1) := by decide +kernel
theorem dX6_swing_9 : decode cX6_swing 9 = .ok (.iload_n 1, 1) := by decide +kernel
theorem dX6_swing_10 : decode cX6_swing 10 = .ok (.ifCond .ne 7, 3) := by decide +kernel
theorem dX6_swing_13 : decode cX6_swing 13 = .ok (.iload_n 1, 1) := by decide +kernel
theorem dX6_swing_14 : decode cX6_swing 14 = .ok (.goto 6, 3) := by decide +kernel
theorem dX6_swing_17 : decode cX6_swing 17 = .ok (.iload_n 1, 1) := by decide +kernel
theorem dX6_swing_18 : decode cX6_swing 18 = .ok (.iconst 1, 1) := by decide +kernel
theorem dX6_swing_19 : decode cX6_swing 19 = .ok (.isub, 1) := by decide +kernel
theorem dX6_swing_20 : decode cX6_swing 20 = .ok (.invokevirtual 47, 3) := by decide +kernel
theorem dX6_swing_23 : decode cX6_swing 23 = .ok (.istore_n 2, 1) := by decide +kernel
theorem dX6_swing_24 : decode cX6_swing 24 = .ok (.aload_n 0, 1) := by decide +kernel
theorem dX6_swing_25 : decode cX6_swing 25 = .ok (.iload_n 1, 1) := by decide +kernel
theorem dX6_swing_26 : decode cX6_swing 26 = .ok (.bipush 39, 2) := by decide +kernel
theorem dX6_swing_28 : decode cX6_swing 28 = .ok (.if_icmp .ne 7, 3) := by decide +kernel
theorem dX6_swing_31 : decode cX6_swing 31 = .ok (.iload_n 1, 1) := by decide +kernel
theorem dX6_swing_32 : decode cX6_swing 32 = .ok (.goto 6, 3) := by decide +kernel
theorem dX6_swing_35 : decode cX6_swing 35 = .ok (.iload_n 1, 1) := by decide +kernel
theorem dX6_swing_36 : decode cX6_swing 36 = .ok (.iconst 1, 1) := by decide +kernel
theorem dX6_swing_37 : decode cX6_swing 37 = .ok (.iadd, 1) := by decide +kernel
theorem dX6_swing_38 : decode cX6_swing 38 = .ok (.invokevirtual 47, 3) := by decide +kernel
theorem dX6_swing_41 : decode cX6_swing 41 = .ok (.istore_n 3, 1) := by decide +kernel
theorem dX6_swing_42 : decode cX6_swing 42 = .ok (.aload_n 0, 1) := by decide +kernel
theorem dX6_swing_43 : decode cX6_swing 43 = .ok (.getfield 7, 3) := by decide +kernel
theorem dX6_swing_46 : decode cX6_swing 46 = .ok (.bipush 46, 2) := by decide +kernel
theorem dX6_swing_48 : decode cX6_swing 48 = .ok (.iload_n 1, 1) := by decide +kernel
theorem dX6_swing_49 : decode cX6_swing 49 = .ok (.iadd, 1) := by decide +kernel
theorem dX6_swing_50 : decode cX6_swing 50 = .ok (.iaload, 1) := by decide +kernel
theorem dX6_swing_51 : decode cX6_swing 51 = .ok (.iload_n 2, 1) := by decide +kernel
theorem dX6_swing_52 : decode cX6_swing 52 = .ok (.iload_n 3, 1) := by decide +kernel
theorem dX6_swing_53 : decode cX6_swing 53 = .ok (.iadd, 1) := by decide +kernel
theorem dX6_swing_54 : decode cX6_swing 54 = .ok (.iconst 2, 1) := by decide +kernel
theorem dX6_swing_55 : decode cX6_swing 55 = .ok (.aload_n 0, 1) := by decide +kernel
theorem dX6_swing_56 : decode cX6_swing 56 = .ok (.iload_n 1, 1) := by decide +kernel
theorem dX6_swing_57 : decode cX6_swing 57 = .ok (.invokevirtual 47, 3) := by decide +kernel
theorem dX6_swing_60 : decode cX6_swing 60 = .ok (.imul, 1) := by decide +kernel
theorem dX6_swing_61 : decode cX6_swing 61 = .ok (.isub, 1) := by decide +kernel
theorem dX6_swing_62 : decode cX6_swing 62 = .ok (.iconst 4, 1) := by decide +kernel
theorem dX6_swing_63 : decode cX6_swing 63 = .ok (.idiv, 1) := by decide +kernel
theorem dX6_swing_64 : decode cX6_swing 64 = .ok (.iadd, 1) := by decide +kernel
theorem dX6_swing_65 : decode cX6_swing 65 = .ok (.invokestatic 61, 3) := by decide +kernel
theorem dX6_swing_68 : decode cX6_swing 68 = .ok (.istore 4, 2) := by decide +kernel
theorem dX6_swing_70 : decode cX6_swing 70 = .ok (.aload_n 0, 1) := by decide +kernel
theorem dX6_swing_71 : decode cX6_swing 71 = .ok (.getfield 7, 3) := by decide +kernel
theorem dX6_swing_74 : decode cX6_swing 74 = .ok (.bipush 46, 2) := by decide +kernel
theorem dX6_swing_76 : decode cX6_swing 76 = .ok (.iload_n 1, 1) := by decide +kernel
theorem dX6_swing_77 : decode cX6_swing 77 = .ok (.iadd, 1) := by decide +kernel
theorem dX6_swing_78 : decode cX6_swing 78 = .ok (.iload 4, 2) := by decide +kernel
theorem dX6_swing_80 : decode cX6_swing 80 = .ok (.iload 4, 2) := by decide +kernel
theorem dX6_swing_82 : decode cX6_swing 82 = .ok (.aload_n 0, 1) := by decide +kernel
theorem dX6_swing_83 : decode cX6_swing 83 = .ok (.getfield 7, 3) := by decide +kernel
theorem dX6_swing_86 : decode cX6_swing 86 = .ok (.iconst 1, 1) := by decide +kernel
theorem dX6_swing_87 : decode cX6_swing 87 = .ok (.iaload, 1) := by decide +kernel
theorem dX6_swing_88 : decode cX6_swing 88 = .ok (.imul, 1) := by decide +kernel
theorem dX6_swing_89 : decode cX6_swing 89 = .ok (.bipush 100, 2) := by decide +kernel
theorem dX6_swing_91 : decode cX6_swing 91 = .ok (.idiv, 1) := by decide +kernel
theorem dX6_swing_92 : decode cX6_swing 92 = .ok (.isub, 1) := by decide +kernel
theorem dX6_swing_93 : decode cX6_swing 93 = .ok (.iastore, 1) := by decide +kernel
theorem dX6_swing_94 : decode cX6_swing 94 = .ok (.iinc 1 1, 3) := by decide +kernel
theorem dX6_swing_97 : decode cX6_swing 97 = .ok (.goto (-95), 3) := by decide +kernel
theorem dX6_swing_100 : decode cX6_swing 100 = .ok (.iconst 0, 1) := by decide +kernel
theorem dX6_swing_101 : decode cX6_swing 101 = .ok (.istore_n 1, 1) := by decide +kernel
theorem dX6_swing_102 : decode cX6_swing 102 = .ok (.iload_n 1, 1) := by decide +kernel
theorem dX6_swing_103 : decode cX6_swing 103 = .ok (.bipush 40, 2) := by decide +kernel
theorem dX6_swing_105 : decode cX6_swing 105 = .ok (.if_icmp .ge 36, 3) := by decide +kernel
theorem dX6_swing_108 : decode cX6_swing 108 = .ok (.aload_n 0, 1) := by decide +kernel
theorem dX6_swing_109 : decode cX6_swing 109 = .ok (.getfield 7, 3) := by decide +kernel
theorem dX6_swing_112 : decode cX6_swing 112 = .ok (.bipush 6, 2) := by decide +kernel
theorem dX6_swing_114 : decode cX6_swing 114 = .ok (.iload_n 1, 1) := by decide +kernel
theorem dX6_swing_115 : decode cX6_swing 115 = .ok (.iadd, 1) := by decide +kernel
theorem dX6_swing_116 : decode cX6_swing 116 = .ok (.aload_n 0, 1) := by decide +kernel
theorem dX6_swing_117 : decode cX6_swing 117 = .ok (.iload_n 1, 1) := by decide +kernel
theorem dX6_swing_118 : decode cX6_swing 118 = .ok (.invokevirtual 47, 3) := by decide +kernel
theorem dX6_swing_121 : decode cX6_swing 121 = .ok (.aload_n 0, 1) := by decide +kernel
theorem dX6_swing_122 : decode cX6_swing 122 = .ok (.getfield 7, 3) := by decide +kernel
theorem dX6_swing_125 : decode cX6_swing 125 = .ok (.bipush 46, 2) := by decide +kernel
theorem dX6_swing_127 : decode cX6_swing 127 = .ok (.iload_n 1, 1) := by decide +kernel
theorem dX6_swing_128 : decode cX6_swing 128 = .ok (.iadd, 1) := by decide +kernel
theorem dX6_swing_129 : decode cX6_swing 129 = .ok (.iaload, 1) := by decide +kernel
theorem dX6_swing_130 : decode cX6_swing 130 = .ok (.iadd, 1) := by decide +kernel
theorem dX6_swing_131 : decode cX6_swing 131 = .ok (.invokestatic 61, 3) := by decide +kernel
theorem dX6_swing_134 : decode cX6_swing 134 = .ok (.iastore, 1) := by decide +kernel
theorem dX6_swing_135 : decode cX6_swing 135 = .ok (.iinc 1 1, 3) := by decide +kernel
theorem dX6_swing_138 : decode cX6_swing 138 = .ok (.goto (-36), 3) := by decide +kernel
theorem dX6_swing_141 : decode cX6_swing 141 = .ok (.return_, 1) := by decide +kernel
theorem dX6_beach_0 : decode cX6_beach 0 = .ok (.bipush 36, 2) := by decide +kernel
theorem dX6_beach_2 : decode cX6_beach 2 = .ok (.istore_n 1, 1) := by decide +kernel
theorem dX6_beach_3 : decode cX6_beach 3 = .ok (.iload_n 1, 1) := by decide +kernel
theorem dX6_beach_4 : decode cX6_beach 4 = .ok (.bipush 40, 2) := by decide +kernel
theorem dX6_beach_6 : decode cX6_beach 6 = .ok (.if_icmp .ge 71, 3) := by decide +kernel
theorem dX6_beach_9 : decode cX6_beach 9 = .ok (.aload_n 0, 1) := by decide +kernel
theorem dX6_beach_10 : decode cX6_beach 10 = .ok (.getfield 7, 3) := by decide +kernel
theorem dX6_beach_13 : decode cX6_beach 13 = .ok (.iconst 0, 1) := by decide +kernel
theorem dX6_beach_14 : decode cX6_beach 14 = .ok (.iaload, 1) := by decide +kernel
theorem dX6_beach_15 : decode cX6_beach 15 = .ok (.iload_n 1, 1) := by decide +kernel
theorem dX6_beach_16 : decode cX6_beach 16 = .ok (.bipush 35, 2) := by decide +kernel
theorem dX6_beach_18 : decode cX6_beach 18 = .ok (.isub, 1) := by decide +kernel
theorem dX6_beach_19 : decode cX6_beach 19 = .ok (.imul, 1) := by decide +kernel
theorem dX6_beach_20 : decode cX6_beach 20 = .ok (.istore_n 2, 1) := by decide +kernel
theorem dX6_beach_21 : decode cX6_beach 21 = .ok (.aload_n 0, 1) := by decide +kernel
theorem dX6_beach_22 : decode cX6_beach 22 = .ok (.getfield 7, 3) := by decide +kernel
theorem dX6_beach_25 : decode cX6_beach 25 = .ok (.bipush 6, 2) := by decide +kernel
theorem dX6_beach_27 : decode cX6_beach 27 = .ok (.iload_n 1, 1) := by decide +kernel
theorem dX6_beach_28 : decode cX6_beach 28 = .ok (.iadd, 1) := by decide +kernel
theorem dX6_beach_29 : decode cX6_beach 29 = .ok (.dup2, 1) := by decide +kernel
theorem dX6_beach_30 : decode cX6_beach 30 = .ok (.iaload, 1) := by decide +kernel
theorem dX6_beach_31 : decode cX6_beach 31 = .ok (.aload_n 0, 1) := by decide +kernel
theorem dX6_beach_32 : decode cX6_beach 32 = .ok (.iload_n 1, 1) := by decide +kernel
theorem dX6_beach_33 : decode cX6_beach 33 = .ok (.invokevirtual 47, 3) := by decide +kernel
theorem dX6_beach_36 : decode cX6_beach 36 = .ok (.iload_n 2, 1) := by decide +kernel
theorem dX6_beach_37 : decode cX6_beach 37 = .ok (.imul, 1) := by decide +kernel
theorem dX6_beach_38 : decode cX6_beach 38 = .ok (.sipush 400, 3) := by decide +kernel
theorem dX6_beach_41 : decode cX6_beach 41 = .ok (.idiv, 1) := by decide +kernel
theorem dX6_beach_42 : decode cX6_beach 42 = .ok (.isub, 1) := by decide +kernel
theorem dX6_beach_43 : decode cX6_beach 43 = .ok (.iastore, 1) := by decide +kernel
theorem dX6_beach_44 : decode cX6_beach 44 = .ok (.aload_n 0, 1) := by decide +kernel
theorem dX6_beach_45 : decode cX6_beach 45 = .ok (.getfield 7, 3) := by decide +kernel
theorem dX6_beach_48 : decode cX6_beach 48 = .ok (.bipush 46, 2) := by decide +kernel
theorem dX6_beach_50 : decode cX6_beach 50 = .ok (.iload_n 1, 1) := by decide +kernel
theorem dX6_beach_51 : decode cX6_beach 51 = .ok (.iadd, 1) := by decide +kernel
theorem dX6_beach_52 : decode cX6_beach 52 = .ok (.dup2, 1) := by decide +kernel
theorem dX6_beach_53 : decode cX6_beach 53 = .ok (.iaload, 1) := by decide +kernel
theorem dX6_beach_54 : decode cX6_beach 54 = .ok (.aload_n 0, 1) := by decide +kernel
theorem dX6_beach_55 : decode cX6_beach 55 = .ok (.getfield 7, 3) := by decide +kernel
theorem dX6_beach_58 : decode cX6_beach 58 = .ok (.bipush 46, 2) := by decide +kernel
theorem dX6_beach_60 : decode cX6_beach 60 = .ok (.iload_n 1, 1) := by decide +kernel
theorem dX6_beach_61 : decode cX6_beach 61 = .ok (.iadd, 1) := by decide +kernel
theorem dX6_beach_62 : decode cX6_beach 62 = .ok (.iaload, 1) := by decide +kernel
theorem dX6_beach_63 : decode cX6_beach 63 = .ok (.iload_n 2, 1) := by decide +kernel
theorem dX6_beach_64 : decode cX6_beach 64 = .ok (.imul, 1) := by decide +kernel
theorem dX6_beach_65 : decode cX6_beach 65 = .ok (.sipush 400, 3) := by decide +kernel
theorem dX6_beach_68 : decode cX6_beach 68 = .ok (.idiv, 1) := by decide +kernel
theorem dX6_beach_69 : decode cX6_beach 69 = .ok (.isub, 1) := by decide +kernel
theorem dX6_beach_70 : decode cX6_beach 70 = .ok (.iastore, 1) := by decide +kernel
theorem dX6_beach_71 : decode cX6_beach 71 = .ok (.iinc 1 1, 3) := by decide +kernel
theorem dX6_beach_74 : decode cX6_beach 74 = .ok (.goto (-71), 3) := by decide +kernel
theorem dX6_beach_77 : decode cX6_beach 77 = .ok (.return_, 1) := by decide +kernel
theorem dX6_note_0 : decode cX6_note 0 = .ok (.iconst 0, 1) := by decide +kernel
theorem dX6_note_1 : decode cX6_note 1 = .ok (.istore_n 1, 1) := by decide +kernel
theorem dX6_note_2 : decode cX6_note 2 = .ok (.iload_n 1, 1) := by decide +kernel
theorem dX6_note_3 : decode cX6_note 3 = .ok (.aload_n 0, 1) := by decide +kernel
theorem dX6_note_4 : decode cX6_note 4 = .ok (.getfield 7, 3) := by decide +kernel
theorem dX6_note_7 : decode cX6_note 7 = .ok (.iconst 5, 1) := by decide +kernel
theorem dX6_note_8 : decode cX6_note 8 = .ok (.iaload, 1) := by decide +kernel
theorem dX6_note_9 : decode cX6_note 9 = .ok (.if_icmp .ge 117, 3) := by decide +kernel
theorem dX6_note_12 : decode cX6_note 12 = .ok (.bipush 122, 2) := by decide +kernel
theorem dX6_note_14 : decode cX6_note 14 = .ok (.bipush 62, 2) := by decide +kernel
theorem dX6_note_16 : decode cX6_note 16 = .ok (.iload_n 1, 1) := by decide +kernel
theorem dX6_note_17 : decode cX6_note 17 = .ok (.imul, 1) := by decide +kernel
theorem dX6_note_18 : decode cX6_note 18 = .ok (.iadd, 1) := by decide +kernel
theorem dX6_note_19 : decode cX6_note 19 = .ok (.istore_n 2, 1) := by decide +kernel
theorem dX6_note_20 : decode cX6_note 20 = .ok (.aload_n 0, 1) := by decide +kernel
theorem dX6_note_21 : decode cX6_note 21 = .ok (.getfield 7, 3) := by decide +kernel
theorem dX6_note_24 : decode cX6_note 24 = .ok (.iload_n 2, 1) := by decide +kernel
theorem dX6_note_25 : decode cX6_note 25 = .ok (.iconst 1, 1) := by decide +kernel
theorem dX6_note_26 : decode cX6_note 26 = .ok (.iadd, 1) := by decide +kernel
theorem dX6_note_27 : decode cX6_note 27 = .ok (.iaload, 1) := by decide +kernel
theorem dX6_note_28 : decode cX6_note 28 = .ok (.bipush 60, 2) := by decide +kernel
theorem dX6_note_30 : decode cX6_note 30 = .ok (.if_icmp .ne 51, 3) := by decide +kernel
theorem dX6_note_33 : decode cX6_note 33 = .ok (.iconst 1, 1) := by decide +kernel
theorem dX6_note_34 : decode cX6_note 34 = .ok (.istore_n 3, 1) := by decide +kernel
theorem dX6_note_35 : decode cX6_note 35 = .ok (.iload_n 3, 1) := by decide +kernel
theorem dX6_note_36 : decode cX6_note 36 = .ok (.bipush 60, 2) := by decide +kernel
theorem dX6_note_38 : decode cX6_note 38 = .ok (.if_icmp .ge 31, 3) := by decide +kernel
theorem dX6_note_41 : decode cX6_note 41 = .ok (.aload_n 0, 1) := by decide +kernel
theorem dX6_note_42 : decode cX6_note 42 = .ok (.getfield 7, 3) := by decide +kernel
theorem dX6_note_45 : decode cX6_note 45 = .ok (.iload_n 2, 1) := by decide +kernel
theorem dX6_note_46 : decode cX6_note 46 = .ok (.iconst 2, 1) := by decide +kernel
theorem dX6_note_47 : decode cX6_note 47 = .ok (.iadd, 1) := by decide +kernel
theorem dX6_note_48 : decode cX6_note 48 = .ok (.iload_n 3, 1) := by decide +kernel
theorem dX6_note_49 : decode cX6_note 49 = .ok (.iadd, 1) := by decide +kernel
theorem dX6_note_50 : decode cX6_note 50 = .ok (.iconst 1, 1) := by decide +kernel
theorem dX6_note_51 : decode cX6_note 51 = .ok (.isub, 1) := by decide +kernel
theorem dX6_note_52 : decode cX6_note 52 = .ok (.aload_n 0, 1) := by decide +kernel
theorem dX6_note_53 : decode cX6_note 53 = .ok (.getfield 7, 3) := by decide +kernel
theorem dX6_note_56 : decode cX6_note 56 = .ok (.iload_n 2, 1) := by decide +kernel
theorem dX6_note_57 : decode cX6_note 57 = .ok (.iconst 2, 1) := by decide +kernel
theorem dX6_note_58 : decode cX6_note 58 = .ok (.iadd, 1) := by decide +kernel
theorem dX6_note_59 : decode cX6_note 59 = .ok (.iload_n 3, 1) := by decide +kernel
theorem dX6_note_60 : decode cX6_note 60 = .ok (.iadd, 1) := by decide +kernel
theorem dX6_note_61 : decode cX6_note 61 = .ok (.iaload, 1) := by decide +kernel
theorem dX6_note_62 : decode cX6_note 62 = .ok (.iastore, 1) := by decide +kernel
theorem dX6_note_63 : decode cX6_note 63 = .ok (.iinc 3 1, 3) := by decide +kernel
theorem dX6_note_66 : decode cX6_note 66 = .ok (.goto (-31), 3) := by decide +kernel
theorem dX6_note_69 : decode cX6_note 69 = .ok (.aload_n 0, 1) := by decide +kernel
theorem dX6_note_70 : decode cX6_note 70 = .ok (.getfield 7, 3) := by decide +kernel
theorem dX6_note_73 : decode cX6_note 73 = .ok (.iload_n 2, 1) := by decide +kernel
theorem dX6_note_74 : decode cX6_note 74 = .ok (.iconst 1, 1) := by decide +kernel
theorem dX6_note_75 : decode cX6_note 75 = .ok (.iadd, 1) := by decide +kernel
theorem dX6_note_76 : decode cX6_note 76 = .ok (.dup2, 1) := by decide +kernel
theorem dX6_note_77 : decode cX6_note 77 = .ok (.iaload, 1) := by decide +kernel
theorem dX6_note_78 : decode cX6_note 78 = .ok (.iconst 1, 1) := by decide +kernel
theorem dX6_note_79 : decode cX6_note 79 = .ok (.isub, 1) := by decide +kernel
theorem dX6_note_80 : decode cX6_note 80 = .ok (.iastore, 1) := by decide +kernel
theorem dX6_note_81 : decode cX6_note 81 = .ok (.aload_n 0, 1) := by decide +kernel
theorem dX6_note_82 : decode cX6_note 82 = .ok (.getfield 7, 3) := by decide +kernel
theorem dX6_note_85 : decode cX6_note 85 = .ok (.iload_n 2, 1) := by decide +kernel
theorem dX6_note_86 : decode cX6_note 86 = .ok (.iconst 2, 1) := by decide +kernel
theorem dX6_note_87 : decode cX6_note 87 = .ok (.iadd, 1) := by decide +kernel
theorem dX6_note_88 : decode cX6_note 88 = .ok (.aload_n 0, 1) := by decide +kernel
theorem dX6_note_89 : decode cX6_note 89 = .ok (.getfield 7, 3) := by decide +kernel
theorem dX6_note_92 : decode cX6_note 92 = .ok (.iload_n 2, 1) := by decide +kernel
theorem dX6_note_93 : decode cX6_note 93 = .ok (.iconst 1, 1) := by decide +kernel
theorem dX6_note_94 : decode cX6_note 94 = .ok (.iadd, 1) := by decide +kernel
theorem dX6_note_95 : decode cX6_note 95 = .ok (.iaload, 1) := by decide +kernel
theorem dX6_note_96 : decode cX6_note 96 = .ok (.iadd, 1) := by decide +kernel
theorem dX6_note_97 : decode cX6_note 97 = .ok (.aload_n 0, 1) := by decide +kernel
theorem dX6_note_98 : decode cX6_note 98 = .ok (.aload_n 0, 1) := by decide +kernel
theorem dX6_note_99 : decode cX6_note 99 = .ok (.getfield 7, 3) := by decide +kernel
theorem dX6_note_102 : decode cX6_note 102 = .ok (.iload_n 2, 1) := by decide +kernel
theorem dX6_note_103 : decode cX6_note 103 = .ok (.iaload, 1) := by decide +kernel
theorem dX6_note_104 : decode cX6_note 104 = .ok (.invokevirtual 47, 3) := by decide +kernel
theorem dX6_note_107 : decode cX6_note 107 = .ok (.iastore, 1) := by decide +kernel
theorem dX6_note_108 : decode cX6_note 108 = .ok (.aload_n 0, 1) := by decide +kernel
theorem dX6_note_109 : decode cX6_note 109 = .ok (.getfield 7, 3) := by decide +kernel
theorem dX6_note_112 : decode cX6_note 112 = .ok (.iload_n 2, 1) := by decide +kernel
theorem dX6_note_113 : decode cX6_note 113 = .ok (.iconst 1, 1) := by decide +kernel
theorem dX6_note_114 : decode cX6_note 114 = .ok (.iadd, 1) := by decide +kernel
theorem dX6_note_115 : decode cX6_note 115 = .ok (.dup2, 1) := by decide +kernel
theorem dX6_note_116 : decode cX6_note 116 = .ok (.iaload, 1) := by decide +kernel
theorem dX6_note_117 : decode cX6_note 117 = .ok (.iconst 1, 1) := by decide +kernel
theorem dX6_note_118 : decode cX6_note 118 = .ok (.iadd, 1) := by decide +kernel
theorem dX6_note_119 : decode cX6_note 119 = .ok (.iastore, 1) := by decide +kernel
theorem dX6_note_120 : decode cX6_note 120 = .ok (.iinc 1 1, 3) := by decide +kernel
theorem dX6_note_123 : decode cX6_note 123 = .ok (.goto (-121), 3) := by decide +kernel
theorem dX6_note_126 : decode cX6_note 126 = .ok (.return_, 1) := by decide +kernel
theorem dX6_step_0 : decode cX6_step 0 = .ok (.aload_n 0, 1) := by decide +kernel
theorem dX6_step_1 : decode cX6_step 1 = .ok (.invokevirtual 64, 3) := by decide +kernel
theorem dX6_step_4 : decode cX6_step 4 = .ok (.istore_n 1, 1) := by decide +kernel
theorem dX6_step_5 : decode cX6_step 5 = .ok (.aload_n 0, 1) := by decide +kernel
theorem dX6_step_6 : decode cX6_step 6 = .ok (.invokevirtual 68, 3) := by decide +kernel
theorem dX6_step_9 : decode cX6_step 9 = .ok (.aload_n 0, 1) := by decide +kernel
theorem dX6_step_10 : decode cX6_step 10 = .ok (.invokevirtual 71, 3) := by decide +kernel
theorem dX6_step_13 : decode cX6_step 13 = .ok (.aload_n 0, 1) := by decide +kernel
theorem dX6_step_14 : decode cX6_step 14 = .ok (.getfield 7, 3) := by decide +kernel
theorem dX6_step_17 : decode cX6_step 17 = .ok (.iconst 3, 1) := by decide +kernel
theorem dX6_step_18 : decode cX6_step 18 = .ok (.dup2, 1) := by decide +kernel
theorem dX6_step_19 : decode cX6_step 19 = .ok (.iaload, 1) := by decide +kernel
theorem dX6_step_20 : decode cX6_step 20 = .ok (.iconst 1, 1) := by decide +kernel
theorem dX6_step_21 : decode cX6_step 21 = .ok (.iadd, 1) := by decide +kernel
theorem dX6_step_22 : decode cX6_step 22 = .ok (.iastore, 1) := by decide +kernel
theorem dX6_step_23 : decode cX6_step 23 = .ok (.aload_n 0, 1) := by decide +kernel
theorem dX6_step_24 : decode cX6_step 24 = .ok (.invokevirtual 74, 3) := by decide +kernel
theorem dX6_step_27 : decode cX6_step 27 = .ok (.iload_n 1, 1) := by decide +kernel
theorem dX6_step_28 : decode cX6_step 28 = .ok (.ireturn, 1) := by decide +kernel
theorem dX6_passes_0 : decode cX6_passes 0 = .ok (.iconst 0, 1) := by decide +kernel
theorem dX6_passes_1 : decode cX6_passes 1 = .ok (.istore_n 2, 1) := by decide +kernel
theorem dX6_passes_2 : decode cX6_passes 2 = .ok (.iconst 0, 1) := by decide +kernel
theorem dX6_passes_3 : decode cX6_passes 3 = .ok (.istore_n 3, 1) := by decide +kernel
theorem dX6_passes_4 : decode cX6_passes 4 = .ok (.iload_n 3, 1) := by decide +kernel
theorem dX6_passes_5 : decode cX6_passes 5 = .ok (.iload_n 1, 1) := by decide +kernel
theorem dX6_passes_6 : decode cX6_passes 6 = .ok (.if_icmp .ge 16, 3) := by decide +kernel
theorem dX6_passes_9 : decode cX6_passes 9 = .ok (.iload_n 2, 1) := by decide +kernel
theorem dX6_passes_10 : decode cX6_passes 10 = .ok (.aload_n 0, 1) := by decide +kernel
theorem dX6_passes_11 : decode cX6_passes 11 = .ok (.invokevirtual 77, 3) := by decide +kernel
theorem dX6_passes_14 : decode cX6_passes 14 = .ok (.iadd, 1) := by decide +kernel
theorem dX6_passes_15 : decode cX6_passes 15 = .ok (.istore_n 2, 1) := by decide +kernel
theorem dX6_passes_16 : decode cX6_passes 16 = .ok (.iinc 3 1, 3) := by decide +kernel
theorem dX6_passes_19 : decode cX6_passes 19 = .ok (.goto (-15), 3) := by decide +kernel
theorem dX6_passes_22 : decode cX6_passes 22 = .ok (.iload_n 2, 1) := by decide +kernel
theorem dX6_passes_23 : decode cX6_passes 23 = .ok (.ireturn, 1) := by decide +kernel
theorem dX6_isValue_0 : decode cX6_isValue 0 = .ok (.iload_n 0, 1) := by decide +kernel
theorem dX6_isValue_1 : decode cX6_isValue 1 = .ok (.ifCond .ne 13, 3) := by decide +kernel
theorem dX6_isValue_4 : decode cX6_isValue 4 = .ok (.iload_n 1, 1) := by decide +kernel
theorem dX6_isValue_5 : decode cX6_isValue 5 = .ok (.iconst 0, 1) := by decide +kernel
theorem dX6_isValue_6 : decode cX6_isValue 6 = .ok (.bipush 100, 2) := by decide +kernel
theorem dX6_isValue_8 : decode cX6_isValue 8 = .ok (.invokestatic 39, 3) := by decide +kernel
theorem dX6_isValue_11 : decode cX6_isValue 11 = .ok (.goto 39, 3) := by decide +kernel
theorem dX6_isValue_14 : decode cX6_isValue 14 = .ok (.iload_n 0, 1) := by decide +kernel
theorem dX6_isValue_15 : decode cX6_isValue 15 = .ok (.iconst 1, 1) := by decide +kernel
theorem dX6_isValue_16 : decode cX6_isValue 16 = .ok (.if_icmp .ne 13, 3) := by decide +kernel
theorem dX6_isValue_19 : decode cX6_isValue 19 = .ok (.iload_n 1, 1) := by decide +kernel
theorem dX6_isValue_20 : decode cX6_isValue 20 = .ok (.iconst 0, 1) := by decide +kernel
theorem dX6_isValue_21 : decode cX6_isValue 21 = .ok (.bipush 50, 2) := by decide +kernel
theorem dX6_isValue_23 : decode cX6_isValue 23 = .ok (.invokestatic 39, 3) := by decide +kernel
theorem dX6_isValue_26 : decode cX6_isValue 26 = .ok (.goto 24, 3) := by decide +kernel
theorem dX6_isValue_29 : decode cX6_isValue 29 = .ok (.iload_n 0, 1) := by decide +kernel
theorem dX6_isValue_30 : decode cX6_isValue 30 = .ok (.iconst 2, 1) := by decide +kernel
theorem dX6_isValue_31 : decode cX6_isValue 31 = .ok (.if_icmp .ne 18, 3) := by decide +kernel
theorem dX6_isValue_34 : decode cX6_isValue 34 = .ok (.iload_n 1, 1) := by decide +kernel
theorem dX6_isValue_35 : decode cX6_isValue 35 = .ok (.iconst 1, 1) := by decide +kernel
theorem dX6_isValue_36 : decode cX6_isValue 36 = .ok (.sipush 9999, 3) := by decide +kernel
theorem dX6_isValue_39 : decode cX6_isValue 39 = .ok (.invokestatic 39, 3) := by decide +kernel
theorem dX6_isValue_42 : decode cX6_isValue 42 = .ok (.ifCond .eq 7, 3) := by decide +kernel
theorem dX6_isValue_45 : decode cX6_isValue 45 = .ok (.iconst 1, 1) := by decide +kernel
theorem dX6_isValue_46 : decode cX6_isValue 46 = .ok (.goto 4, 3) := by decide +kernel
theorem dX6_isValue_49 : decode cX6_isValue 49 = .ok (.iconst 0, 1) := by decide +kernel
theorem dX6_isValue_50 : decode cX6_isValue 50 = .ok (.ireturn, 1) := by decide +kernel
theorem dX6_set_0 : decode cX6_set 0 = .ok (.iload_n 1, 1) := by decide +kernel
theorem dX6_set_1 : decode cX6_set 1 = .ok (.iload_n 2, 1) := by decide +kernel
theorem dX6_set_2 : decode cX6_set 2 = .ok (.invokestatic 80, 3) := by decide +kernel
theorem dX6_set_5 : decode cX6_set 5 = .ok (.ifCond .ne 6, 3) := by decide +kernel
theorem dX6_set_8 : decode cX6_set 8 = .ok (.bipush (-2), 2) := by decide +kernel
theorem dX6_set_10 : decode cX6_set 10 = .ok (.ireturn, 1) := by decide +kernel
theorem dX6_set_11 : decode cX6_set 11 = .ok (.aload_n 0, 1) := by decide +kernel
theorem dX6_set_12 : decode cX6_set 12 = .ok (.invokevirtual 84, 3) := by decide +kernel
theorem dX6_set_15 : decode cX6_set 15 = .ok (.aload_n 0, 1) := by decide +kernel
theorem dX6_set_16 : decode cX6_set 16 = .ok (.getfield 7, 3) := by decide +kernel
theorem dX6_set_19 : decode cX6_set 19 = .ok (.iload_n 1, 1) := by decide +kernel
theorem dX6_set_20 : decode cX6_set 20 = .ok (.iaload, 1) := by decide +kernel
theorem dX6_set_21 : decode cX6_set 21 = .ok (.istore_n 3, 1) := by decide +kernel
theorem dX6_set_22 : decode cX6_set 22 = .ok (.aload_n 0, 1) := by decide +kernel
theorem dX6_set_23 : decode cX6_set 23 = .ok (.getfield 7, 3) := by decide +kernel
theorem dX6_set_26 : decode cX6_set 26 = .ok (.iload_n 1, 1) := by decide +kernel
theorem dX6_set_27 : decode cX6_set 27 = .ok (.iload_n 2, 1) := by decide +kernel
theorem dX6_set_28 : decode cX6_set 28 = .ok (.iastore, 1) := by decide +kernel
theorem dX6_set_29 : decode cX6_set 29 = .ok (.iload_n 3, 1) := by decide +kernel
theorem dX6_set_30 : decode cX6_set 30 = .ok (.ireturn, 1) := by decide +kernel
theorem dX6_whyNoPaddle_0 : decode cX6_whyNoPaddle 0 = .ok (.iload_n 1, 1) := by decide +kernel
theorem dX6_whyNoPaddle_1 : decode cX6_whyNoPaddle 1 = .ok (.iconst 0, 1) := by decide +kernel
theorem dX6_whyNoPaddle_2 : decode cX6_whyNoPaddle 2 = .ok (.bipush 35, 2) := by decide +kernel
theorem dX6_whyNoPaddle_4 : decode cX6_whyNoPaddle 4 = .ok (.invokestatic 39, 3) := by decide +kernel
theorem dX6_whyNoPaddle_7 : decode cX6_whyNoPaddle 7 = .ok (.ifCond .ne 5, 3) := by decide +kernel
theorem dX6_whyNoPaddle_10 : decode cX6_whyNoPaddle 10 = .ok (.iconst (-1), 1) := by decide +kernel
theorem dX6_whyNoPaddle_11 : decode cX6_whyNoPaddle 11 = .ok (.ireturn, 1) := by decide +kernel
theorem dX6_whyNoPaddle_12 : decode cX6_whyNoPaddle 12 = .ok (.iload_n 2, 1) := by decide +kernel
theorem dX6_whyNoPaddle_13 : decode cX6_whyNoPaddle 13 = .ok (.iconst 0, 1) := by decide +kernel
theorem dX6_whyNoPaddle_14 : decode cX6_whyNoPaddle 14 = .ok (.iconst 3, 1) := by decide +kernel
theorem dX6_whyNoPaddle_15 : decode cX6_whyNoPaddle 15 = .ok (.invokestatic 39, 3) := by decide +kernel
theorem dX6_whyNoPaddle_18 : decode cX6_whyNoPaddle 18 = .ok (.ifCond .eq 38, 3) := by decide +kernel
theorem dX6_whyNoPaddle_21 : decode cX6_whyNoPaddle 21 = .ok (.iload_n 3, 1) := by decide +kernel
theorem dX6_whyNoPaddle_22 : decode cX6_whyNoPaddle 22 = .ok (.sipush (-999), 3) := by decide +kernel
theorem dX6_whyNoPaddle_25 : decode cX6_whyNoPaddle 25 = .ok (.sipush 999, 3) := by decide +kernel
theorem dX6_whyNoPaddle_28 : decode cX6_whyNoPaddle 28 = .ok (.invokestatic 39, 3) := by decide +kernel
theorem dX6_whyNoPaddle_31 : decode cX6_whyNoPaddle 31 = .ok (.ifCond .eq 25, 3) := by decide +kernel
theorem dX6_whyNoPaddle_34 : decode cX6_whyNoPaddle 34 = .ok (.iload 4, 2) := by decide +kernel
theorem dX6_whyNoPaddle_36 : decode cX6_whyNoPaddle 36 = .ok (.iconst 1, 1) := by decide +kernel
theorem dX6_whyNoPaddle_37 : decode cX6_whyNoPaddle 37 = .ok (.bipush 60, 2) := by decide +kernel
theorem dX6_whyNoPaddle_39 : decode cX6_whyNoPaddle 39 = .ok (.invokestatic 39, 3) := by decide +kernel
theorem dX6_whyNoPaddle_42 : decode cX6_whyNoPaddle 42 = .ok (.ifCond .eq 14, 3) := by decide +kernel
theorem dX6_whyNoPaddle_45 : decode cX6_whyNoPaddle 45 = .ok (.iload 5, 2) := by decide +kernel
theorem dX6_whyNoPaddle_47 : decode cX6_whyNoPaddle 47 = .ok (.iconst 0, 1) := by decide +kernel
theorem dX6_whyNoPaddle_48 : decode cX6_whyNoPaddle 48 = .ok (.bipush 59, 2) := by decide +kernel
theorem dX6_whyNoPaddle_50 : decode cX6_whyNoPaddle 50 = .ok (.invokestatic 39, 3) := by decide +kernel
theorem dX6_whyNoPaddle_53 : decode cX6_whyNoPaddle 53 = .ok (.ifCond .ne 6, 3) := by decide +kernel
theorem dX6_whyNoPaddle_56 : decode cX6_whyNoPaddle 56 = .ok (.bipush (-2), 2) := by decide +kernel
theorem dX6_whyNoPaddle_58 : decode cX6_whyNoPaddle 58 = .ok (.ireturn, 1) := by decide +kernel
theorem dX6_whyNoPaddle_59 : decode cX6_whyNoPaddle 59 = .ok (.aload_n 0, 1) := by decide +kernel
theorem dX6_whyNoPaddle_60 : decode cX6_whyNoPaddle 60 = .ok (.iload_n 1, 1) := by decide +kernel
theorem dX6_whyNoPaddle_61 : decode cX6_whyNoPaddle 61 = .ok (.invokevirtual 87, 3) := by decide +kernel
theorem dX6_whyNoPaddle_64 : decode cX6_whyNoPaddle 64 = .ok (.bipush (-6), 2) := by decide +kernel
theorem dX6_whyNoPaddle_66 : decode cX6_whyNoPaddle 66 = .ok (.if_icmp .ne 19, 3) := by decide +kernel
theorem dX6_whyNoPaddle_69 : decode cX6_whyNoPaddle 69 = .ok (.aload_n 0, 1) := by decide +kernel
theorem dX6_whyNoPaddle_70 : decode cX6_whyNoPaddle 70 = .ok (.getfield 7, 3) := by decide +kernel
theorem dX6_whyNoPaddle_73 : decode cX6_whyNoPaddle 73 = .ok (.iconst 4, 1) := by decide +kernel
theorem dX6_whyNoPaddle_74 : decode cX6_whyNoPaddle 74 = .ok (.iaload, 1) := by decide +kernel
theorem dX6_whyNoPaddle_75 : decode cX6_whyNoPaddle 75 = .ok (.bipush 6, 2) := by decide +kernel
theorem dX6_whyNoPaddle_77 : decode cX6_whyNoPaddle 77 = .ok (.if_icmp .ne 8, 3) := by decide +kernel
theorem dX6_whyNoPaddle_80 : decode cX6_whyNoPaddle 80 = .ok (.bipush (-4), 2) := by decide +kernel
theorem dX6_whyNoPaddle_82 : decode cX6_whyNoPaddle 82 = .ok (.goto 4, 3) := by decide +kernel
theorem dX6_whyNoPaddle_85 : decode cX6_whyNoPaddle 85 = .ok (.iconst 0, 1) := by decide +kernel
theorem dX6_whyNoPaddle_86 : decode cX6_whyNoPaddle 86 = .ok (.ireturn, 1) := by decide +kernel
theorem dX6_lifts_0 : decode cX6_lifts 0 = .ok (.aload_n 0, 1) := by decide +kernel
theorem dX6_lifts_1 : decode cX6_lifts 1 = .ok (.getfield 7, 3) := by decide +kernel
theorem dX6_lifts_4 : decode cX6_lifts 4 = .ok (.iconst 4, 1) := by decide +kernel
theorem dX6_lifts_5 : decode cX6_lifts 5 = .ok (.dup2, 1) := by decide +kernel
theorem dX6_lifts_6 : decode cX6_lifts 6 = .ok (.iaload, 1) := by decide +kernel
theorem dX6_lifts_7 : decode cX6_lifts 7 = .ok (.iconst 1, 1) := by decide +kernel
theorem dX6_lifts_8 : decode cX6_lifts 8 = .ok (.isub, 1) := by decide +kernel
theorem dX6_lifts_9 : decode cX6_lifts 9 = .ok (.iastore, 1) := by decide +kernel
theorem dX6_lifts_10 : decode cX6_lifts 10 = .ok (.bipush 86, 2) := by decide +kernel
theorem dX6_lifts_12 : decode cX6_lifts 12 = .ok (.bipush 6, 2) := by decide +kernel
theorem dX6_lifts_14 : decode cX6_lifts 14 = .ok (.iload_n 1, 1) := by decide +kernel
theorem dX6_lifts_15 : decode cX6_lifts 15 = .ok (.imul, 1) := by decide +kernel
theorem dX6_lifts_16 : decode cX6_lifts 16 = .ok (.iadd, 1) := by decide +kernel
theorem dX6_lifts_17 : decode cX6_lifts 17 = .ok (.istore_n 2, 1) := by decide +kernel
theorem dX6_lifts_18 : decode cX6_lifts 18 = .ok (.iload_n 2, 1) := by decide +kernel
theorem dX6_lifts_19 : decode cX6_lifts 19 = .ok (.bipush 86, 2) := by decide +kernel
theorem dX6_lifts_21 : decode cX6_lifts 21 = .ok (.bipush 6, 2) := by decide +kernel
theorem dX6_lifts_23 : decode cX6_lifts 23 = .ok (.aload_n 0, 1) := by decide +kernel
theorem dX6_lifts_24 : decode cX6_lifts 24 = .ok (.getfield 7, 3) := by decide +kernel
theorem dX6_lifts_27 : decode cX6_lifts 27 = .ok (.iconst 4, 1) := by decide +kernel
theorem dX6_lifts_28 : decode cX6_lifts 28 = .ok (.iaload, 1) := by decide +kernel
theorem dX6_lifts_29 : decode cX6_lifts 29 = .ok (.imul, 1) := by decide +kernel
theorem dX6_lifts_30 : decode cX6_lifts 30 = .ok (.iadd, 1) := by decide +kernel
theorem dX6_lifts_31 : decode cX6_lifts 31 = .ok (.if_icmp .ge 24, 3) := by decide +kernel
theorem dX6_lifts_34 : decode cX6_lifts 34 = .ok (.aload_n 0, 1) := by decide +kernel
theorem dX6_lifts_35 : decode cX6_lifts 35 = .ok (.getfield 7, 3) := by decide +kernel
theorem dX6_lifts_38 : decode cX6_lifts 38 = .ok (.iload_n 2, 1) := by decide +kernel
theorem dX6_lifts_39 : decode cX6_lifts 39 = .ok (.aload_n 0, 1) := by decide +kernel
theorem dX6_lifts_40 : decode cX6_lifts 40 = .ok (.getfield 7, 3) := by decide +kernel
theorem dX6_lifts_43 : decode cX6_lifts 43 = .ok (.iload_n 2, 1) := by decide +kernel
theorem dX6_lifts_44 : decode cX6_lifts 44 = .ok (.bipush 6, 2) := by decide +kernel
theorem dX6_lifts_46 : decode cX6_lifts 46 = .ok (.iadd, 1) := by decide +kernel
theorem dX6_lifts_47 : decode cX6_lifts 47 = .ok (.iaload, 1) := by decide +kernel
theorem dX6_lifts_48 : decode cX6_lifts 48 = .ok (.iastore, 1) := by decide +kernel
theorem dX6_lifts_49 : decode cX6_lifts 49 = .ok (.iinc 2 1, 3) := by decide +kernel
theorem dX6_lifts_52 : decode cX6_lifts 52 = .ok (.goto (-34), 3) := by decide +kernel
theorem dX6_lifts_55 : decode cX6_lifts 55 = .ok (.return_, 1) := by decide +kernel
theorem dX6_puts_0 : decode cX6_puts 0 = .ok (.aload_n 0, 1) := by decide +kernel
theorem dX6_puts_1 : decode cX6_puts 1 = .ok (.iload_n 1, 1) := by decide +kernel
theorem dX6_puts_2 : decode cX6_puts 2 = .ok (.invokevirtual 87, 3) := by decide +kernel
theorem dX6_puts_5 : decode cX6_puts 5 = .ok (.bipush (-6), 2) := by decide +kernel
theorem dX6_puts_7 : decode cX6_puts 7 = .ok (.if_icmp .eq 12, 3) := by decide +kernel
theorem dX6_puts_10 : decode cX6_puts 10 = .ok (.aload_n 0, 1) := by decide +kernel
theorem dX6_puts_11 : decode cX6_puts 11 = .ok (.aload_n 0, 1) := by decide +kernel
theorem dX6_puts_12 : decode cX6_puts 12 = .ok (.iload_n 1, 1) := by decide +kernel
theorem dX6_puts_13 : decode cX6_puts 13 = .ok (.invokevirtual 87, 3) := by decide +kernel
theorem dX6_puts_16 : decode cX6_puts 16 = .ok (.invokevirtual 90, 3) := by decide +kernel
theorem dX6_puts_19 : decode cX6_puts 19 = .ok (.aload_n 0, 1) := by decide +kernel
theorem dX6_puts_20 : decode cX6_puts 20 = .ok (.getfield 7, 3) := by decide +kernel
theorem dX6_puts_23 : decode cX6_puts 23 = .ok (.iconst 4, 1) := by decide +kernel
theorem dX6_puts_24 : decode cX6_puts 24 = .ok (.iaload, 1) := by decide +kernel
theorem dX6_puts_25 : decode cX6_puts 25 = .ok (.istore 6, 2) := by decide +kernel
theorem dX6_puts_27 : decode cX6_puts 27 = .ok (.iload 6, 2) := by decide +kernel
theorem dX6_puts_29 : decode cX6_puts 29 = .ok (.ifCond .le 56, 3) := by decide +kernel
theorem dX6_puts_32 : decode cX6_puts 32 = .ok (.aload_n 0, 1) := by decide +kernel
theorem dX6_puts_33 : decode cX6_puts 33 = .ok (.iload 6, 2) := by decide +kernel
theorem dX6_puts_35 : decode cX6_puts 35 = .ok (.iconst 1, 1) := by decide +kernel
theorem dX6_puts_36 : decode cX6_puts 36 = .ok (.isub, 1) := by decide +kernel
theorem dX6_puts_37 : decode cX6_puts 37 = .ok (.iconst 0, 1) := by decide +kernel
theorem dX6_puts_38 : decode cX6_puts 38 = .ok (.invokevirtual 43, 3) := by decide +kernel
theorem dX6_puts_41 : decode cX6_puts 41 = .ok (.iload_n 1, 1) := by decide +kernel
theorem dX6_puts_42 : decode cX6_puts 42 = .ok (.if_icmp .le 43, 3) := by decide +kernel
theorem dX6_puts_45 : decode cX6_puts 45 = .ok (.iconst 0, 1) := by decide +kernel
theorem dX6_puts_46 : decode cX6_puts 46 = .ok (.istore 7, 2) := by decide +kernel
theorem dX6_puts_48 : decode cX6_puts 48 = .ok (.iload 7, 2) := by decide +kernel
theorem dX6_puts_50 : decode cX6_puts 50 = .ok (.bipush 6, 2) := by decide +kernel
theorem dX6_puts_52 : decode cX6_puts 52 = .ok (.if_icmp .ge 27, 3) := by decide +kernel
theorem dX6_puts_55 : decode cX6_puts 55 = .ok (.aload_n 0, 1) := by decide +kernel
theorem dX6_puts_56 : decode cX6_puts 56 = .ok (.iload 6, 2) := by decide +kernel
theorem dX6_puts_58 : decode cX6_puts 58 = .ok (.iload 7, 2) := by decide +kernel
theorem dX6_puts_60 : decode cX6_puts 60 = .ok (.aload_n 0, 1) := by decide +kernel
theorem dX6_puts_61 : decode cX6_puts 61 = .ok (.iload 6, 2) := by decide +kernel
theorem dX6_puts_63 : decode cX6_puts 63 = .ok (.iconst 1, 1) := by decide +kernel
theorem dX6_puts_64 : decode cX6_puts 64 = .ok (.isub, 1) := by decide +kernel
theorem dX6_puts_65 : decode cX6_puts 65 = .ok (.iload 7, 2) := by decide +kernel
theorem dX6_puts_67 : decode cX6_puts 67 = .ok (.invokevirtual 43, 3) := by decide +kernel
theorem dX6_puts_70 : decode cX6_puts 70 = .ok (.invokevirtual 54, 3) := by decide +kernel
theorem dX6_puts_73 : decode cX6_puts 73 = .ok (.iinc 7 1, 3) := by decide +kernel
theorem dX6_puts_76 : decode cX6_puts 76 = .ok (.goto (-28), 3) := by decide +kernel
theorem dX6_puts_79 : decode cX6_puts 79 = .ok (.iinc 6 (-1), 3) := by decide +kernel
theorem dX6_puts_82 : decode cX6_puts 82 = .ok (.goto (-55), 3) := by decide +kernel
theorem dX6_puts_85 : decode cX6_puts 85 = .ok (.aload_n 0, 1) := by decide +kernel
theorem dX6_puts_86 : decode cX6_puts 86 = .ok (.iload 6, 2) := by decide +kernel
theorem dX6_puts_88 : decode cX6_puts 88 = .ok (.iconst 0, 1) := by decide +kernel
theorem dX6_puts_89 : decode cX6_puts 89 = .ok (.iload_n 1, 1) := by decide +kernel
theorem dX6_puts_90 : decode cX6_puts 90 = .ok (.invokevirtual 54, 3) := by decide +kernel
theorem dX6_puts_93 : decode cX6_puts 93 = .ok (.aload_n 0, 1) := by decide +kernel
theorem dX6_puts_94 : decode cX6_puts 94 = .ok (.iload 6, 2) := by decide +kernel
theorem dX6_puts_96 : decode cX6_puts 96 = .ok (.iconst 1, 1) := by decide +kernel
theorem dX6_puts_97 : decode cX6_puts 97 = .ok (.iload_n 2, 1) := by decide +kernel
theorem dX6_puts_98 : decode cX6_puts 98 = .ok (.invokevirtual 54, 3) := by decide +kernel
theorem dX6_puts_101 : decode cX6_puts 101 = .ok (.aload_n 0, 1) := by decide +kernel
theorem dX6_puts_102 : decode cX6_puts 102 = .ok (.iload 6, 2) := by decide +kernel
theorem dX6_puts_104 : decode cX6_puts 104 = .ok (.iconst 2, 1) := by decide +kernel
theorem dX6_puts_105 : decode cX6_puts 105 = .ok (.iload_n 3, 1) := by decide +kernel
theorem dX6_puts_106 : decode cX6_puts 106 = .ok (.invokevirtual 54, 3) := by decide +kernel
theorem dX6_puts_109 : decode cX6_puts 109 = .ok (.aload_n 0, 1) := by decide +kernel
theorem dX6_puts_110 : decode cX6_puts 110 = .ok (.iload 6, 2) := by decide +kernel
theorem dX6_puts_112 : decode cX6_puts 112 = .ok (.iconst 3, 1) := by decide +kernel
theorem dX6_puts_113 : decode cX6_puts 113 = .ok (.iload 4, 2) := by decide +kernel
theorem dX6_puts_115 : decode cX6_puts 115 = .ok (.invokevirtual 54, 3) := by decide +kernel
theorem dX6_puts_118 : decode cX6_puts 118 = .ok (.aload_n 0, 1) := by decide +kernel
theorem dX6_puts_119 : decode cX6_puts 119 = .ok (.iload 6, 2) := by decide +kernel
theorem dX6_puts_121 : decode cX6_puts 121 = .ok (.iconst 4, 1) := by decide +kernel
theorem dX6_puts_122 : decode cX6_puts 122 = .ok (.iload 5, 2) := by decide +kernel
theorem dX6_puts_124 : decode cX6_puts 124 = .ok (.invokevirtual 54, 3) := by decide +kernel
theorem dX6_puts_127 : decode cX6_puts 127 = .ok (.aload_n 0, 1) := by decide +kernel
theorem dX6_puts_128 : decode cX6_puts 128 = .ok (.iload 6, 2) := by decide +kernel
theorem dX6_puts_130 : decode cX6_puts 130 = .ok (.iconst 5, 1) := by decide +kernel
theorem dX6_puts_131 : decode cX6_puts 131 = .ok (.iconst 1, 1) := by decide +kernel
theorem dX6_puts_132 : decode cX6_puts 132 = .ok (.invokevirtual 54, 3) := by decide +kernel
theorem dX6_puts_135 : decode cX6_puts 135 = .ok (.aload_n 0, 1) := by decide +kernel
theorem dX6_puts_136 : decode cX6_puts 136 = .ok (.getfield 7, 3) := by decide +kernel
theorem dX6_puts_139 : decode cX6_puts 139 = .ok (.iconst 4, 1) := by decide +kernel
theorem dX6_puts_140 : decode cX6_puts 140 = .ok (.dup2, 1) := by decide +kernel
theorem dX6_puts_141 : decode cX6_puts 141 = .ok (.iaload, 1) := by decide +kernel
theorem dX6_puts_142 : decode cX6_puts 142 = .ok (.iconst 1, 1) := by decide +kernel
theorem dX6_puts_143 : decode cX6_puts 143 = .ok (.iadd, 1) := by decide +kernel
theorem dX6_puts_144 : decode cX6_puts 144 = .ok (.iastore, 1) := by decide +kernel
theorem dX6_puts_145 : decode cX6_puts 145 = .ok (.return_, 1) := by decide +kernel
theorem dX6_paddle_0 : decode cX6_paddle 0 = .ok (.aload_n 0, 1) := by decide +kernel
theorem dX6_paddle_1 : decode cX6_paddle 1 = .ok (.iload_n 1, 1) := by decide +kernel
theorem dX6_paddle_2 : decode cX6_paddle 2 = .ok (.iload_n 2, 1) := by decide +kernel
theorem dX6_paddle_3 : decode cX6_paddle 3 = .ok (.iload_n 3, 1) := by decide +kernel
theorem dX6_paddle_4 : decode cX6_paddle 4 = .ok (.iload 4, 2) := by decide +kernel
theorem dX6_paddle_6 : decode cX6_paddle 6 = .ok (.iload 5, 2) := by decide +kernel
theorem dX6_paddle_8 : decode cX6_paddle 8 = .ok (.invokevirtual 94, 3) := by decide +kernel
theorem dX6_paddle_11 : decode cX6_paddle 11 = .ok (.istore 6, 2) := by decide +kernel
theorem dX6_paddle_13 : decode cX6_paddle 13 = .ok (.iload 6, 2) := by decide +kernel
theorem dX6_paddle_15 : decode cX6_paddle 15 = .ok (.ifCond .ge 6, 3) := by decide +kernel
theorem dX6_paddle_18 : decode cX6_paddle 18 = .ok (.iload 6, 2) := by decide +kernel
theorem dX6_paddle_20 : decode cX6_paddle 20 = .ok (.ireturn, 1) := by decide +kernel
theorem dX6_paddle_21 : decode cX6_paddle 21 = .ok (.aload_n 0, 1) := by decide +kernel
theorem dX6_paddle_22 : decode cX6_paddle 22 = .ok (.invokevirtual 84, 3) := by decide +kernel
theorem dX6_paddle_25 : decode cX6_paddle 25 = .ok (.aload_n 0, 1) := by decide +kernel
theorem dX6_paddle_26 : decode cX6_paddle 26 = .ok (.iload_n 1, 1) := by decide +kernel
theorem dX6_paddle_27 : decode cX6_paddle 27 = .ok (.iload_n 2, 1) := by decide +kernel
theorem dX6_paddle_28 : decode cX6_paddle 28 = .ok (.iload_n 3, 1) := by decide +kernel
theorem dX6_paddle_29 : decode cX6_paddle 29 = .ok (.iload 4, 2) := by decide +kernel
theorem dX6_paddle_31 : decode cX6_paddle 31 = .ok (.iload 5, 2) := by decide +kernel
theorem dX6_paddle_33 : decode cX6_paddle 33 = .ok (.invokevirtual 98, 3) := by decide +kernel
theorem dX6_paddle_36 : decode cX6_paddle 36 = .ok (.aload_n 0, 1) := by decide +kernel
theorem dX6_paddle_37 : decode cX6_paddle 37 = .ok (.getfield 7, 3) := by decide +kernel
theorem dX6_paddle_40 : decode cX6_paddle 40 = .ok (.iconst 4, 1) := by decide +kernel
theorem dX6_paddle_41 : decode cX6_paddle 41 = .ok (.iaload, 1) := by decide +kernel
theorem dX6_paddle_42 : decode cX6_paddle 42 = .ok (.ireturn, 1) := by decide +kernel
theorem dX6_lift_0 : decode cX6_lift 0 = .ok (.aload_n 0, 1) := by decide +kernel
theorem dX6_lift_1 : decode cX6_lift 1 = .ok (.iload_n 1, 1) := by decide +kernel
theorem dX6_lift_2 : decode cX6_lift 2 = .ok (.invokevirtual 87, 3) := by decide +kernel
theorem dX6_lift_5 : decode cX6_lift 5 = .ok (.bipush (-6), 2) := by decide +kernel
theorem dX6_lift_7 : decode cX6_lift 7 = .ok (.if_icmp .ne 5, 3) := by decide +kernel
theorem dX6_lift_10 : decode cX6_lift 10 = .ok (.iconst (-1), 1) := by decide +kernel
theorem dX6_lift_11 : decode cX6_lift 11 = .ok (.ireturn, 1) := by decide +kernel
theorem dX6_lift_12 : decode cX6_lift 12 = .ok (.aload_n 0, 1) := by decide +kernel
theorem dX6_lift_13 : decode cX6_lift 13 = .ok (.invokevirtual 84, 3) := by decide +kernel
theorem dX6_lift_16 : decode cX6_lift 16 = .ok (.aload_n 0, 1) := by decide +kernel
theorem dX6_lift_17 : decode cX6_lift 17 = .ok (.aload_n 0, 1) := by decide +kernel
theorem dX6_lift_18 : decode cX6_lift 18 = .ok (.iload_n 1, 1) := by decide +kernel
theorem dX6_lift_19 : decode cX6_lift 19 = .ok (.invokevirtual 87, 3) := by decide +kernel
theorem dX6_lift_22 : decode cX6_lift 22 = .ok (.invokevirtual 90, 3) := by decide +kernel
theorem dX6_lift_25 : decode cX6_lift 25 = .ok (.aload_n 0, 1) := by decide +kernel
theorem dX6_lift_26 : decode cX6_lift 26 = .ok (.getfield 7, 3) := by decide +kernel
theorem dX6_lift_29 : decode cX6_lift 29 = .ok (.iconst 4, 1) := by decide +kernel
theorem dX6_lift_30 : decode cX6_lift 30 = .ok (.iaload, 1) := by decide +kernel
theorem dX6_lift_31 : decode cX6_lift 31 = .ok (.ireturn, 1) := by decide +kernel
theorem dX6_again_0 : decode cX6_again 0 = .ok (.aload_n 0, 1) := by decide +kernel
theorem dX6_again_1 : decode cX6_again 1 = .ok (.iload_n 1, 1) := by decide +kernel
theorem dX6_again_2 : decode cX6_again 2 = .ok (.invokevirtual 87, 3) := by decide +kernel
theorem dX6_again_5 : decode cX6_again 5 = .ok (.istore_n 2, 1) := by decide +kernel
theorem dX6_again_6 : decode cX6_again 6 = .ok (.iload_n 2, 1) := by decide +kernel
theorem dX6_again_7 : decode cX6_again 7 = .ok (.bipush (-6), 2) := by decide +kernel
theorem dX6_again_9 : decode cX6_again 9 = .ok (.if_icmp .ne 5, 3) := by decide +kernel
theorem dX6_again_12 : decode cX6_again 12 = .ok (.iconst (-1), 1) := by decide +kernel
theorem dX6_again_13 : decode cX6_again 13 = .ok (.ireturn, 1) := by decide +kernel
theorem dX6_again_14 : decode cX6_again 14 = .ok (.aload_n 0, 1) := by decide +kernel
theorem dX6_again_15 : decode cX6_again 15 = .ok (.invokevirtual 84, 3) := by decide +kernel
theorem dX6_again_18 : decode cX6_again 18 = .ok (.iconst 1, 1) := by decide +kernel
theorem dX6_again_19 : decode cX6_again 19 = .ok (.aload_n 0, 1) := by decide +kernel
theorem dX6_again_20 : decode cX6_again 20 = .ok (.iload_n 2, 1) := by decide +kernel
theorem dX6_again_21 : decode cX6_again 21 = .ok (.iconst 5, 1) := by decide +kernel
theorem dX6_again_22 : decode cX6_again 22 = .ok (.invokevirtual 43, 3) := by decide +kernel
theorem dX6_again_25 : decode cX6_again 25 = .ok (.isub, 1) := by decide +kernel
theorem dX6_again_26 : decode cX6_again 26 = .ok (.istore_n 3, 1) := by decide +kernel
theorem dX6_again_27 : decode cX6_again 27 = .ok (.aload_n 0, 1) := by decide +kernel
theorem dX6_again_28 : decode cX6_again 28 = .ok (.iload_n 2, 1) := by decide +kernel
theorem dX6_again_29 : decode cX6_again 29 = .ok (.iconst 5, 1) := by decide +kernel
theorem dX6_again_30 : decode cX6_again 30 = .ok (.iconst 1, 1) := by decide +kernel
theorem dX6_again_31 : decode cX6_again 31 = .ok (.invokevirtual 54, 3) := by decide +kernel
theorem dX6_again_34 : decode cX6_again 34 = .ok (.iload_n 3, 1) := by decide +kernel
theorem dX6_again_35 : decode cX6_again 35 = .ok (.ireturn, 1) := by decide +kernel
theorem dX6_whyNoGauge_0 : decode cX6_whyNoGauge 0 = .ok (.iload_n 1, 1) := by decide +kernel
theorem dX6_whyNoGauge_1 : decode cX6_whyNoGauge 1 = .ok (.invokestatic 102, 3) := by decide +kernel
theorem dX6_whyNoGauge_4 : decode cX6_whyNoGauge 4 = .ok (.ifCond .ne 7, 3) := by decide +kernel
theorem dX6_whyNoGauge_7 : decode cX6_whyNoGauge 7 = .ok (.iconst (-1), 1) := by decide +kernel
theorem dX6_whyNoGauge_8 : decode cX6_whyNoGauge 8 = .ok (.goto 19, 3) := by decide +kernel
theorem dX6_whyNoGauge_11 : decode cX6_whyNoGauge 11 = .ok (.aload_n 0, 1) := by decide +kernel
theorem dX6_whyNoGauge_12 : decode cX6_whyNoGauge 12 = .ok (.getfield 7, 3) := by decide +kernel
theorem dX6_whyNoGauge_15 : decode cX6_whyNoGauge 15 = .ok (.iconst 5, 1) := by decide +kernel
theorem dX6_whyNoGauge_16 : decode cX6_whyNoGauge 16 = .ok (.iaload, 1) := by decide +kernel
theorem dX6_whyNoGauge_17 : decode cX6_whyNoGauge 17 = .ok (.iconst 4, 1) := by decide +kernel
theorem dX6_whyNoGauge_18 : decode cX6_whyNoGauge 18 = .ok (.if_icmp .ne 8, 3) := by decide +kernel
theorem dX6_whyNoGauge_21 : decode cX6_whyNoGauge 21 = .ok (.bipush (-4), 2) := by decide +kernel
theorem dX6_whyNoGauge_23 : decode cX6_whyNoGauge 23 = .ok (.goto 4, 3) := by decide +kernel
theorem dX6_whyNoGauge_26 : decode cX6_whyNoGauge 26 = .ok (.iconst 0, 1) := by decide +kernel
theorem dX6_whyNoGauge_27 : decode cX6_whyNoGauge 27 = .ok (.ireturn, 1) := by decide +kernel
theorem dX6_comesGauge_0 : decode cX6_comesGauge 0 = .ok (.aload_n 0, 1) := by decide +kernel
theorem dX6_comesGauge_1 : decode cX6_comesGauge 1 = .ok (.getfield 7, 3) := by decide +kernel
theorem dX6_comesGauge_4 : decode cX6_comesGauge 4 = .ok (.iconst 5, 1) := by decide +kernel
theorem dX6_comesGauge_5 : decode cX6_comesGauge 5 = .ok (.iaload, 1) := by decide +kernel
theorem dX6_comesGauge_6 : decode cX6_comesGauge 6 = .ok (.istore_n 2, 1) := by decide +kernel
theorem dX6_comesGauge_7 : decode cX6_comesGauge 7 = .ok (.iconst 0, 1) := by decide +kernel
theorem dX6_comesGauge_8 : decode cX6_comesGauge 8 = .ok (.istore_n 3, 1) := by decide +kernel
theorem dX6_comesGauge_9 : decode cX6_comesGauge 9 = .ok (.iload_n 3, 1) := by decide +kernel
theorem dX6_comesGauge_10 : decode cX6_comesGauge 10 = .ok (.bipush 62, 2) := by decide +kernel
theorem dX6_comesGauge_12 : decode cX6_comesGauge 12 = .ok (.if_icmp .ge 32, 3) := by decide +kernel
theorem dX6_comesGauge_15 : decode cX6_comesGauge 15 = .ok (.aload_n 0, 1) := by decide +kernel
theorem dX6_comesGauge_16 : decode cX6_comesGauge 16 = .ok (.getfield 7, 3) := by decide +kernel
theorem dX6_comesGauge_19 : decode cX6_comesGauge 19 = .ok (.bipush 122, 2) := by decide +kernel
theorem dX6_comesGauge_21 : decode cX6_comesGauge 21 = .ok (.bipush 62, 2) := by decide +kernel
theorem dX6_comesGauge_23 : decode cX6_comesGauge 23 = .ok (.iload_n 2, 1) := by decide +kernel
theorem dX6_comesGauge_24 : decode cX6_comesGauge 24 = .ok (.imul, 1) := by decide +kernel
theorem dX6_comesGauge_25 : decode cX6_comesGauge 25 = .ok (.iadd, 1) := by decide +kernel
theorem dX6_comesGauge_26 : decode cX6_comesGauge 26 = .ok (.iload_n 3, 1) := by decide +kernel
theorem dX6_comesGauge_27 : decode cX6_comesGauge 27 = .ok (.iadd, 1) := by decide +kernel
theorem dX6_comesGauge_28 : decode cX6_comesGauge 28 = .ok (.iload_n 3, 1) := by decide +kernel
theorem dX6_comesGauge_29 : decode cX6_comesGauge 29 = .ok (.ifCond .ne 7, 3) := by decide +kernel
theorem dX6_comesGauge_32 : decode cX6_comesGauge 32 = .ok (.iload_n 1, 1) := by decide +kernel
theorem dX6_comesGauge_33 : decode cX6_comesGauge 33 = .ok (.goto 4, 3) := by decide +kernel
theorem dX6_comesGauge_36 : decode cX6_comesGauge 36 = .ok (.iconst 0, 1) := by decide +kernel
theorem dX6_comesGauge_37 : decode cX6_comesGauge 37 = .ok (.iastore, 1) := by decide +kernel
theorem dX6_comesGauge_38 : decode cX6_comesGauge 38 = .ok (.iinc 3 1, 3) := by decide +kernel
theorem dX6_comesGauge_41 : decode cX6_comesGauge 41 = .ok (.goto (-32), 3) := by decide +kernel
theorem dX6_comesGauge_44 : decode cX6_comesGauge 44 = .ok (.aload_n 0, 1) := by decide +kernel
theorem dX6_comesGauge_45 : decode cX6_comesGauge 45 = .ok (.getfield 7, 3) := by decide +kernel
theorem dX6_comesGauge_48 : decode cX6_comesGauge 48 = .ok (.iconst 5, 1) := by decide +kernel
theorem dX6_comesGauge_49 : decode cX6_comesGauge 49 = .ok (.dup2, 1) := by decide +kernel
theorem dX6_comesGauge_50 : decode cX6_comesGauge 50 = .ok (.iaload, 1) := by decide +kernel
theorem dX6_comesGauge_51 : decode cX6_comesGauge 51 = .ok (.iconst 1, 1) := by decide +kernel
theorem dX6_comesGauge_52 : decode cX6_comesGauge 52 = .ok (.iadd, 1) := by decide +kernel
theorem dX6_comesGauge_53 : decode cX6_comesGauge 53 = .ok (.iastore, 1) := by decide +kernel
theorem dX6_comesGauge_54 : decode cX6_comesGauge 54 = .ok (.iload_n 2, 1) := by decide +kernel
theorem dX6_comesGauge_55 : decode cX6_comesGauge 55 = .ok (.ireturn, 1) := by decide +kernel
theorem dX6_gauge_0 : decode cX6_gauge 0 = .ok (.aload_n 0, 1) := by decide +kernel
theorem dX6_gauge_1 : decode cX6_gauge 1 = .ok (.iload_n 1, 1) := by decide +kernel
theorem dX6_gauge_2 : decode cX6_gauge 2 = .ok (.invokevirtual 106, 3) := by decide +kernel
theorem dX6_gauge_5 : decode cX6_gauge 5 = .ok (.istore_n 2, 1) := by decide +kernel
theorem dX6_gauge_6 : decode cX6_gauge 6 = .ok (.iload_n 2, 1) := by decide +kernel
theorem dX6_gauge_7 : decode cX6_gauge 7 = .ok (.ifCond .ge 5, 3) := by decide +kernel
theorem dX6_gauge_10 : decode cX6_gauge 10 = .ok (.iload_n 2, 1) := by decide +kernel
theorem dX6_gauge_11 : decode cX6_gauge 11 = .ok (.ireturn, 1) := by decide +kernel
theorem dX6_gauge_12 : decode cX6_gauge 12 = .ok (.aload_n 0, 1) := by decide +kernel
theorem dX6_gauge_13 : decode cX6_gauge 13 = .ok (.invokevirtual 84, 3) := by decide +kernel
theorem dX6_gauge_16 : decode cX6_gauge 16 = .ok (.aload_n 0, 1) := by decide +kernel
theorem dX6_gauge_17 : decode cX6_gauge 17 = .ok (.iload_n 1, 1) := by decide +kernel
theorem dX6_gauge_18 : decode cX6_gauge 18 = .ok (.invokevirtual 109, 3) := by decide +kernel
theorem dX6_gauge_21 : decode cX6_gauge 21 = .ok (.ireturn, 1) := by decide +kernel
theorem dX6_level_0 : decode cX6_level 0 = .ok (.iload_n 1, 1) := by decide +kernel
theorem dX6_level_1 : decode cX6_level 1 = .ok (.invokestatic 102, 3) := by decide +kernel
theorem dX6_level_4 : decode cX6_level 4 = .ok (.ifCond .ne 5, 3) := by decide +kernel
theorem dX6_level_7 : decode cX6_level 7 = .ok (.iconst (-1), 1) := by decide +kernel
theorem dX6_level_8 : decode cX6_level 8 = .ok (.ireturn, 1) := by decide +kernel
theorem dX6_level_9 : decode cX6_level 9 = .ok (.iload_n 2, 1) := by decide +kernel
theorem dX6_level_10 : decode cX6_level 10 = .ok (.sipush (-9999), 3) := by decide +kernel
theorem dX6_level_13 : decode cX6_level 13 = .ok (.sipush 9999, 3) := by decide +kernel
theorem dX6_level_16 : decode cX6_level 16 = .ok (.invokestatic 39, 3) := by decide +kernel
theorem dX6_level_19 : decode cX6_level 19 = .ok (.ifCond .ne 6, 3) := by decide +kernel
theorem dX6_level_22 : decode cX6_level 22 = .ok (.bipush (-2), 2) := by decide +kernel
theorem dX6_level_24 : decode cX6_level 24 = .ok (.ireturn, 1) := by decide +kernel
theorem dX6_level_25 : decode cX6_level 25 = .ok (.aload_n 0, 1) := by decide +kernel
theorem dX6_level_26 : decode cX6_level 26 = .ok (.invokevirtual 84, 3) := by decide +kernel
theorem dX6_level_29 : decode cX6_level 29 = .ok (.aload_n 0, 1) := by decide +kernel
theorem dX6_level_30 : decode cX6_level 30 = .ok (.iload_n 1, 1) := by decide +kernel
theorem dX6_level_31 : decode cX6_level 31 = .ok (.invokevirtual 47, 3) := by decide +kernel
theorem dX6_level_34 : decode cX6_level 34 = .ok (.istore_n 3, 1) := by decide +kernel
theorem dX6_level_35 : decode cX6_level 35 = .ok (.aload_n 0, 1) := by decide +kernel
theorem dX6_level_36 : decode cX6_level 36 = .ok (.getfield 7, 3) := by decide +kernel
theorem dX6_level_39 : decode cX6_level 39 = .ok (.bipush 6, 2) := by decide +kernel
theorem dX6_level_41 : decode cX6_level 41 = .ok (.iload_n 1, 1) := by decide +kernel
theorem dX6_level_42 : decode cX6_level 42 = .ok (.iadd, 1) := by decide +kernel
theorem dX6_level_43 : decode cX6_level 43 = .ok (.iload_n 2, 1) := by decide +kernel
theorem dX6_level_44 : decode cX6_level 44 = .ok (.iastore, 1) := by decide +kernel
theorem dX6_level_45 : decode cX6_level 45 = .ok (.iload_n 3, 1) := by decide +kernel
theorem dX6_level_46 : decode cX6_level 46 = .ok (.sipush 10000, 3) := by decide +kernel
theorem dX6_level_49 : decode cX6_level 49 = .ok (.iadd, 1) := by decide +kernel
theorem dX6_level_50 : decode cX6_level 50 = .ok (.ireturn, 1) := by decide +kernel
theorem dX6_whyNotPassed_0 : decode cX6_whyNotPassed 0 = .ok (.iload_n 1, 1) := by decide +kernel
theorem dX6_whyNotPassed_1 : decode cX6_whyNotPassed 1 = .ok (.iconst 1, 1) := by decide +kernel
theorem dX6_whyNotPassed_2 : decode cX6_whyNotPassed 2 = .ok (.bipush 99, 2) := by decide +kernel
theorem dX6_whyNotPassed_4 : decode cX6_whyNotPassed 4 = .ok (.invokestatic 39, 3) := by decide +kernel
theorem dX6_whyNotPassed_7 : decode cX6_whyNotPassed 7 = .ok (.ifCond .ne 8, 3) := by decide +kernel
theorem dX6_whyNotPassed_10 : decode cX6_whyNotPassed 10 = .ok (.bipush (-2), 2) := by decide +kernel
theorem dX6_whyNotPassed_12 : decode cX6_whyNotPassed 12 = .ok (.goto 22, 3) := by decide +kernel
theorem dX6_whyNotPassed_15 : decode cX6_whyNotPassed 15 = .ok (.aload_n 0, 1) := by decide +kernel
theorem dX6_whyNotPassed_16 : decode cX6_whyNotPassed 16 = .ok (.getfield 7, 3) := by decide +kernel
theorem dX6_whyNotPassed_19 : decode cX6_whyNotPassed 19 = .ok (.iconst 3, 1) := by decide +kernel
theorem dX6_whyNotPassed_20 : decode cX6_whyNotPassed 20 = .ok (.iaload, 1) := by decide +kernel
theorem dX6_whyNotPassed_21 : decode cX6_whyNotPassed 21 = .ok (.iload_n 1, 1) := by decide +kernel
theorem dX6_whyNotPassed_22 : decode cX6_whyNotPassed 22 = .ok (.iadd, 1) := by decide +kernel
theorem dX6_whyNotPassed_23 : decode cX6_whyNotPassed 23 = .ok (.ldc 112, 2) := by decide +kernel
theorem dX6_whyNotPassed_25 : decode cX6_whyNotPassed 25 = .ok (.if_icmp .le 8, 3) := by decide +kernel
theorem dX6_whyNotPassed_28 : decode cX6_whyNotPassed 28 = .ok (.bipush (-5), 2) := by decide +kernel
theorem dX6_whyNotPassed_30 : decode cX6_whyNotPassed 30 = .ok (.goto 4, 3) := by decide +kernel
theorem dX6_whyNotPassed_33 : decode cX6_whyNotPassed 33 = .ok (.iconst 0, 1) := by decide +kernel
theorem dX6_whyNotPassed_34 : decode cX6_whyNotPassed 34 = .ok (.ireturn, 1) := by decide +kernel
theorem dX6_pass_0 : decode cX6_pass 0 = .ok (.aload_n 0, 1) := by decide +kernel
theorem dX6_pass_1 : decode cX6_pass 1 = .ok (.iload_n 1, 1) := by decide +kernel
theorem dX6_pass_2 : decode cX6_pass 2 = .ok (.invokevirtual 113, 3) := by decide +kernel
theorem dX6_pass_5 : decode cX6_pass 5 = .ok (.istore_n 2, 1) := by decide +kernel
theorem dX6_pass_6 : decode cX6_pass 6 = .ok (.iload_n 2, 1) := by decide +kernel
theorem dX6_pass_7 : decode cX6_pass 7 = .ok (.ifCond .ge 5, 3) := by decide +kernel
theorem dX6_pass_10 : decode cX6_pass 10 = .ok (.iload_n 2, 1) := by decide +kernel
theorem dX6_pass_11 : decode cX6_pass 11 = .ok (.ireturn, 1) := by decide +kernel
theorem dX6_pass_12 : decode cX6_pass 12 = .ok (.aload_n 0, 1) := by decide +kernel
theorem dX6_pass_13 : decode cX6_pass 13 = .ok (.invokevirtual 84, 3) := by decide +kernel
theorem dX6_pass_16 : decode cX6_pass 16 = .ok (.aload_n 0, 1) := by decide +kernel
theorem dX6_pass_17 : decode cX6_pass 17 = .ok (.iload_n 1, 1) := by decide +kernel
theorem dX6_pass_18 : decode cX6_pass 18 = .ok (.invokevirtual 116, 3) := by decide +kernel
theorem dX6_pass_21 : decode cX6_pass 21 = .ok (.ireturn, 1) := by decide +kernel
theorem dX6_isCrest_0 : decode cX6_isCrest 0 = .ok (.iload_n 1, 1) := by decide +kernel
theorem dX6_isCrest_1 : decode cX6_isCrest 1 = .ok (.ifCond .le 43, 3) := by decide +kernel
theorem dX6_isCrest_4 : decode cX6_isCrest 4 = .ok (.iload_n 1, 1) := by decide +kernel
theorem dX6_isCrest_5 : decode cX6_isCrest 5 = .ok (.bipush 39, 2) := by decide +kernel
theorem dX6_isCrest_7 : decode cX6_isCrest 7 = .ok (.if_icmp .ge 37, 3) := by decide +kernel
theorem dX6_isCrest_10 : decode cX6_isCrest 10 = .ok (.aload_n 0, 1) := by decide +kernel
theorem dX6_isCrest_11 : decode cX6_isCrest 11 = .ok (.iload_n 1, 1) := by decide +kernel
theorem dX6_isCrest_12 : decode cX6_isCrest 12 = .ok (.invokevirtual 47, 3) := by decide +kernel
theorem dX6_isCrest_15 : decode cX6_isCrest 15 = .ok (.aload_n 0, 1) := by decide +kernel
theorem dX6_isCrest_16 : decode cX6_isCrest 16 = .ok (.iload_n 1, 1) := by decide +kernel
theorem dX6_isCrest_17 : decode cX6_isCrest 17 = .ok (.iconst 1, 1) := by decide +kernel
theorem dX6_isCrest_18 : decode cX6_isCrest 18 = .ok (.isub, 1) := by decide +kernel
theorem dX6_isCrest_19 : decode cX6_isCrest 19 = .ok (.invokevirtual 47, 3) := by decide +kernel
theorem dX6_isCrest_22 : decode cX6_isCrest 22 = .ok (.if_icmp .le 22, 3) := by decide +kernel
theorem dX6_isCrest_25 : decode cX6_isCrest 25 = .ok (.aload_n 0, 1) := by decide +kernel
theorem dX6_isCrest_26 : decode cX6_isCrest 26 = .ok (.iload_n 1, 1) := by decide +kernel
theorem dX6_isCrest_27 : decode cX6_isCrest 27 = .ok (.invokevirtual 47, 3) := by decide +kernel
theorem dX6_isCrest_30 : decode cX6_isCrest 30 = .ok (.aload_n 0, 1) := by decide +kernel
theorem dX6_isCrest_31 : decode cX6_isCrest 31 = .ok (.iload_n 1, 1) := by decide +kernel
theorem dX6_isCrest_32 : decode cX6_isCrest 32 = .ok (.iconst 1, 1) := by decide +kernel
theorem dX6_isCrest_33 : decode cX6_isCrest 33 = .ok (.iadd, 1) := by decide +kernel
theorem dX6_isCrest_34 : decode cX6_isCrest 34 = .ok (.invokevirtual 47, 3) := by decide +kernel
theorem dX6_isCrest_37 : decode cX6_isCrest 37 = .ok (.if_icmp .le 7, 3) := by decide +kernel
theorem dX6_isCrest_40 : decode cX6_isCrest 40 = .ok (.iconst 1, 1) := by decide +kernel
theorem dX6_isCrest_41 : decode cX6_isCrest 41 = .ok (.goto 4, 3) := by decide +kernel
theorem dX6_isCrest_44 : decode cX6_isCrest 44 = .ok (.iconst 0, 1) := by decide +kernel
theorem dX6_isCrest_45 : decode cX6_isCrest 45 = .ok (.ireturn, 1) := by decide +kernel
theorem dX6_isTrough_0 : decode cX6_isTrough 0 = .ok (.iload_n 1, 1) := by decide +kernel
theorem dX6_isTrough_1 : decode cX6_isTrough 1 = .ok (.ifCond .le 43, 3) := by decide +kernel
theorem dX6_isTrough_4 : decode cX6_isTrough 4 = .ok (.iload_n 1, 1) := by decide +kernel
theorem dX6_isTrough_5 : decode cX6_isTrough 5 = .ok (.bipush 39, 2) := by decide +kernel
theorem dX6_isTrough_7 : decode cX6_isTrough 7 = .ok (.if_icmp .ge 37, 3) := by decide +kernel
theorem dX6_isTrough_10 : decode cX6_isTrough 10 = .ok (.aload_n 0, 1) := by decide +kernel
theorem dX6_isTrough_11 : decode cX6_isTrough 11 = .ok (.iload_n 1, 1) := by decide +kernel
theorem dX6_isTrough_12 : decode cX6_isTrough 12 = .ok (.invokevirtual 47, 3) := by decide +kernel
theorem dX6_isTrough_15 : decode cX6_isTrough 15 = .ok (.aload_n 0, 1) := by decide +kernel
theorem dX6_isTrough_16 : decode cX6_isTrough 16 = .ok (.iload_n 1, 1) := by decide +kernel
theorem dX6_isTrough_17 : decode cX6_isTrough 17 = .ok (.iconst 1, 1) := by decide +kernel
theorem dX6_isTrough_18 : decode cX6_isTrough 18 = .ok (.isub, 1) := by decide +kernel
theorem dX6_isTrough_19 : decode cX6_isTrough 19 = .ok (.invokevirtual 47, 3) := by decide +kernel
theorem dX6_isTrough_22 : decode cX6_isTrough 22 = .ok (.if_icmp .ge 22, 3) := by decide +kernel
theorem dX6_isTrough_25 : decode cX6_isTrough 25 = .ok (.aload_n 0, 1) := by decide +kernel
theorem dX6_isTrough_26 : decode cX6_isTrough 26 = .ok (.iload_n 1, 1) := by decide +kernel
theorem dX6_isTrough_27 : decode cX6_isTrough 27 = .ok (.invokevirtual 47, 3) := by decide +kernel
theorem dX6_isTrough_30 : decode cX6_isTrough 30 = .ok (.aload_n 0, 1) := by decide +kernel
theorem dX6_isTrough_31 : decode cX6_isTrough 31 = .ok (.iload_n 1, 1) := by decide +kernel
theorem dX6_isTrough_32 : decode cX6_isTrough 32 = .ok (.iconst 1, 1) := by decide +kernel
theorem dX6_isTrough_33 : decode cX6_isTrough 33 = .ok (.iadd, 1) := by decide +kernel
theorem dX6_isTrough_34 : decode cX6_isTrough 34 = .ok (.invokevirtual 47, 3) := by decide +kernel
theorem dX6_isTrough_37 : decode cX6_isTrough 37 = .ok (.if_icmp .ge 7, 3) := by decide +kernel
theorem dX6_isTrough_40 : decode cX6_isTrough 40 = .ok (.iconst 1, 1) := by decide +kernel
theorem dX6_isTrough_41 : decode cX6_isTrough 41 = .ok (.goto 4, 3) := by decide +kernel
theorem dX6_isTrough_44 : decode cX6_isTrough 44 = .ok (.iconst 0, 1) := by decide +kernel
theorem dX6_isTrough_45 : decode cX6_isTrough 45 = .ok (.ireturn, 1) := by decide +kernel
theorem dX6_cell_0 : decode cX6_cell 0 = .ok (.iload_n 1, 1) := by decide +kernel
theorem dX6_cell_1 : decode cX6_cell 1 = .ok (.invokestatic 102, 3) := by decide +kernel
theorem dX6_cell_4 : decode cX6_cell 4 = .ok (.ifCond .ne 5, 3) := by decide +kernel
theorem dX6_cell_7 : decode cX6_cell 7 = .ok (.iconst (-1), 1) := by decide +kernel
theorem dX6_cell_8 : decode cX6_cell 8 = .ok (.ireturn, 1) := by decide +kernel
theorem dX6_cell_9 : decode cX6_cell 9 = .ok (.iload_n 2, 1) := by decide +kernel
theorem dX6_cell_10 : decode cX6_cell 10 = .ok (.tableswitch 82 0 3 #[30, 40, 54, 68], 30) := by decide +kernel
theorem dX6_cell_40 : decode cX6_cell 40 = .ok (.aload_n 0, 1) := by decide +kernel
theorem dX6_cell_41 : decode cX6_cell 41 = .ok (.iload_n 1, 1) := by decide +kernel
theorem dX6_cell_42 : decode cX6_cell 42 = .ok (.invokevirtual 47, 3) := by decide +kernel
theorem dX6_cell_45 : decode cX6_cell 45 = .ok (.sipush 10000, 3) := by decide +kernel
theorem dX6_cell_48 : decode cX6_cell 48 = .ok (.iadd, 1) := by decide +kernel
theorem dX6_cell_49 : decode cX6_cell 49 = .ok (.ireturn, 1) := by decide +kernel
theorem dX6_cell_50 : decode cX6_cell 50 = .ok (.aload_n 0, 1) := by decide +kernel
theorem dX6_cell_51 : decode cX6_cell 51 = .ok (.getfield 7, 3) := by decide +kernel
theorem dX6_cell_54 : decode cX6_cell 54 = .ok (.bipush 46, 2) := by decide +kernel
theorem dX6_cell_56 : decode cX6_cell 56 = .ok (.iload_n 1, 1) := by decide +kernel
theorem dX6_cell_57 : decode cX6_cell 57 = .ok (.iadd, 1) := by decide +kernel
theorem dX6_cell_58 : decode cX6_cell 58 = .ok (.iaload, 1) := by decide +kernel
theorem dX6_cell_59 : decode cX6_cell 59 = .ok (.sipush 10000, 3) := by decide +kernel
theorem dX6_cell_62 : decode cX6_cell 62 = .ok (.iadd, 1) := by decide +kernel
theorem dX6_cell_63 : decode cX6_cell 63 = .ok (.ireturn, 1) := by decide +kernel
theorem dX6_cell_64 : decode cX6_cell 64 = .ok (.aload_n 0, 1) := by decide +kernel
theorem dX6_cell_65 : decode cX6_cell 65 = .ok (.iload_n 1, 1) := by decide +kernel
theorem dX6_cell_66 : decode cX6_cell 66 = .ok (.invokevirtual 119, 3) := by decide +kernel
theorem dX6_cell_69 : decode cX6_cell 69 = .ok (.ifCond .eq 7, 3) := by decide +kernel
theorem dX6_cell_72 : decode cX6_cell 72 = .ok (.iconst 1, 1) := by decide +kernel
theorem dX6_cell_73 : decode cX6_cell 73 = .ok (.goto 4, 3) := by decide +kernel
theorem dX6_cell_76 : decode cX6_cell 76 = .ok (.iconst 0, 1) := by decide +kernel
theorem dX6_cell_77 : decode cX6_cell 77 = .ok (.ireturn, 1) := by decide +kernel
theorem dX6_cell_78 : decode cX6_cell 78 = .ok (.aload_n 0, 1) := by decide +kernel
theorem dX6_cell_79 : decode cX6_cell 79 = .ok (.iload_n 1, 1) := by decide +kernel
theorem dX6_cell_80 : decode cX6_cell 80 = .ok (.invokevirtual 122, 3) := by decide +kernel
theorem dX6_cell_83 : decode cX6_cell 83 = .ok (.ifCond .eq 7, 3) := by decide +kernel
theorem dX6_cell_86 : decode cX6_cell 86 = .ok (.iconst 1, 1) := by decide +kernel
theorem dX6_cell_87 : decode cX6_cell 87 = .ok (.goto 4, 3) := by decide +kernel
theorem dX6_cell_90 : decode cX6_cell 90 = .ok (.iconst 0, 1) := by decide +kernel
theorem dX6_cell_91 : decode cX6_cell 91 = .ok (.ireturn, 1) := by decide +kernel
theorem dX6_cell_92 : decode cX6_cell 92 = .ok (.bipush (-2), 2) := by decide +kernel
theorem dX6_cell_94 : decode cX6_cell 94 = .ok (.ireturn, 1) := by decide +kernel
theorem dX6_isRank_0 : decode cX6_isRank 0 = .ok (.iload_n 1, 1) := by decide +kernel
theorem dX6_isRank_1 : decode cX6_isRank 1 = .ok (.iconst 0, 1) := by decide +kernel
theorem dX6_isRank_2 : decode cX6_isRank 2 = .ok (.aload_n 0, 1) := by decide +kernel
theorem dX6_isRank_3 : decode cX6_isRank 3 = .ok (.getfield 7, 3) := by decide +kernel
theorem dX6_isRank_6 : decode cX6_isRank 6 = .ok (.iconst 4, 1) := by decide +kernel
theorem dX6_isRank_7 : decode cX6_isRank 7 = .ok (.iaload, 1) := by decide +kernel
theorem dX6_isRank_8 : decode cX6_isRank 8 = .ok (.iconst 1, 1) := by decide +kernel
theorem dX6_isRank_9 : decode cX6_isRank 9 = .ok (.isub, 1) := by decide +kernel
theorem dX6_isRank_10 : decode cX6_isRank 10 = .ok (.invokestatic 39, 3) := by decide +kernel
theorem dX6_isRank_13 : decode cX6_isRank 13 = .ok (.ireturn, 1) := by decide +kernel
theorem dX6_ofPaddle_0 : decode cX6_ofPaddle 0 = .ok (.aload_n 0, 1) := by decide +kernel
theorem dX6_ofPaddle_1 : decode cX6_ofPaddle 1 = .ok (.iload_n 1, 1) := by decide +kernel
theorem dX6_ofPaddle_2 : decode cX6_ofPaddle 2 = .ok (.invokevirtual 125, 3) := by decide +kernel
theorem dX6_ofPaddle_5 : decode cX6_ofPaddle 5 = .ok (.ifCond .ne 5, 3) := by decide +kernel
theorem dX6_ofPaddle_8 : decode cX6_ofPaddle 8 = .ok (.iconst (-1), 1) := by decide +kernel
theorem dX6_ofPaddle_9 : decode cX6_ofPaddle 9 = .ok (.ireturn, 1) := by decide +kernel
theorem dX6_ofPaddle_10 : decode cX6_ofPaddle 10 = .ok (.iload_n 2, 1) := by decide +kernel
theorem dX6_ofPaddle_11 : decode cX6_ofPaddle 11 = .ok (.tableswitch 69 0 6 #[41, 41, 48, 41, 41, 41, 59], 41) := by decide +kernel
theorem dX6_ofPaddle_52 : decode cX6_ofPaddle 52 = .ok (.aload_n 0, 1) := by decide +kernel
theorem dX6_ofPaddle_53 : decode cX6_ofPaddle 53 = .ok (.iload_n 1, 1) := by decide +kernel
theorem dX6_ofPaddle_54 : decode cX6_ofPaddle 54 = .ok (.iload_n 2, 1) := by decide +kernel
theorem dX6_ofPaddle_55 : decode cX6_ofPaddle 55 = .ok (.invokevirtual 43, 3) := by decide +kernel
theorem dX6_ofPaddle_58 : decode cX6_ofPaddle 58 = .ok (.ireturn, 1) := by decide +kernel
theorem dX6_ofPaddle_59 : decode cX6_ofPaddle 59 = .ok (.aload_n 0, 1) := by decide +kernel
theorem dX6_ofPaddle_60 : decode cX6_ofPaddle 60 = .ok (.iload_n 1, 1) := by decide +kernel
theorem dX6_ofPaddle_61 : decode cX6_ofPaddle 61 = .ok (.iconst 2, 1) := by decide +kernel
theorem dX6_ofPaddle_62 : decode cX6_ofPaddle 62 = .ok (.invokevirtual 43, 3) := by decide +kernel
theorem dX6_ofPaddle_65 : decode cX6_ofPaddle 65 = .ok (.sipush 1000, 3) := by decide +kernel
theorem dX6_ofPaddle_68 : decode cX6_ofPaddle 68 = .ok (.iadd, 1) := by decide +kernel
theorem dX6_ofPaddle_69 : decode cX6_ofPaddle 69 = .ok (.ireturn, 1) := by decide +kernel
theorem dX6_ofPaddle_70 : decode cX6_ofPaddle 70 = .ok (.aload_n 0, 1) := by decide +kernel
theorem dX6_ofPaddle_71 : decode cX6_ofPaddle 71 = .ok (.iload_n 1, 1) := by decide +kernel
theorem dX6_ofPaddle_72 : decode cX6_ofPaddle 72 = .ok (.invokevirtual 58, 3) := by decide +kernel
theorem dX6_ofPaddle_75 : decode cX6_ofPaddle 75 = .ok (.sipush 1000, 3) := by decide +kernel
theorem dX6_ofPaddle_78 : decode cX6_ofPaddle 78 = .ok (.iadd, 1) := by decide +kernel
theorem dX6_ofPaddle_79 : decode cX6_ofPaddle 79 = .ok (.ireturn, 1) := by decide +kernel
theorem dX6_ofPaddle_80 : decode cX6_ofPaddle 80 = .ok (.bipush (-2), 2) := by decide +kernel
theorem dX6_ofPaddle_82 : decode cX6_ofPaddle 82 = .ok (.ireturn, 1) := by decide +kernel
theorem dX6_extreme_0 : decode cX6_extreme 0 = .ok (.aload_n 0, 1) := by decide +kernel
theorem dX6_extreme_1 : decode cX6_extreme 1 = .ok (.iload_n 1, 1) := by decide +kernel
theorem dX6_extreme_2 : decode cX6_extreme 2 = .ok (.iconst 1, 1) := by decide +kernel
theorem dX6_extreme_3 : decode cX6_extreme 3 = .ok (.invokevirtual 128, 3) := by decide +kernel
theorem dX6_extreme_6 : decode cX6_extreme 6 = .ok (.istore_n 3, 1) := by decide +kernel
theorem dX6_extreme_7 : decode cX6_extreme 7 = .ok (.aload_n 0, 1) := by decide +kernel
theorem dX6_extreme_8 : decode cX6_extreme 8 = .ok (.iload_n 1, 1) := by decide +kernel
theorem dX6_extreme_9 : decode cX6_extreme 9 = .ok (.iconst 2, 1) := by decide +kernel
theorem dX6_extreme_10 : decode cX6_extreme 10 = .ok (.invokevirtual 128, 3) := by decide +kernel
theorem dX6_extreme_13 : decode cX6_extreme 13 = .ok (.istore 4, 2) := by decide +kernel
theorem dX6_extreme_15 : decode cX6_extreme 15 = .ok (.iconst 1, 1) := by decide +kernel
theorem dX6_extreme_16 : decode cX6_extreme 16 = .ok (.istore 5, 2) := by decide +kernel
theorem dX6_extreme_18 : decode cX6_extreme 18 = .ok (.iload 5, 2) := by decide +kernel
theorem dX6_extreme_20 : decode cX6_extreme 20 = .ok (.iload_n 3, 1) := by decide +kernel
theorem dX6_extreme_21 : decode cX6_extreme 21 = .ok (.if_icmp .ge 50, 3) := by decide +kernel
theorem dX6_extreme_24 : decode cX6_extreme 24 = .ok (.aload_n 0, 1) := by decide +kernel
theorem dX6_extreme_25 : decode cX6_extreme 25 = .ok (.iload_n 1, 1) := by decide +kernel
theorem dX6_extreme_26 : decode cX6_extreme 26 = .ok (.iconst 2, 1) := by decide +kernel
theorem dX6_extreme_27 : decode cX6_extreme 27 = .ok (.iload 5, 2) := by decide +kernel
theorem dX6_extreme_29 : decode cX6_extreme 29 = .ok (.iadd, 1) := by decide +kernel
theorem dX6_extreme_30 : decode cX6_extreme 30 = .ok (.invokevirtual 128, 3) := by decide +kernel
theorem dX6_extreme_33 : decode cX6_extreme 33 = .ok (.istore 6, 2) := by decide +kernel
theorem dX6_extreme_35 : decode cX6_extreme 35 = .ok (.iload_n 2, 1) := by decide +kernel
theorem dX6_extreme_36 : decode cX6_extreme 36 = .ok (.ifCond .eq 13, 3) := by decide +kernel
theorem dX6_extreme_39 : decode cX6_extreme 39 = .ok (.iload 6, 2) := by decide +kernel
theorem dX6_extreme_41 : decode cX6_extreme 41 = .ok (.iload 4, 2) := by decide +kernel
theorem dX6_extreme_43 : decode cX6_extreme 43 = .ok (.if_icmp .le 18, 3) := by decide +kernel
theorem dX6_extreme_46 : decode cX6_extreme 46 = .ok (.goto 10, 3) := by decide +kernel
theorem dX6_extreme_49 : decode cX6_extreme 49 = .ok (.iload 6, 2) := by decide +kernel
theorem dX6_extreme_51 : decode cX6_extreme 51 = .ok (.iload 4, 2) := by decide +kernel
theorem dX6_extreme_53 : decode cX6_extreme 53 = .ok (.if_icmp .ge 8, 3) := by decide +kernel
theorem dX6_extreme_56 : decode cX6_extreme 56 = .ok (.iload 6, 2) := by decide +kernel
theorem dX6_extreme_58 : decode cX6_extreme 58 = .ok (.goto 5, 3) := by decide +kernel
theorem dX6_extreme_61 : decode cX6_extreme 61 = .ok (.iload 4, 2) := by decide +kernel
theorem dX6_extreme_63 : decode cX6_extreme 63 = .ok (.istore 4, 2) := by decide +kernel
theorem dX6_extreme_65 : decode cX6_extreme 65 = .ok (.iinc 5 1, 3) := by decide +kernel
theorem dX6_extreme_68 : decode cX6_extreme 68 = .ok (.goto (-50), 3) := by decide +kernel
theorem dX6_extreme_71 : decode cX6_extreme 71 = .ok (.iload_n 3, 1) := by decide +kernel
theorem dX6_extreme_72 : decode cX6_extreme 72 = .ok (.ifCond .ne 8, 3) := by decide +kernel
theorem dX6_extreme_75 : decode cX6_extreme 75 = .ok (.bipush (-6), 2) := by decide +kernel
theorem dX6_extreme_77 : decode cX6_extreme 77 = .ok (.goto 9, 3) := by decide +kernel
theorem dX6_extreme_80 : decode cX6_extreme 80 = .ok (.iload 4, 2) := by decide +kernel
theorem dX6_extreme_82 : decode cX6_extreme 82 = .ok (.sipush 10000, 3) := by decide +kernel
theorem dX6_extreme_85 : decode cX6_extreme 85 = .ok (.iadd, 1) := by decide +kernel
theorem dX6_extreme_86 : decode cX6_extreme 86 = .ok (.ireturn, 1) := by decide +kernel
theorem dX6_risings_0 : decode cX6_risings 0 = .ok (.iconst 0, 1) := by decide +kernel
theorem dX6_risings_1 : decode cX6_risings 1 = .ok (.istore_n 2, 1) := by decide +kernel
theorem dX6_risings_2 : decode cX6_risings 2 = .ok (.iconst 1, 1) := by decide +kernel
theorem dX6_risings_3 : decode cX6_risings 3 = .ok (.istore_n 3, 1) := by decide +kernel
theorem dX6_risings_4 : decode cX6_risings 4 = .ok (.iload_n 3, 1) := by decide +kernel
theorem dX6_risings_5 : decode cX6_risings 5 = .ok (.aload_n 0, 1) := by decide +kernel
theorem dX6_risings_6 : decode cX6_risings 6 = .ok (.iload_n 1, 1) := by decide +kernel
theorem dX6_risings_7 : decode cX6_risings 7 = .ok (.iconst 1, 1) := by decide +kernel
theorem dX6_risings_8 : decode cX6_risings 8 = .ok (.invokevirtual 128, 3) := by decide +kernel
theorem dX6_risings_11 : decode cX6_risings 11 = .ok (.if_icmp .ge 41, 3) := by decide +kernel
theorem dX6_risings_14 : decode cX6_risings 14 = .ok (.iload_n 2, 1) := by decide +kernel
theorem dX6_risings_15 : decode cX6_risings 15 = .ok (.aload_n 0, 1) := by decide +kernel
theorem dX6_risings_16 : decode cX6_risings 16 = .ok (.iload_n 1, 1) := by decide +kernel
theorem dX6_risings_17 : decode cX6_risings 17 = .ok (.iconst 2, 1) := by decide +kernel
theorem dX6_risings_18 : decode cX6_risings 18 = .ok (.iload_n 3, 1) := by decide +kernel
theorem dX6_risings_19 : decode cX6_risings 19 = .ok (.iadd, 1) := by decide +kernel
theorem dX6_risings_20 : decode cX6_risings 20 = .ok (.invokevirtual 128, 3) := by decide +kernel
theorem dX6_risings_23 : decode cX6_risings 23 = .ok (.ifCond .lt 20, 3) := by decide +kernel
theorem dX6_risings_26 : decode cX6_risings 26 = .ok (.aload_n 0, 1) := by decide +kernel
theorem dX6_risings_27 : decode cX6_risings 27 = .ok (.iload_n 1, 1) := by decide +kernel
theorem dX6_risings_28 : decode cX6_risings 28 = .ok (.iconst 2, 1) := by decide +kernel
theorem dX6_risings_29 : decode cX6_risings 29 = .ok (.iload_n 3, 1) := by decide +kernel
theorem dX6_risings_30 : decode cX6_risings 30 = .ok (.iadd, 1) := by decide +kernel
theorem dX6_risings_31 : decode cX6_risings 31 = .ok (.iconst 1, 1) := by decide +kernel
theorem dX6_risings_32 : decode cX6_risings 32 = .ok (.isub, 1) := by decide +kernel
theorem dX6_risings_33 : decode cX6_risings 33 = .ok (.invokevirtual 128, 3) := by decide +kernel
theorem dX6_risings_36 : decode cX6_risings 36 = .ok (.ifCond .ge 7, 3) := by decide +kernel
theorem dX6_risings_39 : decode cX6_risings 39 = .ok (.iconst 1, 1) := by decide +kernel
theorem dX6_risings_40 : decode cX6_risings 40 = .ok (.goto 4, 3) := by decide +kernel
theorem dX6_risings_43 : decode cX6_risings 43 = .ok (.iconst 0, 1) := by decide +kernel
theorem dX6_risings_44 : decode cX6_risings 44 = .ok (.iadd, 1) := by decide +kernel
theorem dX6_risings_45 : decode cX6_risings 45 = .ok (.istore_n 2, 1) := by decide +kernel
theorem dX6_risings_46 : decode cX6_risings 46 = .ok (.iinc 3 1, 3) := by decide +kernel
theorem dX6_risings_49 : decode cX6_risings 49 = .ok (.goto (-45), 3) := by decide +kernel
theorem dX6_risings_52 : decode cX6_risings 52 = .ok (.iload_n 2, 1) := by decide +kernel
theorem dX6_risings_53 : decode cX6_risings 53 = .ok (.ireturn, 1) := by decide +kernel
theorem dX6_isGauge_0 : decode cX6_isGauge 0 = .ok (.iload_n 1, 1) := by decide +kernel
theorem dX6_isGauge_1 : decode cX6_isGauge 1 = .ok (.iconst 0, 1) := by decide +kernel
theorem dX6_isGauge_2 : decode cX6_isGauge 2 = .ok (.aload_n 0, 1) := by decide +kernel
theorem dX6_isGauge_3 : decode cX6_isGauge 3 = .ok (.getfield 7, 3) := by decide +kernel
theorem dX6_isGauge_6 : decode cX6_isGauge 6 = .ok (.iconst 5, 1) := by decide +kernel
theorem dX6_isGauge_7 : decode cX6_isGauge 7 = .ok (.iaload, 1) := by decide +kernel
theorem dX6_isGauge_8 : decode cX6_isGauge 8 = .ok (.iconst 1, 1) := by decide +kernel
theorem dX6_isGauge_9 : decode cX6_isGauge 9 = .ok (.isub, 1) := by decide +kernel
theorem dX6_isGauge_10 : decode cX6_isGauge 10 = .ok (.invokestatic 39, 3) := by decide +kernel
theorem dX6_isGauge_13 : decode cX6_isGauge 13 = .ok (.ireturn, 1) := by decide +kernel
theorem dX6_ofGauge_0 : decode cX6_ofGauge 0 = .ok (.aload_n 0, 1) := by decide +kernel
theorem dX6_ofGauge_1 : decode cX6_ofGauge 1 = .ok (.iload_n 1, 1) := by decide +kernel
theorem dX6_ofGauge_2 : decode cX6_ofGauge 2 = .ok (.invokevirtual 131, 3) := by decide +kernel
theorem dX6_ofGauge_5 : decode cX6_ofGauge 5 = .ok (.ifCond .ne 5, 3) := by decide +kernel
theorem dX6_ofGauge_8 : decode cX6_ofGauge 8 = .ok (.iconst (-1), 1) := by decide +kernel
theorem dX6_ofGauge_9 : decode cX6_ofGauge 9 = .ok (.ireturn, 1) := by decide +kernel
theorem dX6_ofGauge_10 : decode cX6_ofGauge 10 = .ok (.iload_n 2, 1) := by decide +kernel
theorem dX6_ofGauge_11 : decode cX6_ofGauge 11 = .ok (.tableswitch 60 0 4 #[33, 33, 40, 47, 54], 33) := by decide +kernel
theorem dX6_ofGauge_44 : decode cX6_ofGauge 44 = .ok (.aload_n 0, 1) := by decide +kernel
theorem dX6_ofGauge_45 : decode cX6_ofGauge 45 = .ok (.iload_n 1, 1) := by decide +kernel
theorem dX6_ofGauge_46 : decode cX6_ofGauge 46 = .ok (.iload_n 2, 1) := by decide +kernel
theorem dX6_ofGauge_47 : decode cX6_ofGauge 47 = .ok (.invokevirtual 128, 3) := by decide +kernel
theorem dX6_ofGauge_50 : decode cX6_ofGauge 50 = .ok (.ireturn, 1) := by decide +kernel
theorem dX6_ofGauge_51 : decode cX6_ofGauge 51 = .ok (.aload_n 0, 1) := by decide +kernel
theorem dX6_ofGauge_52 : decode cX6_ofGauge 52 = .ok (.iload_n 1, 1) := by decide +kernel
theorem dX6_ofGauge_53 : decode cX6_ofGauge 53 = .ok (.iconst 1, 1) := by decide +kernel
theorem dX6_ofGauge_54 : decode cX6_ofGauge 54 = .ok (.invokevirtual 134, 3) := by decide +kernel
theorem dX6_ofGauge_57 : decode cX6_ofGauge 57 = .ok (.ireturn, 1) := by decide +kernel
theorem dX6_ofGauge_58 : decode cX6_ofGauge 58 = .ok (.aload_n 0, 1) := by decide +kernel
theorem dX6_ofGauge_59 : decode cX6_ofGauge 59 = .ok (.iload_n 1, 1) := by decide +kernel
theorem dX6_ofGauge_60 : decode cX6_ofGauge 60 = .ok (.iconst 0, 1) := by decide +kernel
theorem dX6_ofGauge_61 : decode cX6_ofGauge 61 = .ok (.invokevirtual 134, 3) := by decide +kernel
theorem dX6_ofGauge_64 : decode cX6_ofGauge 64 = .ok (.ireturn, 1) := by decide +kernel
theorem dX6_ofGauge_65 : decode cX6_ofGauge 65 = .ok (.aload_n 0, 1) := by decide +kernel
theorem dX6_ofGauge_66 : decode cX6_ofGauge 66 = .ok (.iload_n 1, 1) := by decide +kernel
theorem dX6_ofGauge_67 : decode cX6_ofGauge 67 = .ok (.invokevirtual 138, 3) := by decide +kernel
theorem dX6_ofGauge_70 : decode cX6_ofGauge 70 = .ok (.ireturn, 1) := by decide +kernel
theorem dX6_ofGauge_71 : decode cX6_ofGauge 71 = .ok (.bipush (-2), 2) := by decide +kernel
theorem dX6_ofGauge_73 : decode cX6_ofGauge 73 = .ok (.ireturn, 1) := by decide +kernel
theorem dX6_noted_0 : decode cX6_noted 0 = .ok (.aload_n 0, 1) := by decide +kernel
theorem dX6_noted_1 : decode cX6_noted 1 = .ok (.iload_n 1, 1) := by decide +kernel
theorem dX6_noted_2 : decode cX6_noted 2 = .ok (.invokevirtual 131, 3) := by decide +kernel
theorem dX6_noted_5 : decode cX6_noted 5 = .ok (.ifCond .eq 19, 3) := by decide +kernel
theorem dX6_noted_8 : decode cX6_noted 8 = .ok (.iload_n 2, 1) := by decide +kernel
theorem dX6_noted_9 : decode cX6_noted 9 = .ok (.iconst 0, 1) := by decide +kernel
theorem dX6_noted_10 : decode cX6_noted 10 = .ok (.aload_n 0, 1) := by decide +kernel
theorem dX6_noted_11 : decode cX6_noted 11 = .ok (.iload_n 1, 1) := by decide +kernel
theorem dX6_noted_12 : decode cX6_noted 12 = .ok (.iconst 1, 1) := by decide +kernel
theorem dX6_noted_13 : decode cX6_noted 13 = .ok (.invokevirtual 128, 3) := by decide +kernel
theorem dX6_noted_16 : decode cX6_noted 16 = .ok (.iconst 1, 1) := by decide +kernel
theorem dX6_noted_17 : decode cX6_noted 17 = .ok (.isub, 1) := by decide +kernel
theorem dX6_noted_18 : decode cX6_noted 18 = .ok (.invokestatic 39, 3) := by decide +kernel
theorem dX6_noted_21 : decode cX6_noted 21 = .ok (.ifCond .ne 5, 3) := by decide +kernel
theorem dX6_noted_24 : decode cX6_noted 24 = .ok (.iconst (-1), 1) := by decide +kernel
theorem dX6_noted_25 : decode cX6_noted 25 = .ok (.ireturn, 1) := by decide +kernel
theorem dX6_noted_26 : decode cX6_noted 26 = .ok (.aload_n 0, 1) := by decide +kernel
theorem dX6_noted_27 : decode cX6_noted 27 = .ok (.iload_n 1, 1) := by decide +kernel
theorem dX6_noted_28 : decode cX6_noted 28 = .ok (.iconst 2, 1) := by decide +kernel
theorem dX6_noted_29 : decode cX6_noted 29 = .ok (.aload_n 0, 1) := by decide +kernel
theorem dX6_noted_30 : decode cX6_noted 30 = .ok (.iload_n 1, 1) := by decide +kernel
theorem dX6_noted_31 : decode cX6_noted 31 = .ok (.iconst 1, 1) := by decide +kernel
theorem dX6_noted_32 : decode cX6_noted 32 = .ok (.invokevirtual 128, 3) := by decide +kernel
theorem dX6_noted_35 : decode cX6_noted 35 = .ok (.iadd, 1) := by decide +kernel
theorem dX6_noted_36 : decode cX6_noted 36 = .ok (.iconst 1, 1) := by decide +kernel
theorem dX6_noted_37 : decode cX6_noted 37 = .ok (.isub, 1) := by decide +kernel
theorem dX6_noted_38 : decode cX6_noted 38 = .ok (.iload_n 2, 1) := by decide +kernel
theorem dX6_noted_39 : decode cX6_noted 39 = .ok (.isub, 1) := by decide +kernel
theorem dX6_noted_40 : decode cX6_noted 40 = .ok (.invokevirtual 128, 3) := by decide +kernel
theorem dX6_noted_43 : decode cX6_noted 43 = .ok (.sipush 10000, 3) := by decide +kernel
theorem dX6_noted_46 : decode cX6_noted 46 = .ok (.iadd, 1) := by decide +kernel
theorem dX6_noted_47 : decode cX6_noted 47 = .ok (.ireturn, 1) := by decide +kernel
theorem dX6_isPlace_0 : decode cX6_isPlace 0 = .ok (.aload_n 0, 1) := by decide +kernel
theorem dX6_isPlace_1 : decode cX6_isPlace 1 = .ok (.iload_n 1, 1) := by decide +kernel
theorem dX6_isPlace_2 : decode cX6_isPlace 2 = .ok (.invokevirtual 87, 3) := by decide +kernel
theorem dX6_isPlace_5 : decode cX6_isPlace 5 = .ok (.istore_n 3, 1) := by decide +kernel
theorem dX6_isPlace_6 : decode cX6_isPlace 6 = .ok (.iload_n 2, 1) := by decide +kernel
theorem dX6_isPlace_7 : decode cX6_isPlace 7 = .ok (.tableswitch 67 0 3 #[29, 35, 41, 55], 29) := by decide +kernel
theorem dX6_isPlace_36 : decode cX6_isPlace 36 = .ok (.aload_n 0, 1) := by decide +kernel
theorem dX6_isPlace_37 : decode cX6_isPlace 37 = .ok (.iload_n 1, 1) := by decide +kernel
theorem dX6_isPlace_38 : decode cX6_isPlace 38 = .ok (.invokevirtual 119, 3) := by decide +kernel
theorem dX6_isPlace_41 : decode cX6_isPlace 41 = .ok (.ireturn, 1) := by decide +kernel
theorem dX6_isPlace_42 : decode cX6_isPlace 42 = .ok (.aload_n 0, 1) := by decide +kernel
theorem dX6_isPlace_43 : decode cX6_isPlace 43 = .ok (.iload_n 1, 1) := by decide +kernel
theorem dX6_isPlace_44 : decode cX6_isPlace 44 = .ok (.invokevirtual 122, 3) := by decide +kernel
theorem dX6_isPlace_47 : decode cX6_isPlace 47 = .ok (.ireturn, 1) := by decide +kernel
theorem dX6_isPlace_48 : decode cX6_isPlace 48 = .ok (.aload_n 0, 1) := by decide +kernel
theorem dX6_isPlace_49 : decode cX6_isPlace 49 = .ok (.iload_n 1, 1) := by decide +kernel
theorem dX6_isPlace_50 : decode cX6_isPlace 50 = .ok (.invokevirtual 47, 3) := by decide +kernel
theorem dX6_isPlace_53 : decode cX6_isPlace 53 = .ok (.ifCond .eq 7, 3) := by decide +kernel
theorem dX6_isPlace_56 : decode cX6_isPlace 56 = .ok (.iconst 1, 1) := by decide +kernel
theorem dX6_isPlace_57 : decode cX6_isPlace 57 = .ok (.goto 4, 3) := by decide +kernel
theorem dX6_isPlace_60 : decode cX6_isPlace 60 = .ok (.iconst 0, 1) := by decide +kernel
theorem dX6_isPlace_61 : decode cX6_isPlace 61 = .ok (.ireturn, 1) := by decide +kernel
theorem dX6_isPlace_62 : decode cX6_isPlace 62 = .ok (.iload_n 3, 1) := by decide +kernel
theorem dX6_isPlace_63 : decode cX6_isPlace 63 = .ok (.bipush (-6), 2) := by decide +kernel
theorem dX6_isPlace_65 : decode cX6_isPlace 65 = .ok (.if_icmp .eq 7, 3) := by decide +kernel
theorem dX6_isPlace_68 : decode cX6_isPlace 68 = .ok (.iconst 1, 1) := by decide +kernel
theorem dX6_isPlace_69 : decode cX6_isPlace 69 = .ok (.goto 4, 3) := by decide +kernel
theorem dX6_isPlace_72 : decode cX6_isPlace 72 = .ok (.iconst 0, 1) := by decide +kernel
theorem dX6_isPlace_73 : decode cX6_isPlace 73 = .ok (.ireturn, 1) := by decide +kernel
theorem dX6_isPlace_74 : decode cX6_isPlace 74 = .ok (.iload_n 3, 1) := by decide +kernel
theorem dX6_isPlace_75 : decode cX6_isPlace 75 = .ok (.bipush (-6), 2) := by decide +kernel
theorem dX6_isPlace_77 : decode cX6_isPlace 77 = .ok (.if_icmp .eq 16, 3) := by decide +kernel
theorem dX6_isPlace_80 : decode cX6_isPlace 80 = .ok (.aload_n 0, 1) := by decide +kernel
theorem dX6_isPlace_81 : decode cX6_isPlace 81 = .ok (.iload_n 3, 1) := by decide +kernel
theorem dX6_isPlace_82 : decode cX6_isPlace 82 = .ok (.iconst 5, 1) := by decide +kernel
theorem dX6_isPlace_83 : decode cX6_isPlace 83 = .ok (.invokevirtual 43, 3) := by decide +kernel
theorem dX6_isPlace_86 : decode cX6_isPlace 86 = .ok (.ifCond .ne 7, 3) := by decide +kernel
theorem dX6_isPlace_89 : decode cX6_isPlace 89 = .ok (.iconst 1, 1) := by decide +kernel
theorem dX6_isPlace_90 : decode cX6_isPlace 90 = .ok (.goto 4, 3) := by decide +kernel
theorem dX6_isPlace_93 : decode cX6_isPlace 93 = .ok (.iconst 0, 1) := by decide +kernel
theorem dX6_isPlace_94 : decode cX6_isPlace 94 = .ok (.ireturn, 1) := by decide +kernel
theorem dX6_places_0 : decode cX6_places 0 = .ok (.iload_n 1, 1) := by decide +kernel
theorem dX6_places_1 : decode cX6_places 1 = .ok (.iconst 0, 1) := by decide +kernel
theorem dX6_places_2 : decode cX6_places 2 = .ok (.iconst 4, 1) := by decide +kernel
theorem dX6_places_3 : decode cX6_places 3 = .ok (.invokestatic 39, 3) := by decide +kernel
theorem dX6_places_6 : decode cX6_places 6 = .ok (.ifCond .ne 7, 3) := by decide +kernel
theorem dX6_places_9 : decode cX6_places 9 = .ok (.ldc2_w 141, 3) := by decide +kernel
theorem dX6_places_12 : decode cX6_places 12 = .ok (.lreturn, 1) := by decide +kernel
theorem dX6_places_13 : decode cX6_places 13 = .ok (.lconst 0, 1) := by decide +kernel
theorem dX6_places_14 : decode cX6_places 14 = .ok (.lstore_n 2, 1) := by decide +kernel
theorem dX6_places_15 : decode cX6_places 15 = .ok (.iconst 0, 1) := by decide +kernel
theorem dX6_places_16 : decode cX6_places 16 = .ok (.istore 4, 2) := by decide +kernel
theorem dX6_places_18 : decode cX6_places 18 = .ok (.iload 4, 2) := by decide +kernel
theorem dX6_places_20 : decode cX6_places 20 = .ok (.bipush 40, 2) := by decide +kernel
theorem dX6_places_22 : decode cX6_places 22 = .ok (.if_icmp .ge 30, 3) := by decide +kernel
theorem dX6_places_25 : decode cX6_places 25 = .ok (.lload_n 2, 1) := by decide +kernel
theorem dX6_places_26 : decode cX6_places 26 = .ok (.aload_n 0, 1) := by decide +kernel
theorem dX6_places_27 : decode cX6_places 27 = .ok (.iload 4, 2) := by decide +kernel
theorem dX6_places_29 : decode cX6_places 29 = .ok (.iload_n 1, 1) := by decide +kernel
theorem dX6_places_30 : decode cX6_places 30 = .ok (.invokevirtual 143, 3) := by decide +kernel
theorem dX6_places_33 : decode cX6_places 33 = .ok (.ifCond .eq 10, 3) := by decide +kernel
theorem dX6_places_36 : decode cX6_places 36 = .ok (.lconst 1, 1) := by decide +kernel
theorem dX6_places_37 : decode cX6_places 37 = .ok (.iload 4, 2) := by decide +kernel
theorem dX6_places_39 : decode cX6_places 39 = .ok (.lshl, 1) := by decide +kernel
theorem dX6_places_40 : decode cX6_places 40 = .ok (.goto 4, 3) := by decide +kernel
theorem dX6_places_43 : decode cX6_places 43 = .ok (.lconst 0, 1) := by decide +kernel
theorem dX6_places_44 : decode cX6_places 44 = .ok (.lor, 1) := by decide +kernel
theorem dX6_places_45 : decode cX6_places 45 = .ok (.lstore_n 2, 1) := by decide +kernel
theorem dX6_places_46 : decode cX6_places 46 = .ok (.iinc 4 1, 3) := by decide +kernel
theorem dX6_places_49 : decode cX6_places 49 = .ok (.goto (-31), 3) := by decide +kernel
theorem dX6_places_52 : decode cX6_places 52 = .ok (.lload_n 2, 1) := by decide +kernel
theorem dX6_places_53 : decode cX6_places 53 = .ok (.lreturn, 1) := by decide +kernel
theorem dX6_stopped_0 : decode cX6_stopped 0 = .ok (.iconst 0, 1) := by decide +kernel
theorem dX6_stopped_1 : decode cX6_stopped 1 = .ok (.istore_n 1, 1) := by decide +kernel
theorem dX6_stopped_2 : decode cX6_stopped 2 = .ok (.iconst 0, 1) := by decide +kernel
theorem dX6_stopped_3 : decode cX6_stopped 3 = .ok (.istore_n 2, 1) := by decide +kernel
theorem dX6_stopped_4 : decode cX6_stopped 4 = .ok (.iload_n 2, 1) := by decide +kernel
theorem dX6_stopped_5 : decode cX6_stopped 5 = .ok (.aload_n 0, 1) := by decide +kernel
theorem dX6_stopped_6 : decode cX6_stopped 6 = .ok (.getfield 7, 3) := by decide +kernel
theorem dX6_stopped_9 : decode cX6_stopped 9 = .ok (.iconst 4, 1) := by decide +kernel
theorem dX6_stopped_10 : decode cX6_stopped 10 = .ok (.iaload, 1) := by decide +kernel
theorem dX6_stopped_11 : decode cX6_stopped 11 = .ok (.if_icmp .ge 20, 3) := by decide +kernel
theorem dX6_stopped_14 : decode cX6_stopped 14 = .ok (.iload_n 1, 1) := by decide +kernel
theorem dX6_stopped_15 : decode cX6_stopped 15 = .ok (.iconst 1, 1) := by decide +kernel
theorem dX6_stopped_16 : decode cX6_stopped 16 = .ok (.aload_n 0, 1) := by decide +kernel
theorem dX6_stopped_17 : decode cX6_stopped 17 = .ok (.iload_n 2, 1) := by decide +kernel
theorem dX6_stopped_18 : decode cX6_stopped 18 = .ok (.iconst 5, 1) := by decide +kernel
theorem dX6_stopped_19 : decode cX6_stopped 19 = .ok (.invokevirtual 43, 3) := by decide +kernel
theorem dX6_stopped_22 : decode cX6_stopped 22 = .ok (.isub, 1) := by decide +kernel
theorem dX6_stopped_23 : decode cX6_stopped 23 = .ok (.iadd, 1) := by decide +kernel
theorem dX6_stopped_24 : decode cX6_stopped 24 = .ok (.istore_n 1, 1) := by decide +kernel
theorem dX6_stopped_25 : decode cX6_stopped 25 = .ok (.iinc 2 1, 3) := by decide +kernel
theorem dX6_stopped_28 : decode cX6_stopped 28 = .ok (.goto (-24), 3) := by decide +kernel
theorem dX6_stopped_31 : decode cX6_stopped 31 = .ok (.iload_n 1, 1) := by decide +kernel
theorem dX6_stopped_32 : decode cX6_stopped 32 = .ok (.ireturn, 1) := by decide +kernel
theorem dX6_sumOfLevels_0 : decode cX6_sumOfLevels 0 = .ok (.iconst 0, 1) := by decide +kernel
theorem dX6_sumOfLevels_1 : decode cX6_sumOfLevels 1 = .ok (.istore_n 1, 1) := by decide +kernel
theorem dX6_sumOfLevels_2 : decode cX6_sumOfLevels 2 = .ok (.iconst 0, 1) := by decide +kernel
theorem dX6_sumOfLevels_3 : decode cX6_sumOfLevels 3 = .ok (.istore_n 2, 1) := by decide +kernel
theorem dX6_sumOfLevels_4 : decode cX6_sumOfLevels 4 = .ok (.iload_n 2, 1) := by decide +kernel
theorem dX6_sumOfLevels_5 : decode cX6_sumOfLevels 5 = .ok (.bipush 40, 2) := by decide +kernel
theorem dX6_sumOfLevels_7 : decode cX6_sumOfLevels 7 = .ok (.if_icmp .ge 17, 3) := by decide +kernel
theorem dX6_sumOfLevels_10 : decode cX6_sumOfLevels 10 = .ok (.iload_n 1, 1) := by decide +kernel
theorem dX6_sumOfLevels_11 : decode cX6_sumOfLevels 11 = .ok (.aload_n 0, 1) := by decide +kernel
theorem dX6_sumOfLevels_12 : decode cX6_sumOfLevels 12 = .ok (.iload_n 2, 1) := by decide +kernel
theorem dX6_sumOfLevels_13 : decode cX6_sumOfLevels 13 = .ok (.invokevirtual 47, 3) := by decide +kernel
theorem dX6_sumOfLevels_16 : decode cX6_sumOfLevels 16 = .ok (.iadd, 1) := by decide +kernel
theorem dX6_sumOfLevels_17 : decode cX6_sumOfLevels 17 = .ok (.istore_n 1, 1) := by decide +kernel
theorem dX6_sumOfLevels_18 : decode cX6_sumOfLevels 18 = .ok (.iinc 2 1, 3) := by decide +kernel
theorem dX6_sumOfLevels_21 : decode cX6_sumOfLevels 21 = .ok (.goto (-17), 3) := by decide +kernel
theorem dX6_sumOfLevels_24 : decode cX6_sumOfLevels 24 = .ok (.iload_n 1, 1) := by decide +kernel
theorem dX6_sumOfLevels_25 : decode cX6_sumOfLevels 25 = .ok (.ireturn, 1) := by decide +kernel
theorem dX6_swings_0 : decode cX6_swings 0 = .ok (.iconst 0, 1) := by decide +kernel
theorem dX6_swings_1 : decode cX6_swings 1 = .ok (.istore_n 1, 1) := by decide +kernel
theorem dX6_swings_2 : decode cX6_swings 2 = .ok (.iconst 0, 1) := by decide +kernel
theorem dX6_swings_3 : decode cX6_swings 3 = .ok (.istore_n 2, 1) := by decide +kernel
theorem dX6_swings_4 : decode cX6_swings 4 = .ok (.iload_n 2, 1) := by decide +kernel
theorem dX6_swings_5 : decode cX6_swings 5 = .ok (.bipush 40, 2) := by decide +kernel
theorem dX6_swings_7 : decode cX6_swings 7 = .ok (.if_icmp .ge 33, 3) := by decide +kernel
theorem dX6_swings_10 : decode cX6_swings 10 = .ok (.iload_n 1, 1) := by decide +kernel
theorem dX6_swings_11 : decode cX6_swings 11 = .ok (.aload_n 0, 1) := by decide +kernel
theorem dX6_swings_12 : decode cX6_swings 12 = .ok (.iload_n 2, 1) := by decide +kernel
theorem dX6_swings_13 : decode cX6_swings 13 = .ok (.invokevirtual 47, 3) := by decide +kernel
theorem dX6_swings_16 : decode cX6_swings 16 = .ok (.invokestatic 51, 3) := by decide +kernel
theorem dX6_swings_19 : decode cX6_swings 19 = .ok (.aload_n 0, 1) := by decide +kernel
theorem dX6_swings_20 : decode cX6_swings 20 = .ok (.getfield 7, 3) := by decide +kernel
theorem dX6_swings_23 : decode cX6_swings 23 = .ok (.bipush 46, 2) := by decide +kernel
theorem dX6_swings_25 : decode cX6_swings 25 = .ok (.iload_n 2, 1) := by decide +kernel
theorem dX6_swings_26 : decode cX6_swings 26 = .ok (.iadd, 1) := by decide +kernel
theorem dX6_swings_27 : decode cX6_swings 27 = .ok (.iaload, 1) := by decide +kernel
theorem dX6_swings_28 : decode cX6_swings 28 = .ok (.invokestatic 51, 3) := by decide +kernel
theorem dX6_swings_31 : decode cX6_swings 31 = .ok (.iadd, 1) := by decide +kernel
theorem dX6_swings_32 : decode cX6_swings 32 = .ok (.iadd, 1) := by decide +kernel
theorem dX6_swings_33 : decode cX6_swings 33 = .ok (.istore_n 1, 1) := by decide +kernel
theorem dX6_swings_34 : decode cX6_swings 34 = .ok (.iinc 2 1, 3) := by decide +kernel
theorem dX6_swings_37 : decode cX6_swings 37 = .ok (.goto (-33), 3) := by decide +kernel
theorem dX6_swings_40 : decode cX6_swings 40 = .ok (.iload_n 1, 1) := by decide +kernel
theorem dX6_swings_41 : decode cX6_swings 41 = .ok (.ireturn, 1) := by decide +kernel
theorem dX6_greatest_0 : decode cX6_greatest 0 = .ok (.iconst 0, 1) := by decide +kernel
theorem dX6_greatest_1 : decode cX6_greatest 1 = .ok (.istore_n 1, 1) := by decide +kernel
theorem dX6_greatest_2 : decode cX6_greatest 2 = .ok (.iconst 0, 1) := by decide +kernel
theorem dX6_greatest_3 : decode cX6_greatest 3 = .ok (.istore_n 2, 1) := by decide +kernel
theorem dX6_greatest_4 : decode cX6_greatest 4 = .ok (.iload_n 2, 1) := by decide +kernel
theorem dX6_greatest_5 : decode cX6_greatest 5 = .ok (.bipush 40, 2) := by decide +kernel
theorem dX6_greatest_7 : decode cX6_greatest 7 = .ok (.if_icmp .ge 34, 3) := by decide +kernel
theorem dX6_greatest_10 : decode cX6_greatest 10 = .ok (.aload_n 0, 1) := by decide +kernel
theorem dX6_greatest_11 : decode cX6_greatest 11 = .ok (.iload_n 2, 1) := by decide +kernel
theorem dX6_greatest_12 : decode cX6_greatest 12 = .ok (.invokevirtual 47, 3) := by decide +kernel
theorem dX6_greatest_15 : decode cX6_greatest 15 = .ok (.invokestatic 51, 3) := by decide +kernel
theorem dX6_greatest_18 : decode cX6_greatest 18 = .ok (.iload_n 1, 1) := by decide +kernel
theorem dX6_greatest_19 : decode cX6_greatest 19 = .ok (.if_icmp .le 14, 3) := by decide +kernel
theorem dX6_greatest_22 : decode cX6_greatest 22 = .ok (.aload_n 0, 1) := by decide +kernel
theorem dX6_greatest_23 : decode cX6_greatest 23 = .ok (.iload_n 2, 1) := by decide +kernel
theorem dX6_greatest_24 : decode cX6_greatest 24 = .ok (.invokevirtual 47, 3) := by decide +kernel
theorem dX6_greatest_27 : decode cX6_greatest 27 = .ok (.invokestatic 51, 3) := by decide +kernel
theorem dX6_greatest_30 : decode cX6_greatest 30 = .ok (.goto 4, 3) := by decide +kernel
theorem dX6_greatest_33 : decode cX6_greatest 33 = .ok (.iload_n 1, 1) := by decide +kernel
theorem dX6_greatest_34 : decode cX6_greatest 34 = .ok (.istore_n 1, 1) := by decide +kernel
theorem dX6_greatest_35 : decode cX6_greatest 35 = .ok (.iinc 2 1, 3) := by decide +kernel
theorem dX6_greatest_38 : decode cX6_greatest 38 = .ok (.goto (-34), 3) := by decide +kernel
theorem dX6_greatest_41 : decode cX6_greatest 41 = .ok (.iload_n 1, 1) := by decide +kernel
theorem dX6_greatest_42 : decode cX6_greatest 42 = .ok (.ireturn, 1) := by decide +kernel
theorem dX6_lastSwung_0 : decode cX6_lastSwung 0 = .ok (.bipush (-6), 2) := by decide +kernel
theorem dX6_lastSwung_2 : decode cX6_lastSwung 2 = .ok (.istore_n 1, 1) := by decide +kernel
theorem dX6_lastSwung_3 : decode cX6_lastSwung 3 = .ok (.iconst 0, 1) := by decide +kernel
theorem dX6_lastSwung_4 : decode cX6_lastSwung 4 = .ok (.istore_n 2, 1) := by decide +kernel
theorem dX6_lastSwung_5 : decode cX6_lastSwung 5 = .ok (.iload_n 2, 1) := by decide +kernel
theorem dX6_lastSwung_6 : decode cX6_lastSwung 6 = .ok (.bipush 40, 2) := by decide +kernel
theorem dX6_lastSwung_8 : decode cX6_lastSwung 8 = .ok (.if_icmp .ge 23, 3) := by decide +kernel
theorem dX6_lastSwung_11 : decode cX6_lastSwung 11 = .ok (.aload_n 0, 1) := by decide +kernel
theorem dX6_lastSwung_12 : decode cX6_lastSwung 12 = .ok (.iload_n 2, 1) := by decide +kernel
theorem dX6_lastSwung_13 : decode cX6_lastSwung 13 = .ok (.invokevirtual 47, 3) := by decide +kernel
theorem dX6_lastSwung_16 : decode cX6_lastSwung 16 = .ok (.ifCond .eq 7, 3) := by decide +kernel
theorem dX6_lastSwung_19 : decode cX6_lastSwung 19 = .ok (.iload_n 2, 1) := by decide +kernel
theorem dX6_lastSwung_20 : decode cX6_lastSwung 20 = .ok (.goto 4, 3) := by decide +kernel
theorem dX6_lastSwung_23 : decode cX6_lastSwung 23 = .ok (.iload_n 1, 1) := by decide +kernel
theorem dX6_lastSwung_24 : decode cX6_lastSwung 24 = .ok (.istore_n 1, 1) := by decide +kernel
theorem dX6_lastSwung_25 : decode cX6_lastSwung 25 = .ok (.iinc 2 1, 3) := by decide +kernel
theorem dX6_lastSwung_28 : decode cX6_lastSwung 28 = .ok (.goto (-23), 3) := by decide +kernel
theorem dX6_lastSwung_31 : decode cX6_lastSwung 31 = .ok (.iload_n 1, 1) := by decide +kernel
theorem dX6_lastSwung_32 : decode cX6_lastSwung 32 = .ok (.ireturn, 1) := by decide +kernel
theorem dX6_count_0 : decode cX6_count 0 = .ok (.iload_n 1, 1) := by decide +kernel
theorem dX6_count_1 : decode cX6_count 1 = .ok (.tableswitch 136 0 12 #[67, 74, 81, 86, 93, 101, 106, 111, 116, 116, 116, 126, 131], 67) := by decide +kernel
theorem dX6_count_68 : decode cX6_count 68 = .ok (.aload_n 0, 1) := by decide +kernel
theorem dX6_count_69 : decode cX6_count 69 = .ok (.getfield 7, 3) := by decide +kernel
theorem dX6_count_72 : decode cX6_count 72 = .ok (.iconst 3, 1) := by decide +kernel
theorem dX6_count_73 : decode cX6_count 73 = .ok (.iaload, 1) := by decide +kernel
theorem dX6_count_74 : decode cX6_count 74 = .ok (.ireturn, 1) := by decide +kernel
theorem dX6_count_75 : decode cX6_count 75 = .ok (.aload_n 0, 1) := by decide +kernel
theorem dX6_count_76 : decode cX6_count 76 = .ok (.getfield 7, 3) := by decide +kernel
theorem dX6_count_79 : decode cX6_count 79 = .ok (.iconst 4, 1) := by decide +kernel
theorem dX6_count_80 : decode cX6_count 80 = .ok (.iaload, 1) := by decide +kernel
theorem dX6_count_81 : decode cX6_count 81 = .ok (.ireturn, 1) := by decide +kernel
theorem dX6_count_82 : decode cX6_count 82 = .ok (.aload_n 0, 1) := by decide +kernel
theorem dX6_count_83 : decode cX6_count 83 = .ok (.invokevirtual 146, 3) := by decide +kernel
theorem dX6_count_86 : decode cX6_count 86 = .ok (.ireturn, 1) := by decide +kernel
theorem dX6_count_87 : decode cX6_count 87 = .ok (.aload_n 0, 1) := by decide +kernel
theorem dX6_count_88 : decode cX6_count 88 = .ok (.getfield 7, 3) := by decide +kernel
theorem dX6_count_91 : decode cX6_count 91 = .ok (.iconst 5, 1) := by decide +kernel
theorem dX6_count_92 : decode cX6_count 92 = .ok (.iaload, 1) := by decide +kernel
theorem dX6_count_93 : decode cX6_count 93 = .ok (.ireturn, 1) := by decide +kernel
theorem dX6_count_94 : decode cX6_count 94 = .ok (.aload_n 0, 1) := by decide +kernel
theorem dX6_count_95 : decode cX6_count 95 = .ok (.invokevirtual 149, 3) := by decide +kernel
theorem dX6_count_98 : decode cX6_count 98 = .ok (.ldc 152, 2) := by decide +kernel
theorem dX6_count_100 : decode cX6_count 100 = .ok (.iadd, 1) := by decide +kernel
theorem dX6_count_101 : decode cX6_count 101 = .ok (.ireturn, 1) := by decide +kernel
theorem dX6_count_102 : decode cX6_count 102 = .ok (.aload_n 0, 1) := by decide +kernel
theorem dX6_count_103 : decode cX6_count 103 = .ok (.invokevirtual 153, 3) := by decide +kernel
theorem dX6_count_106 : decode cX6_count 106 = .ok (.ireturn, 1) := by decide +kernel
theorem dX6_count_107 : decode cX6_count 107 = .ok (.aload_n 0, 1) := by decide +kernel
theorem dX6_count_108 : decode cX6_count 108 = .ok (.invokevirtual 156, 3) := by decide +kernel
theorem dX6_count_111 : decode cX6_count 111 = .ok (.ireturn, 1) := by decide +kernel
theorem dX6_count_112 : decode cX6_count 112 = .ok (.aload_n 0, 1) := by decide +kernel
theorem dX6_count_113 : decode cX6_count 113 = .ok (.invokevirtual 159, 3) := by decide +kernel
theorem dX6_count_116 : decode cX6_count 116 = .ok (.ireturn, 1) := by decide +kernel
theorem dX6_count_117 : decode cX6_count 117 = .ok (.aload_n 0, 1) := by decide +kernel
theorem dX6_count_118 : decode cX6_count 118 = .ok (.getfield 7, 3) := by decide +kernel
theorem dX6_count_121 : decode cX6_count 121 = .ok (.iload_n 1, 1) := by decide +kernel
theorem dX6_count_122 : decode cX6_count 122 = .ok (.bipush 8, 2) := by decide +kernel
theorem dX6_count_124 : decode cX6_count 124 = .ok (.isub, 1) := by decide +kernel
theorem dX6_count_125 : decode cX6_count 125 = .ok (.iaload, 1) := by decide +kernel
theorem dX6_count_126 : decode cX6_count 126 = .ok (.ireturn, 1) := by decide +kernel
theorem dX6_count_127 : decode cX6_count 127 = .ok (.aload_n 0, 1) := by decide +kernel
theorem dX6_count_128 : decode cX6_count 128 = .ok (.getfield 162, 3) := by decide +kernel
theorem dX6_count_131 : decode cX6_count 131 = .ok (.ireturn, 1) := by decide +kernel
theorem dX6_count_132 : decode cX6_count 132 = .ok (.aload_n 0, 1) := by decide +kernel
theorem dX6_count_133 : decode cX6_count 133 = .ok (.getfield 31, 3) := by decide +kernel
theorem dX6_count_136 : decode cX6_count 136 = .ok (.ireturn, 1) := by decide +kernel
theorem dX6_count_137 : decode cX6_count 137 = .ok (.bipush (-2), 2) := by decide +kernel
theorem dX6_count_139 : decode cX6_count 139 = .ok (.ireturn, 1) := by decide +kernel
theorem dX6_reaches_0 : decode cX6_reaches 0 = .ok (.iload_n 1, 1) := by decide +kernel
theorem dX6_reaches_1 : decode cX6_reaches 1 = .ok (.invokestatic 102, 3) := by decide +kernel
theorem dX6_reaches_4 : decode cX6_reaches 4 = .ok (.ifCond .ne 5, 3) := by decide +kernel
theorem dX6_reaches_7 : decode cX6_reaches 7 = .ok (.iconst (-1), 1) := by decide +kernel
theorem dX6_reaches_8 : decode cX6_reaches 8 = .ok (.ireturn, 1) := by decide +kernel
theorem dX6_reaches_9 : decode cX6_reaches 9 = .ok (.iload_n 2, 1) := by decide +kernel
theorem dX6_reaches_10 : decode cX6_reaches 10 = .ok (.iconst 1, 1) := by decide +kernel
theorem dX6_reaches_11 : decode cX6_reaches 11 = .ok (.sipush 9999, 3) := by decide +kernel
theorem dX6_reaches_14 : decode cX6_reaches 14 = .ok (.invokestatic 39, 3) := by decide +kernel
theorem dX6_reaches_17 : decode cX6_reaches 17 = .ok (.ifCond .ne 6, 3) := by decide +kernel
theorem dX6_reaches_20 : decode cX6_reaches 20 = .ok (.bipush (-2), 2) := by decide +kernel
theorem dX6_reaches_22 : decode cX6_reaches 22 = .ok (.ireturn, 1) := by decide +kernel
theorem dX6_reaches_23 : decode cX6_reaches 23 = .ok (.aload_n 0, 1) := by decide +kernel
theorem dX6_reaches_24 : decode cX6_reaches 24 = .ok (.getfield 7, 3) := by decide +kernel
theorem dX6_reaches_27 : decode cX6_reaches 27 = .ok (.iconst 0, 1) := by decide +kernel
theorem dX6_reaches_28 : decode cX6_reaches 28 = .ok (.aload_n 0, 1) := by decide +kernel
theorem dX6_reaches_29 : decode cX6_reaches 29 = .ok (.getfield 13, 3) := by decide +kernel
theorem dX6_reaches_32 : decode cX6_reaches 32 = .ok (.iconst 0, 1) := by decide +kernel
theorem dX6_reaches_33 : decode cX6_reaches 33 = .ok (.invokestatic 35, 3) := by decide +kernel
theorem dX6_reaches_36 : decode cX6_reaches 36 = .ok (.iconst 0, 1) := by decide +kernel
theorem dX6_reaches_37 : decode cX6_reaches 37 = .ok (.istore_n 3, 1) := by decide +kernel
theorem dX6_reaches_38 : decode cX6_reaches 38 = .ok (.aload_n 0, 1) := by decide +kernel
theorem dX6_reaches_39 : decode cX6_reaches 39 = .ok (.iload_n 1, 1) := by decide +kernel
theorem dX6_reaches_40 : decode cX6_reaches 40 = .ok (.invokevirtual 47, 3) := by decide +kernel
theorem dX6_reaches_43 : decode cX6_reaches 43 = .ok (.invokestatic 51, 3) := by decide +kernel
theorem dX6_reaches_46 : decode cX6_reaches 46 = .ok (.iload_n 2, 1) := by decide +kernel
theorem dX6_reaches_47 : decode cX6_reaches 47 = .ok (.if_icmp .ge 21, 3) := by decide +kernel
theorem dX6_reaches_50 : decode cX6_reaches 50 = .ok (.iload_n 3, 1) := by decide +kernel
theorem dX6_reaches_51 : decode cX6_reaches 51 = .ok (.sipush 500, 3) := by decide +kernel
theorem dX6_reaches_54 : decode cX6_reaches 54 = .ok (.if_icmp .ge 14, 3) := by decide +kernel
theorem dX6_reaches_57 : decode cX6_reaches 57 = .ok (.aload_n 0, 1) := by decide +kernel
theorem dX6_reaches_58 : decode cX6_reaches 58 = .ok (.invokevirtual 77, 3) := by decide +kernel
theorem dX6_reaches_61 : decode cX6_reaches 61 = .ok (.pop, 1) := by decide +kernel
theorem dX6_reaches_62 : decode cX6_reaches 62 = .ok (.iinc 3 1, 3) := by decide +kernel
theorem dX6_reaches_65 : decode cX6_reaches 65 = .ok (.goto (-27), 3) := by decide +kernel
theorem dX6_reaches_68 : decode cX6_reaches 68 = .ok (.aload_n 0, 1) := by decide +kernel
theorem dX6_reaches_69 : decode cX6_reaches 69 = .ok (.iload_n 1, 1) := by decide +kernel
theorem dX6_reaches_70 : decode cX6_reaches 70 = .ok (.invokevirtual 47, 3) := by decide +kernel
theorem dX6_reaches_73 : decode cX6_reaches 73 = .ok (.invokestatic 51, 3) := by decide +kernel
theorem dX6_reaches_76 : decode cX6_reaches 76 = .ok (.iload_n 2, 1) := by decide +kernel
theorem dX6_reaches_77 : decode cX6_reaches 77 = .ok (.if_icmp .ge 8, 3) := by decide +kernel
theorem dX6_reaches_80 : decode cX6_reaches 80 = .ok (.bipush (-6), 2) := by decide +kernel
theorem dX6_reaches_82 : decode cX6_reaches 82 = .ok (.goto 4, 3) := by decide +kernel
theorem dX6_reaches_85 : decode cX6_reaches 85 = .ok (.iload_n 3, 1) := by decide +kernel
theorem dX6_reaches_86 : decode cX6_reaches 86 = .ok (.istore 4, 2) := by decide +kernel
theorem dX6_reaches_88 : decode cX6_reaches 88 = .ok (.aload_n 0, 1) := by decide +kernel
theorem dX6_reaches_89 : decode cX6_reaches 89 = .ok (.getfield 13, 3) := by decide +kernel
theorem dX6_reaches_92 : decode cX6_reaches 92 = .ok (.iconst 0, 1) := by decide +kernel
theorem dX6_reaches_93 : decode cX6_reaches 93 = .ok (.aload_n 0, 1) := by decide +kernel
theorem dX6_reaches_94 : decode cX6_reaches 94 = .ok (.getfield 7, 3) := by decide +kernel
theorem dX6_reaches_97 : decode cX6_reaches 97 = .ok (.iconst 0, 1) := by decide +kernel
theorem dX6_reaches_98 : decode cX6_reaches 98 = .ok (.invokestatic 35, 3) := by decide +kernel
theorem dX6_reaches_101 : decode cX6_reaches 101 = .ok (.iload 4, 2) := by decide +kernel
theorem dX6_reaches_103 : decode cX6_reaches 103 = .ok (.ireturn, 1) := by decide +kernel
theorem dX6_bestPeriod_0 : decode cX6_bestPeriod 0 = .ok (.aload_n 0, 1) := by decide +kernel
theorem dX6_bestPeriod_1 : decode cX6_bestPeriod 1 = .ok (.iload_n 1, 1) := by decide +kernel
theorem dX6_bestPeriod_2 : decode cX6_bestPeriod 2 = .ok (.invokevirtual 125, 3) := by decide +kernel
theorem dX6_bestPeriod_5 : decode cX6_bestPeriod 5 = .ok (.ifCond .eq 10, 3) := by decide +kernel
theorem dX6_bestPeriod_8 : decode cX6_bestPeriod 8 = .ok (.iload_n 2, 1) := by decide +kernel
theorem dX6_bestPeriod_9 : decode cX6_bestPeriod 9 = .ok (.invokestatic 102, 3) := by decide +kernel
theorem dX6_bestPeriod_12 : decode cX6_bestPeriod 12 = .ok (.ifCond .ne 5, 3) := by decide +kernel
theorem dX6_bestPeriod_15 : decode cX6_bestPeriod 15 = .ok (.iconst (-1), 1) := by decide +kernel
theorem dX6_bestPeriod_16 : decode cX6_bestPeriod 16 = .ok (.ireturn, 1) := by decide +kernel
theorem dX6_bestPeriod_17 : decode cX6_bestPeriod 17 = .ok (.iload_n 3, 1) := by decide +kernel
theorem dX6_bestPeriod_18 : decode cX6_bestPeriod 18 = .ok (.iconst 1, 1) := by decide +kernel
theorem dX6_bestPeriod_19 : decode cX6_bestPeriod 19 = .ok (.bipush 99, 2) := by decide +kernel
theorem dX6_bestPeriod_21 : decode cX6_bestPeriod 21 = .ok (.invokestatic 39, 3) := by decide +kernel
theorem dX6_bestPeriod_24 : decode cX6_bestPeriod 24 = .ok (.ifCond .eq 13, 3) := by decide +kernel
theorem dX6_bestPeriod_27 : decode cX6_bestPeriod 27 = .ok (.iload 4, 2) := by decide +kernel
theorem dX6_bestPeriod_29 : decode cX6_bestPeriod 29 = .ok (.iconst 0, 1) := by decide +kernel
theorem dX6_bestPeriod_30 : decode cX6_bestPeriod 30 = .ok (.iconst 1, 1) := by decide +kernel
theorem dX6_bestPeriod_31 : decode cX6_bestPeriod 31 = .ok (.invokestatic 39, 3) := by decide +kernel
theorem dX6_bestPeriod_34 : decode cX6_bestPeriod 34 = .ok (.ifCond .ne 6, 3) := by decide +kernel
theorem dX6_bestPeriod_37 : decode cX6_bestPeriod 37 = .ok (.bipush (-2), 2) := by decide +kernel
theorem dX6_bestPeriod_39 : decode cX6_bestPeriod 39 = .ok (.ireturn, 1) := by decide +kernel
theorem dX6_bestPeriod_40 : decode cX6_bestPeriod 40 = .ok (.aload_n 0, 1) := by decide +kernel
theorem dX6_bestPeriod_41 : decode cX6_bestPeriod 41 = .ok (.getfield 7, 3) := by decide +kernel
theorem dX6_bestPeriod_44 : decode cX6_bestPeriod 44 = .ok (.iconst 0, 1) := by decide +kernel
theorem dX6_bestPeriod_45 : decode cX6_bestPeriod 45 = .ok (.aload_n 0, 1) := by decide +kernel
theorem dX6_bestPeriod_46 : decode cX6_bestPeriod 46 = .ok (.getfield 13, 3) := by decide +kernel
theorem dX6_bestPeriod_49 : decode cX6_bestPeriod 49 = .ok (.iconst 0, 1) := by decide +kernel
theorem dX6_bestPeriod_50 : decode cX6_bestPeriod 50 = .ok (.invokestatic 35, 3) := by decide +kernel
theorem dX6_bestPeriod_53 : decode cX6_bestPeriod 53 = .ok (.bipush (-6), 2) := by decide +kernel
theorem dX6_bestPeriod_55 : decode cX6_bestPeriod 55 = .ok (.istore 5, 2) := by decide +kernel
theorem dX6_bestPeriod_57 : decode cX6_bestPeriod 57 = .ok (.iconst (-1), 1) := by decide +kernel
theorem dX6_bestPeriod_58 : decode cX6_bestPeriod 58 = .ok (.istore 6, 2) := by decide +kernel
theorem dX6_bestPeriod_60 : decode cX6_bestPeriod 60 = .ok (.iconst 1, 1) := by decide +kernel
theorem dX6_bestPeriod_61 : decode cX6_bestPeriod 61 = .ok (.istore 7, 2) := by decide +kernel
theorem dX6_bestPeriod_63 : decode cX6_bestPeriod 63 = .ok (.iload 7, 2) := by decide +kernel
theorem dX6_bestPeriod_65 : decode cX6_bestPeriod 65 = .ok (.bipush 60, 2) := by decide +kernel
theorem dX6_bestPeriod_67 : decode cX6_bestPeriod 67 = .ok (.if_icmp .gt 113, 3) := by decide +kernel
theorem dX6_bestPeriod_70 : decode cX6_bestPeriod 70 = .ok (.aload_n 0, 1) := by decide +kernel
theorem dX6_bestPeriod_71 : decode cX6_bestPeriod 71 = .ok (.iload_n 1, 1) := by decide +kernel
theorem dX6_bestPeriod_72 : decode cX6_bestPeriod 72 = .ok (.iconst 3, 1) := by decide +kernel
theorem dX6_bestPeriod_73 : decode cX6_bestPeriod 73 = .ok (.iload 7, 2) := by decide +kernel
theorem dX6_bestPeriod_75 : decode cX6_bestPeriod 75 = .ok (.invokevirtual 54, 3) := by decide +kernel
theorem dX6_bestPeriod_78 : decode cX6_bestPeriod 78 = .ok (.iconst 0, 1) := by decide +kernel
theorem dX6_bestPeriod_79 : decode cX6_bestPeriod 79 = .ok (.istore 8, 2) := by decide +kernel
theorem dX6_bestPeriod_81 : decode cX6_bestPeriod 81 = .ok (.iconst 0, 1) := by decide +kernel
theorem dX6_bestPeriod_82 : decode cX6_bestPeriod 82 = .ok (.istore 9, 2) := by decide +kernel
theorem dX6_bestPeriod_84 : decode cX6_bestPeriod 84 = .ok (.iload 9, 2) := by decide +kernel
theorem dX6_bestPeriod_86 : decode cX6_bestPeriod 86 = .ok (.iload_n 3, 1) := by decide +kernel
theorem dX6_bestPeriod_87 : decode cX6_bestPeriod 87 = .ok (.if_icmp .ge 42, 3) := by decide +kernel
theorem dX6_bestPeriod_90 : decode cX6_bestPeriod 90 = .ok (.aload_n 0, 1) := by decide +kernel
theorem dX6_bestPeriod_91 : decode cX6_bestPeriod 91 = .ok (.invokevirtual 77, 3) := by decide +kernel
theorem dX6_bestPeriod_94 : decode cX6_bestPeriod 94 = .ok (.pop, 1) := by decide +kernel
theorem dX6_bestPeriod_95 : decode cX6_bestPeriod 95 = .ok (.aload_n 0, 1) := by decide +kernel
theorem dX6_bestPeriod_96 : decode cX6_bestPeriod 96 = .ok (.iload_n 2, 1) := by decide +kernel
theorem dX6_bestPeriod_97 : decode cX6_bestPeriod 97 = .ok (.invokevirtual 47, 3) := by decide +kernel
theorem dX6_bestPeriod_100 : decode cX6_bestPeriod 100 = .ok (.invokestatic 51, 3) := by decide +kernel
theorem dX6_bestPeriod_103 : decode cX6_bestPeriod 103 = .ok (.iload 8, 2) := by decide +kernel
theorem dX6_bestPeriod_105 : decode cX6_bestPeriod 105 = .ok (.if_icmp .le 14, 3) := by decide +kernel
theorem dX6_bestPeriod_108 : decode cX6_bestPeriod 108 = .ok (.aload_n 0, 1) := by decide +kernel
theorem dX6_bestPeriod_109 : decode cX6_bestPeriod 109 = .ok (.iload_n 2, 1) := by decide +kernel
theorem dX6_bestPeriod_110 : decode cX6_bestPeriod 110 = .ok (.invokevirtual 47, 3) := by decide +kernel
theorem dX6_bestPeriod_113 : decode cX6_bestPeriod 113 = .ok (.invokestatic 51, 3) := by decide +kernel
theorem dX6_bestPeriod_116 : decode cX6_bestPeriod 116 = .ok (.goto 5, 3) := by decide +kernel
theorem dX6_bestPeriod_119 : decode cX6_bestPeriod 119 = .ok (.iload 8, 2) := by decide +kernel
theorem dX6_bestPeriod_121 : decode cX6_bestPeriod 121 = .ok (.istore 8, 2) := by decide +kernel
theorem dX6_bestPeriod_123 : decode cX6_bestPeriod 123 = .ok (.iinc 9 1, 3) := by decide +kernel
theorem dX6_bestPeriod_126 : decode cX6_bestPeriod 126 = .ok (.goto (-42), 3) := by decide +kernel
theorem dX6_bestPeriod_129 : decode cX6_bestPeriod 129 = .ok (.aload_n 0, 1) := by decide +kernel
theorem dX6_bestPeriod_130 : decode cX6_bestPeriod 130 = .ok (.getfield 13, 3) := by decide +kernel
theorem dX6_bestPeriod_133 : decode cX6_bestPeriod 133 = .ok (.iconst 0, 1) := by decide +kernel
theorem dX6_bestPeriod_134 : decode cX6_bestPeriod 134 = .ok (.aload_n 0, 1) := by decide +kernel
theorem dX6_bestPeriod_135 : decode cX6_bestPeriod 135 = .ok (.getfield 7, 3) := by decide +kernel
theorem dX6_bestPeriod_138 : decode cX6_bestPeriod 138 = .ok (.iconst 0, 1) := by decide +kernel
theorem dX6_bestPeriod_139 : decode cX6_bestPeriod 139 = .ok (.invokestatic 35, 3) := by decide +kernel
theorem dX6_bestPeriod_142 : decode cX6_bestPeriod 142 = .ok (.iload 8, 2) := by decide +kernel
theorem dX6_bestPeriod_144 : decode cX6_bestPeriod 144 = .ok (.iload 6, 2) := by decide +kernel
theorem dX6_bestPeriod_146 : decode cX6_bestPeriod 146 = .ok (.if_icmp .le 8, 3) := by decide +kernel
theorem dX6_bestPeriod_149 : decode cX6_bestPeriod 149 = .ok (.iload 7, 2) := by decide +kernel
theorem dX6_bestPeriod_151 : decode cX6_bestPeriod 151 = .ok (.goto 5, 3) := by decide +kernel
theorem dX6_bestPeriod_154 : decode cX6_bestPeriod 154 = .ok (.iload 5, 2) := by decide +kernel
theorem dX6_bestPeriod_156 : decode cX6_bestPeriod 156 = .ok (.istore 5, 2) := by decide +kernel
theorem dX6_bestPeriod_158 : decode cX6_bestPeriod 158 = .ok (.iload 8, 2) := by decide +kernel
theorem dX6_bestPeriod_160 : decode cX6_bestPeriod 160 = .ok (.iload 6, 2) := by decide +kernel
theorem dX6_bestPeriod_162 : decode cX6_bestPeriod 162 = .ok (.if_icmp .le 8, 3) := by decide +kernel
theorem dX6_bestPeriod_165 : decode cX6_bestPeriod 165 = .ok (.iload 8, 2) := by decide +kernel
theorem dX6_bestPeriod_167 : decode cX6_bestPeriod 167 = .ok (.goto 5, 3) := by decide +kernel
theorem dX6_bestPeriod_170 : decode cX6_bestPeriod 170 = .ok (.iload 6, 2) := by decide +kernel
theorem dX6_bestPeriod_172 : decode cX6_bestPeriod 172 = .ok (.istore 6, 2) := by decide +kernel
theorem dX6_bestPeriod_174 : decode cX6_bestPeriod 174 = .ok (.iinc 7 1, 3) := by decide +kernel
theorem dX6_bestPeriod_177 : decode cX6_bestPeriod 177 = .ok (.goto (-114), 3) := by decide +kernel
theorem dX6_bestPeriod_180 : decode cX6_bestPeriod 180 = .ok (.iload 4, 2) := by decide +kernel
theorem dX6_bestPeriod_182 : decode cX6_bestPeriod 182 = .ok (.ifCond .ne 8, 3) := by decide +kernel
theorem dX6_bestPeriod_185 : decode cX6_bestPeriod 185 = .ok (.iload 5, 2) := by decide +kernel
theorem dX6_bestPeriod_187 : decode cX6_bestPeriod 187 = .ok (.goto 5, 3) := by decide +kernel
theorem dX6_bestPeriod_190 : decode cX6_bestPeriod 190 = .ok (.iload 6, 2) := by decide +kernel
theorem dX6_bestPeriod_192 : decode cX6_bestPeriod 192 = .ok (.ireturn, 1) := by decide +kernel
theorem dX6_calmIn_0 : decode cX6_calmIn 0 = .ok (.aload_n 0, 1) := by decide +kernel
theorem dX6_calmIn_1 : decode cX6_calmIn 1 = .ok (.getfield 7, 3) := by decide +kernel
theorem dX6_calmIn_4 : decode cX6_calmIn 4 = .ok (.iconst 0, 1) := by decide +kernel
theorem dX6_calmIn_5 : decode cX6_calmIn 5 = .ok (.aload_n 0, 1) := by decide +kernel
theorem dX6_calmIn_6 : decode cX6_calmIn 6 = .ok (.getfield 13, 3) := by decide +kernel
theorem dX6_calmIn_9 : decode cX6_calmIn 9 = .ok (.iconst 0, 1) := by decide +kernel
theorem dX6_calmIn_10 : decode cX6_calmIn 10 = .ok (.invokestatic 35, 3) := by decide +kernel
theorem dX6_calmIn_13 : decode cX6_calmIn 13 = .ok (.aload_n 0, 1) := by decide +kernel
theorem dX6_calmIn_14 : decode cX6_calmIn 14 = .ok (.getfield 7, 3) := by decide +kernel
theorem dX6_calmIn_17 : decode cX6_calmIn 17 = .ok (.iconst 4, 1) := by decide +kernel
theorem dX6_calmIn_18 : decode cX6_calmIn 18 = .ok (.iconst 0, 1) := by decide +kernel
theorem dX6_calmIn_19 : decode cX6_calmIn 19 = .ok (.iastore, 1) := by decide +kernel
theorem dX6_calmIn_20 : decode cX6_calmIn 20 = .ok (.iconst 0, 1) := by decide +kernel
theorem dX6_calmIn_21 : decode cX6_calmIn 21 = .ok (.istore_n 1, 1) := by decide +kernel
theorem dX6_calmIn_22 : decode cX6_calmIn 22 = .ok (.aload_n 0, 1) := by decide +kernel
theorem dX6_calmIn_23 : decode cX6_calmIn 23 = .ok (.invokevirtual 153, 3) := by decide +kernel
theorem dX6_calmIn_26 : decode cX6_calmIn 26 = .ok (.ifCond .le 21, 3) := by decide +kernel
theorem dX6_calmIn_29 : decode cX6_calmIn 29 = .ok (.iload_n 1, 1) := by decide +kernel
theorem dX6_calmIn_30 : decode cX6_calmIn 30 = .ok (.sipush 500, 3) := by decide +kernel
theorem dX6_calmIn_33 : decode cX6_calmIn 33 = .ok (.if_icmp .ge 14, 3) := by decide +kernel
theorem dX6_calmIn_36 : decode cX6_calmIn 36 = .ok (.aload_n 0, 1) := by decide +kernel
theorem dX6_calmIn_37 : decode cX6_calmIn 37 = .ok (.invokevirtual 77, 3) := by decide +kernel
theorem dX6_calmIn_40 : decode cX6_calmIn 40 = .ok (.pop, 1) := by decide +kernel
theorem dX6_calmIn_41 : decode cX6_calmIn 41 = .ok (.iinc 1 1, 3) := by decide +kernel
theorem dX6_calmIn_44 : decode cX6_calmIn 44 = .ok (.goto (-22), 3) := by decide +kernel
theorem dX6_calmIn_47 : decode cX6_calmIn 47 = .ok (.aload_n 0, 1) := by decide +kernel
theorem dX6_calmIn_48 : decode cX6_calmIn 48 = .ok (.invokevirtual 153, 3) := by decide +kernel
theorem dX6_calmIn_51 : decode cX6_calmIn 51 = .ok (.ifCond .le 8, 3) := by decide +kernel
theorem dX6_calmIn_54 : decode cX6_calmIn 54 = .ok (.bipush (-6), 2) := by decide +kernel
theorem dX6_calmIn_56 : decode cX6_calmIn 56 = .ok (.goto 4, 3) := by decide +kernel
theorem dX6_calmIn_59 : decode cX6_calmIn 59 = .ok (.iload_n 1, 1) := by decide +kernel
theorem dX6_calmIn_60 : decode cX6_calmIn 60 = .ok (.istore_n 2, 1) := by decide +kernel
theorem dX6_calmIn_61 : decode cX6_calmIn 61 = .ok (.aload_n 0, 1) := by decide +kernel
theorem dX6_calmIn_62 : decode cX6_calmIn 62 = .ok (.getfield 13, 3) := by decide +kernel
theorem dX6_calmIn_65 : decode cX6_calmIn 65 = .ok (.iconst 0, 1) := by decide +kernel
theorem dX6_calmIn_66 : decode cX6_calmIn 66 = .ok (.aload_n 0, 1) := by decide +kernel
theorem dX6_calmIn_67 : decode cX6_calmIn 67 = .ok (.getfield 7, 3) := by decide +kernel
theorem dX6_calmIn_70 : decode cX6_calmIn 70 = .ok (.iconst 0, 1) := by decide +kernel
theorem dX6_calmIn_71 : decode cX6_calmIn 71 = .ok (.invokestatic 35, 3) := by decide +kernel
theorem dX6_calmIn_74 : decode cX6_calmIn 74 = .ok (.iload_n 2, 1) := by decide +kernel
theorem dX6_calmIn_75 : decode cX6_calmIn 75 = .ok (.ireturn, 1) := by decide +kernel
theorem dX6_put_0 : decode cX6_put 0 = .ok (.iconst 0, 1) := by decide +kernel
theorem dX6_put_1 : decode cX6_put 1 = .ok (.istore_n 3, 1) := by decide +kernel
theorem dX6_put_2 : decode cX6_put 2 = .ok (.lload_n 1, 1) := by decide +kernel
theorem dX6_put_3 : decode cX6_put 3 = .ok (.lstore 4, 2) := by decide +kernel
theorem dX6_put_5 : decode cX6_put 5 = .ok (.iconst 1, 1) := by decide +kernel
theorem dX6_put_6 : decode cX6_put 6 = .ok (.istore 6, 2) := by decide +kernel
theorem dX6_put_8 : decode cX6_put 8 = .ok (.iload_n 3, 1) := by decide +kernel
theorem dX6_put_9 : decode cX6_put 9 = .ok (.bipush 8, 2) := by decide +kernel
theorem dX6_put_11 : decode cX6_put 11 = .ok (.if_icmp .ge 56, 3) := by decide +kernel
theorem dX6_put_14 : decode cX6_put 14 = .ok (.lload 4, 2) := by decide +kernel
theorem dX6_put_16 : decode cX6_put 16 = .ok (.ldc2_w 165, 3) := by decide +kernel
theorem dX6_put_19 : decode cX6_put 19 = .ok (.land, 1) := by decide +kernel
theorem dX6_put_20 : decode cX6_put 20 = .ok (.lconst 0, 1) := by decide +kernel
theorem dX6_put_21 : decode cX6_put 21 = .ok (.lcmp, 1) := by decide +kernel
theorem dX6_put_22 : decode cX6_put 22 = .ok (.ifCond .eq 45, 3) := by decide +kernel
theorem dX6_put_25 : decode cX6_put 25 = .ok (.iload 6, 2) := by decide +kernel
theorem dX6_put_27 : decode cX6_put 27 = .ok (.ifCond .eq 24, 3) := by decide +kernel
theorem dX6_put_30 : decode cX6_put 30 = .ok (.lload 4, 2) := by decide +kernel
theorem dX6_put_32 : decode cX6_put 32 = .ok (.ldc2_w 165, 3) := by decide +kernel
theorem dX6_put_35 : decode cX6_put 35 = .ok (.land, 1) := by decide +kernel
theorem dX6_put_36 : decode cX6_put 36 = .ok (.l2i, 1) := by decide +kernel
theorem dX6_put_37 : decode cX6_put 37 = .ok (.bipush 33, 2) := by decide +kernel
theorem dX6_put_39 : decode cX6_put 39 = .ok (.bipush 126, 2) := by decide +kernel
theorem dX6_put_41 : decode cX6_put 41 = .ok (.invokestatic 39, 3) := by decide +kernel
theorem dX6_put_44 : decode cX6_put 44 = .ok (.ifCond .eq 7, 3) := by decide +kernel
theorem dX6_put_47 : decode cX6_put 47 = .ok (.iconst 1, 1) := by decide +kernel
theorem dX6_put_48 : decode cX6_put 48 = .ok (.goto 4, 3) := by decide +kernel
theorem dX6_put_51 : decode cX6_put 51 = .ok (.iconst 0, 1) := by decide +kernel
theorem dX6_put_52 : decode cX6_put 52 = .ok (.istore 6, 2) := by decide +kernel
theorem dX6_put_54 : decode cX6_put 54 = .ok (.lload 4, 2) := by decide +kernel
theorem dX6_put_56 : decode cX6_put 56 = .ok (.bipush 8, 2) := by decide +kernel
theorem dX6_put_58 : decode cX6_put 58 = .ok (.lushr, 1) := by decide +kernel
theorem dX6_put_59 : decode cX6_put 59 = .ok (.lstore 4, 2) := by decide +kernel
theorem dX6_put_61 : decode cX6_put 61 = .ok (.iinc 3 1, 3) := by decide +kernel
theorem dX6_put_64 : decode cX6_put 64 = .ok (.goto (-56), 3) := by decide +kernel
theorem dX6_put_67 : decode cX6_put 67 = .ok (.iload_n 3, 1) := by decide +kernel
theorem dX6_put_68 : decode cX6_put 68 = .ok (.ifCond .eq 15, 3) := by decide +kernel
theorem dX6_put_71 : decode cX6_put 71 = .ok (.iload 6, 2) := by decide +kernel
theorem dX6_put_73 : decode cX6_put 73 = .ok (.ifCond .eq 10, 3) := by decide +kernel
theorem dX6_put_76 : decode cX6_put 76 = .ok (.lload 4, 2) := by decide +kernel
theorem dX6_put_78 : decode cX6_put 78 = .ok (.lconst 0, 1) := by decide +kernel
theorem dX6_put_79 : decode cX6_put 79 = .ok (.lcmp, 1) := by decide +kernel
theorem dX6_put_80 : decode cX6_put 80 = .ok (.ifCond .eq 6, 3) := by decide +kernel
theorem dX6_put_83 : decode cX6_put 83 = .ok (.bipush (-2), 2) := by decide +kernel
theorem dX6_put_85 : decode cX6_put 85 = .ok (.ireturn, 1) := by decide +kernel
theorem dX6_put_86 : decode cX6_put 86 = .ok (.aload_n 0, 1) := by decide +kernel
theorem dX6_put_87 : decode cX6_put 87 = .ok (.getfield 162, 3) := by decide +kernel
theorem dX6_put_90 : decode cX6_put 90 = .ok (.iload_n 3, 1) := by decide +kernel
theorem dX6_put_91 : decode cX6_put 91 = .ok (.iadd, 1) := by decide +kernel
theorem dX6_put_92 : decode cX6_put 92 = .ok (.bipush 80, 2) := by decide +kernel
theorem dX6_put_94 : decode cX6_put 94 = .ok (.if_icmp .le 6, 3) := by decide +kernel
theorem dX6_put_97 : decode cX6_put 97 = .ok (.bipush (-4), 2) := by decide +kernel
theorem dX6_put_99 : decode cX6_put 99 = .ok (.ireturn, 1) := by decide +kernel
theorem dX6_put_100 : decode cX6_put 100 = .ok (.iload_n 3, 1) := by decide +kernel
theorem dX6_put_101 : decode cX6_put 101 = .ok (.iconst 1, 1) := by decide +kernel
theorem dX6_put_102 : decode cX6_put 102 = .ok (.isub, 1) := by decide +kernel
theorem dX6_put_103 : decode cX6_put 103 = .ok (.istore 7, 2) := by decide +kernel
theorem dX6_put_105 : decode cX6_put 105 = .ok (.iload 7, 2) := by decide +kernel
theorem dX6_put_107 : decode cX6_put 107 = .ok (.ifCond .lt 40, 3) := by decide +kernel
theorem dX6_put_110 : decode cX6_put 110 = .ok (.aload_n 0, 1) := by decide +kernel
theorem dX6_put_111 : decode cX6_put 111 = .ok (.getfield 25, 3) := by decide +kernel
theorem dX6_put_114 : decode cX6_put 114 = .ok (.aload_n 0, 1) := by decide +kernel
theorem dX6_put_115 : decode cX6_put 115 = .ok (.getfield 162, 3) := by decide +kernel
theorem dX6_put_118 : decode cX6_put 118 = .ok (.lload_n 1, 1) := by decide +kernel
theorem dX6_put_119 : decode cX6_put 119 = .ok (.bipush 8, 2) := by decide +kernel
theorem dX6_put_121 : decode cX6_put 121 = .ok (.iload 7, 2) := by decide +kernel
theorem dX6_put_123 : decode cX6_put 123 = .ok (.imul, 1) := by decide +kernel
theorem dX6_put_124 : decode cX6_put 124 = .ok (.lushr, 1) := by decide +kernel
theorem dX6_put_125 : decode cX6_put 125 = .ok (.ldc2_w 165, 3) := by decide +kernel
theorem dX6_put_128 : decode cX6_put 128 = .ok (.land, 1) := by decide +kernel
theorem dX6_put_129 : decode cX6_put 129 = .ok (.l2i, 1) := by decide +kernel
theorem dX6_put_130 : decode cX6_put 130 = .ok (.iastore, 1) := by decide +kernel
theorem dX6_put_131 : decode cX6_put 131 = .ok (.aload_n 0, 1) := by decide +kernel
theorem dX6_put_132 : decode cX6_put 132 = .ok (.dup, 1) := by decide +kernel
theorem dX6_put_133 : decode cX6_put 133 = .ok (.getfield 162, 3) := by decide +kernel
theorem dX6_put_136 : decode cX6_put 136 = .ok (.iconst 1, 1) := by decide +kernel
theorem dX6_put_137 : decode cX6_put 137 = .ok (.iadd, 1) := by decide +kernel
theorem dX6_put_138 : decode cX6_put 138 = .ok (.putfield 162, 3) := by decide +kernel
theorem dX6_put_141 : decode cX6_put 141 = .ok (.iinc 7 (-1), 3) := by decide +kernel
theorem dX6_put_144 : decode cX6_put 144 = .ok (.goto (-39), 3) := by decide +kernel
theorem dX6_put_147 : decode cX6_put 147 = .ok (.aload_n 0, 1) := by decide +kernel
theorem dX6_put_148 : decode cX6_put 148 = .ok (.getfield 162, 3) := by decide +kernel
theorem dX6_put_151 : decode cX6_put 151 = .ok (.ireturn, 1) := by decide +kernel
theorem dX6_wipe_0 : decode cX6_wipe 0 = .ok (.aload_n 0, 1) := by decide +kernel
theorem dX6_wipe_1 : decode cX6_wipe 1 = .ok (.getfield 162, 3) := by decide +kernel
theorem dX6_wipe_4 : decode cX6_wipe 4 = .ok (.istore_n 1, 1) := by decide +kernel
theorem dX6_wipe_5 : decode cX6_wipe 5 = .ok (.aload_n 0, 1) := by decide +kernel
theorem dX6_wipe_6 : decode cX6_wipe 6 = .ok (.iconst 0, 1) := by decide +kernel
theorem dX6_wipe_7 : decode cX6_wipe 7 = .ok (.putfield 162, 3) := by decide +kernel
theorem dX6_wipe_10 : decode cX6_wipe 10 = .ok (.iload_n 1, 1) := by decide +kernel
theorem dX6_wipe_11 : decode cX6_wipe 11 = .ok (.ireturn, 1) := by decide +kernel
theorem dX6_character_0 : decode cX6_character 0 = .ok (.iload_n 1, 1) := by decide +kernel
theorem dX6_character_1 : decode cX6_character 1 = .ok (.aload_n 0, 1) := by decide +kernel
theorem dX6_character_2 : decode cX6_character 2 = .ok (.getfield 162, 3) := by decide +kernel
theorem dX6_character_5 : decode cX6_character 5 = .ok (.if_icmp .ge 12, 3) := by decide +kernel
theorem dX6_character_8 : decode cX6_character 8 = .ok (.aload_n 0, 1) := by decide +kernel
theorem dX6_character_9 : decode cX6_character 9 = .ok (.getfield 25, 3) := by decide +kernel
theorem dX6_character_12 : decode cX6_character 12 = .ok (.iload_n 1, 1) := by decide +kernel
theorem dX6_character_13 : decode cX6_character 13 = .ok (.iaload, 1) := by decide +kernel
theorem dX6_character_14 : decode cX6_character 14 = .ok (.goto 4, 3) := by decide +kernel
theorem dX6_character_17 : decode cX6_character 17 = .ok (.iconst (-1), 1) := by decide +kernel
theorem dX6_character_18 : decode cX6_character 18 = .ok (.ireturn, 1) := by decide +kernel
theorem dX6_isNext_0 : decode cX6_isNext 0 = .ok (.aload_n 0, 1) := by decide +kernel
theorem dX6_isNext_1 : decode cX6_isNext 1 = .ok (.aload_n 0, 1) := by decide +kernel
theorem dX6_isNext_2 : decode cX6_isNext 2 = .ok (.getfield 167, 3) := by decide +kernel
theorem dX6_isNext_5 : decode cX6_isNext 5 = .ok (.invokevirtual 170, 3) := by decide +kernel
theorem dX6_isNext_8 : decode cX6_isNext 8 = .ok (.iload_n 1, 1) := by decide +kernel
theorem dX6_isNext_9 : decode cX6_isNext 9 = .ok (.if_icmp .ne 7, 3) := by decide +kernel
theorem dX6_isNext_12 : decode cX6_isNext 12 = .ok (.iconst 1, 1) := by decide +kernel
theorem dX6_isNext_13 : decode cX6_isNext 13 = .ok (.goto 4, 3) := by decide +kernel
theorem dX6_isNext_16 : decode cX6_isNext 16 = .ok (.iconst 0, 1) := by decide +kernel
theorem dX6_isNext_17 : decode cX6_isNext 17 = .ok (.istore_n 2, 1) := by decide +kernel
theorem dX6_isNext_18 : decode cX6_isNext 18 = .ok (.aload_n 0, 1) := by decide +kernel
theorem dX6_isNext_19 : decode cX6_isNext 19 = .ok (.dup, 1) := by decide +kernel
theorem dX6_isNext_20 : decode cX6_isNext 20 = .ok (.getfield 167, 3) := by decide +kernel
theorem dX6_isNext_23 : decode cX6_isNext 23 = .ok (.iload_n 2, 1) := by decide +kernel
theorem dX6_isNext_24 : decode cX6_isNext 24 = .ok (.ifCond .eq 7, 3) := by decide +kernel
theorem dX6_isNext_27 : decode cX6_isNext 27 = .ok (.iconst 1, 1) := by decide +kernel
theorem dX6_isNext_28 : decode cX6_isNext 28 = .ok (.goto 4, 3) := by decide +kernel
theorem dX6_isNext_31 : decode cX6_isNext 31 = .ok (.iconst 0, 1) := by decide +kernel
theorem dX6_isNext_32 : decode cX6_isNext 32 = .ok (.iadd, 1) := by decide +kernel
theorem dX6_isNext_33 : decode cX6_isNext 33 = .ok (.putfield 167, 3) := by decide +kernel
theorem dX6_isNext_36 : decode cX6_isNext 36 = .ok (.iload_n 2, 1) := by decide +kernel
theorem dX6_isNext_37 : decode cX6_isNext 37 = .ok (.ireturn, 1) := by decide +kernel
theorem dX6_isDigit_0 : decode cX6_isDigit 0 = .ok (.aload_n 0, 1) := by decide +kernel
theorem dX6_isDigit_1 : decode cX6_isDigit 1 = .ok (.aload_n 0, 1) := by decide +kernel
theorem dX6_isDigit_2 : decode cX6_isDigit 2 = .ok (.getfield 167, 3) := by decide +kernel
theorem dX6_isDigit_5 : decode cX6_isDigit 5 = .ok (.invokevirtual 170, 3) := by decide +kernel
theorem dX6_isDigit_8 : decode cX6_isDigit 8 = .ok (.bipush 48, 2) := by decide +kernel
theorem dX6_isDigit_10 : decode cX6_isDigit 10 = .ok (.bipush 57, 2) := by decide +kernel
theorem dX6_isDigit_12 : decode cX6_isDigit 12 = .ok (.invokestatic 39, 3) := by decide +kernel
theorem dX6_isDigit_15 : decode cX6_isDigit 15 = .ok (.ireturn, 1) := by decide +kernel
theorem dX6_takesNumber_0 : decode cX6_takesNumber 0 = .ok (.aload_n 0, 1) := by decide +kernel
theorem dX6_takesNumber_1 : decode cX6_takesNumber 1 = .ok (.invokevirtual 173, 3) := by decide +kernel
theorem dX6_takesNumber_4 : decode cX6_takesNumber 4 = .ok (.ifCond .ne 5, 3) := by decide +kernel
theorem dX6_takesNumber_7 : decode cX6_takesNumber 7 = .ok (.iconst 0, 1) := by decide +kernel
theorem dX6_takesNumber_8 : decode cX6_takesNumber 8 = .ok (.ireturn, 1) := by decide +kernel
theorem dX6_takesNumber_9 : decode cX6_takesNumber 9 = .ok (.aload_n 0, 1) := by decide +kernel
theorem dX6_takesNumber_10 : decode cX6_takesNumber 10 = .ok (.aload_n 0, 1) := by decide +kernel
theorem dX6_takesNumber_11 : decode cX6_takesNumber 11 = .ok (.getfield 167, 3) := by decide +kernel
theorem dX6_takesNumber_14 : decode cX6_takesNumber 14 = .ok (.invokevirtual 170, 3) := by decide +kernel
theorem dX6_takesNumber_17 : decode cX6_takesNumber 17 = .ok (.bipush 48, 2) := by decide +kernel
theorem dX6_takesNumber_19 : decode cX6_takesNumber 19 = .ok (.isub, 1) := by decide +kernel
theorem dX6_takesNumber_20 : decode cX6_takesNumber 20 = .ok (.istore_n 2, 1) := by decide +kernel
theorem dX6_takesNumber_21 : decode cX6_takesNumber 21 = .ok (.aload_n 0, 1) := by decide +kernel
theorem dX6_takesNumber_22 : decode cX6_takesNumber 22 = .ok (.dup, 1) := by decide +kernel
theorem dX6_takesNumber_23 : decode cX6_takesNumber 23 = .ok (.getfield 167, 3) := by decide +kernel
theorem dX6_takesNumber_26 : decode cX6_takesNumber 26 = .ok (.iconst 1, 1) := by decide +kernel
theorem dX6_takesNumber_27 : decode cX6_takesNumber 27 = .ok (.iadd, 1) := by decide +kernel
theorem dX6_takesNumber_28 : decode cX6_takesNumber 28 = .ok (.putfield 167, 3) := by decide +kernel
theorem dX6_takesNumber_31 : decode cX6_takesNumber 31 = .ok (.iload_n 2, 1) := by decide +kernel
theorem dX6_takesNumber_32 : decode cX6_takesNumber 32 = .ok (.ifCond .le 46, 3) := by decide +kernel
theorem dX6_takesNumber_35 : decode cX6_takesNumber 35 = .ok (.iload_n 2, 1) := by decide +kernel
theorem dX6_takesNumber_36 : decode cX6_takesNumber 36 = .ok (.bipush 100, 2) := by decide +kernel
theorem dX6_takesNumber_38 : decode cX6_takesNumber 38 = .ok (.if_icmp .ge 40, 3) := by decide +kernel
theorem dX6_takesNumber_41 : decode cX6_takesNumber 41 = .ok (.aload_n 0, 1) := by decide +kernel
theorem dX6_takesNumber_42 : decode cX6_takesNumber 42 = .ok (.invokevirtual 173, 3) := by decide +kernel
theorem dX6_takesNumber_45 : decode cX6_takesNumber 45 = .ok (.ifCond .eq 33, 3) := by decide +kernel
theorem dX6_takesNumber_48 : decode cX6_takesNumber 48 = .ok (.bipush 10, 2) := by decide +kernel
theorem dX6_takesNumber_50 : decode cX6_takesNumber 50 = .ok (.iload_n 2, 1) := by decide +kernel
theorem dX6_takesNumber_51 : decode cX6_takesNumber 51 = .ok (.imul, 1) := by decide +kernel
theorem dX6_takesNumber_52 : decode cX6_takesNumber 52 = .ok (.aload_n 0, 1) := by decide +kernel
theorem dX6_takesNumber_53 : decode cX6_takesNumber 53 = .ok (.aload_n 0, 1) := by decide +kernel
theorem dX6_takesNumber_54 : decode cX6_takesNumber 54 = .ok (.getfield 167, 3) := by decide +kernel
theorem dX6_takesNumber_57 : decode cX6_takesNumber 57 = .ok (.invokevirtual 170, 3) := by decide +kernel
theorem dX6_takesNumber_60 : decode cX6_takesNumber 60 = .ok (.iadd, 1) := by decide +kernel
theorem dX6_takesNumber_61 : decode cX6_takesNumber 61 = .ok (.bipush 48, 2) := by decide +kernel
theorem dX6_takesNumber_63 : decode cX6_takesNumber 63 = .ok (.isub, 1) := by decide +kernel
theorem dX6_takesNumber_64 : decode cX6_takesNumber 64 = .ok (.istore_n 2, 1) := by decide +kernel
theorem dX6_takesNumber_65 : decode cX6_takesNumber 65 = .ok (.aload_n 0, 1) := by decide +kernel
theorem dX6_takesNumber_66 : decode cX6_takesNumber 66 = .ok (.dup, 1) := by decide +kernel
theorem dX6_takesNumber_67 : decode cX6_takesNumber 67 = .ok (.getfield 167, 3) := by decide +kernel
theorem dX6_takesNumber_70 : decode cX6_takesNumber 70 = .ok (.iconst 1, 1) := by decide +kernel
theorem dX6_takesNumber_71 : decode cX6_takesNumber 71 = .ok (.iadd, 1) := by decide +kernel
theorem dX6_takesNumber_72 : decode cX6_takesNumber 72 = .ok (.putfield 167, 3) := by decide +kernel
theorem dX6_takesNumber_75 : decode cX6_takesNumber 75 = .ok (.goto (-44), 3) := by decide +kernel
theorem dX6_takesNumber_78 : decode cX6_takesNumber 78 = .ok (.aload_n 0, 1) := by decide +kernel
theorem dX6_takesNumber_79 : decode cX6_takesNumber 79 = .ok (.getfield 28, 3) := by decide +kernel
theorem dX6_takesNumber_82 : decode cX6_takesNumber 82 = .ok (.aload_n 0, 1) := by decide +kernel
theorem dX6_takesNumber_83 : decode cX6_takesNumber 83 = .ok (.getfield 177, 3) := by decide +kernel
theorem dX6_takesNumber_86 : decode cX6_takesNumber 86 = .ok (.iload_n 1, 1) := by decide +kernel
theorem dX6_takesNumber_87 : decode cX6_takesNumber 87 = .ok (.iload_n 2, 1) := by decide +kernel
theorem dX6_takesNumber_88 : decode cX6_takesNumber 88 = .ok (.imul, 1) := by decide +kernel
theorem dX6_takesNumber_89 : decode cX6_takesNumber 89 = .ok (.iastore, 1) := by decide +kernel
theorem dX6_takesNumber_90 : decode cX6_takesNumber 90 = .ok (.aload_n 0, 1) := by decide +kernel
theorem dX6_takesNumber_91 : decode cX6_takesNumber 91 = .ok (.dup, 1) := by decide +kernel
theorem dX6_takesNumber_92 : decode cX6_takesNumber 92 = .ok (.getfield 177, 3) := by decide +kernel
theorem dX6_takesNumber_95 : decode cX6_takesNumber 95 = .ok (.iconst 1, 1) := by decide +kernel
theorem dX6_takesNumber_96 : decode cX6_takesNumber 96 = .ok (.iadd, 1) := by decide +kernel
theorem dX6_takesNumber_97 : decode cX6_takesNumber 97 = .ok (.putfield 177, 3) := by decide +kernel
theorem dX6_takesNumber_100 : decode cX6_takesNumber 100 = .ok (.iconst 1, 1) := by decide +kernel
theorem dX6_takesNumber_101 : decode cX6_takesNumber 101 = .ok (.ireturn, 1) := by decide +kernel
theorem dX6_takesValue_0 : decode cX6_takesValue 0 = .ok (.aload_n 0, 1) := by decide +kernel
theorem dX6_takesValue_1 : decode cX6_takesValue 1 = .ok (.aload_n 0, 1) := by decide +kernel
theorem dX6_takesValue_2 : decode cX6_takesValue 2 = .ok (.bipush 45, 2) := by decide +kernel
theorem dX6_takesValue_4 : decode cX6_takesValue 4 = .ok (.invokevirtual 180, 3) := by decide +kernel
theorem dX6_takesValue_7 : decode cX6_takesValue 7 = .ok (.ifCond .eq 7, 3) := by decide +kernel
theorem dX6_takesValue_10 : decode cX6_takesValue 10 = .ok (.iconst (-1), 1) := by decide +kernel
theorem dX6_takesValue_11 : decode cX6_takesValue 11 = .ok (.goto 4, 3) := by decide +kernel
theorem dX6_takesValue_14 : decode cX6_takesValue 14 = .ok (.iconst 1, 1) := by decide +kernel
theorem dX6_takesValue_15 : decode cX6_takesValue 15 = .ok (.invokevirtual 183, 3) := by decide +kernel
theorem dX6_takesValue_18 : decode cX6_takesValue 18 = .ok (.ireturn, 1) := by decide +kernel
theorem dX6_takesSort_0 : decode cX6_takesSort 0 = .ok (.aload_n 0, 1) := by decide +kernel
theorem dX6_takesSort_1 : decode cX6_takesSort 1 = .ok (.aload_n 0, 1) := by decide +kernel
theorem dX6_takesSort_2 : decode cX6_takesSort 2 = .ok (.getfield 167, 3) := by decide +kernel
theorem dX6_takesSort_5 : decode cX6_takesSort 5 = .ok (.invokevirtual 170, 3) := by decide +kernel
theorem dX6_takesSort_8 : decode cX6_takesSort 8 = .ok (.istore_n 1, 1) := by decide +kernel
theorem dX6_takesSort_9 : decode cX6_takesSort 9 = .ok (.aload_n 0, 1) := by decide +kernel
theorem dX6_takesSort_10 : decode cX6_takesSort 10 = .ok (.iload_n 1, 1) := by decide +kernel
theorem dX6_takesSort_11 : decode cX6_takesSort 11 = .ok (.bipush 102, 2) := by decide +kernel
theorem dX6_takesSort_13 : decode cX6_takesSort 13 = .ok (.if_icmp .ne 7, 3) := by decide +kernel
theorem dX6_takesSort_16 : decode cX6_takesSort 16 = .ok (.iconst 0, 1) := by decide +kernel
theorem dX6_takesSort_17 : decode cX6_takesSort 17 = .ok (.goto 35, 3) := by decide +kernel
theorem dX6_takesSort_20 : decode cX6_takesSort 20 = .ok (.iload_n 1, 1) := by decide +kernel
theorem dX6_takesSort_21 : decode cX6_takesSort 21 = .ok (.bipush 115, 2) := by decide +kernel
theorem dX6_takesSort_23 : decode cX6_takesSort 23 = .ok (.if_icmp .ne 7, 3) := by decide +kernel
theorem dX6_takesSort_26 : decode cX6_takesSort 26 = .ok (.iconst 1, 1) := by decide +kernel
theorem dX6_takesSort_27 : decode cX6_takesSort 27 = .ok (.goto 25, 3) := by decide +kernel
theorem dX6_takesSort_30 : decode cX6_takesSort 30 = .ok (.iload_n 1, 1) := by decide +kernel
theorem dX6_takesSort_31 : decode cX6_takesSort 31 = .ok (.bipush 98, 2) := by decide +kernel
theorem dX6_takesSort_33 : decode cX6_takesSort 33 = .ok (.if_icmp .ne 7, 3) := by decide +kernel
theorem dX6_takesSort_36 : decode cX6_takesSort 36 = .ok (.iconst 2, 1) := by decide +kernel
theorem dX6_takesSort_37 : decode cX6_takesSort 37 = .ok (.goto 15, 3) := by decide +kernel
theorem dX6_takesSort_40 : decode cX6_takesSort 40 = .ok (.iload_n 1, 1) := by decide +kernel
theorem dX6_takesSort_41 : decode cX6_takesSort 41 = .ok (.bipush 116, 2) := by decide +kernel
theorem dX6_takesSort_43 : decode cX6_takesSort 43 = .ok (.if_icmp .ne 7, 3) := by decide +kernel
theorem dX6_takesSort_46 : decode cX6_takesSort 46 = .ok (.iconst 3, 1) := by decide +kernel
theorem dX6_takesSort_47 : decode cX6_takesSort 47 = .ok (.goto 5, 3) := by decide +kernel
theorem dX6_takesSort_50 : decode cX6_takesSort 50 = .ok (.bipush (-6), 2) := by decide +kernel
theorem dX6_takesSort_52 : decode cX6_takesSort 52 = .ok (.putfield 186, 3) := by decide +kernel
theorem dX6_takesSort_55 : decode cX6_takesSort 55 = .ok (.aload_n 0, 1) := by decide +kernel
theorem dX6_takesSort_56 : decode cX6_takesSort 56 = .ok (.dup, 1) := by decide +kernel
theorem dX6_takesSort_57 : decode cX6_takesSort 57 = .ok (.getfield 167, 3) := by decide +kernel
theorem dX6_takesSort_60 : decode cX6_takesSort 60 = .ok (.aload_n 0, 1) := by decide +kernel
theorem dX6_takesSort_61 : decode cX6_takesSort 61 = .ok (.getfield 186, 3) := by decide +kernel
theorem dX6_takesSort_64 : decode cX6_takesSort 64 = .ok (.bipush (-6), 2) := by decide +kernel
theorem dX6_takesSort_66 : decode cX6_takesSort 66 = .ok (.if_icmp .ne 7, 3) := by decide +kernel
theorem dX6_takesSort_69 : decode cX6_takesSort 69 = .ok (.iconst 0, 1) := by decide +kernel
theorem dX6_takesSort_70 : decode cX6_takesSort 70 = .ok (.goto 4, 3) := by decide +kernel
theorem dX6_takesSort_73 : decode cX6_takesSort 73 = .ok (.iconst 1, 1) := by decide +kernel
theorem dX6_takesSort_74 : decode cX6_takesSort 74 = .ok (.iadd, 1) := by decide +kernel
theorem dX6_takesSort_75 : decode cX6_takesSort 75 = .ok (.putfield 167, 3) := by decide +kernel
theorem dX6_takesSort_78 : decode cX6_takesSort 78 = .ok (.aload_n 0, 1) := by decide +kernel
theorem dX6_takesSort_79 : decode cX6_takesSort 79 = .ok (.getfield 186, 3) := by decide +kernel
theorem dX6_takesSort_82 : decode cX6_takesSort 82 = .ok (.bipush (-6), 2) := by decide +kernel
theorem dX6_takesSort_84 : decode cX6_takesSort 84 = .ok (.if_icmp .eq 7, 3) := by decide +kernel
theorem dX6_takesSort_87 : decode cX6_takesSort 87 = .ok (.iconst 1, 1) := by decide +kernel
theorem dX6_takesSort_88 : decode cX6_takesSort 88 = .ok (.goto 4, 3) := by decide +kernel
theorem dX6_takesSort_91 : decode cX6_takesSort 91 = .ok (.iconst 0, 1) := by decide +kernel
theorem dX6_takesSort_92 : decode cX6_takesSort 92 = .ok (.ireturn, 1) := by decide +kernel
theorem dX6_takesRecipe_0 : decode cX6_takesRecipe 0 = .ok (.aload_n 0, 1) := by decide +kernel
theorem dX6_takesRecipe_1 : decode cX6_takesRecipe 1 = .ok (.iconst 1, 1) := by decide +kernel
theorem dX6_takesRecipe_2 : decode cX6_takesRecipe 2 = .ok (.invokevirtual 183, 3) := by decide +kernel
theorem dX6_takesRecipe_5 : decode cX6_takesRecipe 5 = .ok (.ifCond .eq 38, 3) := by decide +kernel
theorem dX6_takesRecipe_8 : decode cX6_takesRecipe 8 = .ok (.aload_n 0, 1) := by decide +kernel
theorem dX6_takesRecipe_9 : decode cX6_takesRecipe 9 = .ok (.invokevirtual 189, 3) := by decide +kernel
theorem dX6_takesRecipe_12 : decode cX6_takesRecipe 12 = .ok (.ifCond .eq 31, 3) := by decide +kernel
theorem dX6_takesRecipe_15 : decode cX6_takesRecipe 15 = .ok (.aload_n 0, 1) := by decide +kernel
theorem dX6_takesRecipe_16 : decode cX6_takesRecipe 16 = .ok (.invokevirtual 192, 3) := by decide +kernel
theorem dX6_takesRecipe_19 : decode cX6_takesRecipe 19 = .ok (.ifCond .eq 24, 3) := by decide +kernel
theorem dX6_takesRecipe_22 : decode cX6_takesRecipe 22 = .ok (.aload_n 0, 1) := by decide +kernel
theorem dX6_takesRecipe_23 : decode cX6_takesRecipe 23 = .ok (.bipush 47, 2) := by decide +kernel
theorem dX6_takesRecipe_25 : decode cX6_takesRecipe 25 = .ok (.invokevirtual 180, 3) := by decide +kernel
theorem dX6_takesRecipe_28 : decode cX6_takesRecipe 28 = .ok (.ifCond .eq 15, 3) := by decide +kernel
theorem dX6_takesRecipe_31 : decode cX6_takesRecipe 31 = .ok (.aload_n 0, 1) := by decide +kernel
theorem dX6_takesRecipe_32 : decode cX6_takesRecipe 32 = .ok (.iconst 1, 1) := by decide +kernel
theorem dX6_takesRecipe_33 : decode cX6_takesRecipe 33 = .ok (.invokevirtual 183, 3) := by decide +kernel
theorem dX6_takesRecipe_36 : decode cX6_takesRecipe 36 = .ok (.ifCond .eq 7, 3) := by decide +kernel
theorem dX6_takesRecipe_39 : decode cX6_takesRecipe 39 = .ok (.iconst 1, 1) := by decide +kernel
theorem dX6_takesRecipe_40 : decode cX6_takesRecipe 40 = .ok (.goto 4, 3) := by decide +kernel
theorem dX6_takesRecipe_43 : decode cX6_takesRecipe 43 = .ok (.iconst 0, 1) := by decide +kernel
theorem dX6_takesRecipe_44 : decode cX6_takesRecipe 44 = .ok (.istore_n 1, 1) := by decide +kernel
theorem dX6_takesRecipe_45 : decode cX6_takesRecipe 45 = .ok (.aload_n 0, 1) := by decide +kernel
theorem dX6_takesRecipe_46 : decode cX6_takesRecipe 46 = .ok (.getfield 28, 3) := by decide +kernel
theorem dX6_takesRecipe_49 : decode cX6_takesRecipe 49 = .ok (.iconst 3, 1) := by decide +kernel
theorem dX6_takesRecipe_50 : decode cX6_takesRecipe 50 = .ok (.iconst 0, 1) := by decide +kernel
theorem dX6_takesRecipe_51 : decode cX6_takesRecipe 51 = .ok (.iastore, 1) := by decide +kernel
theorem dX6_takesRecipe_52 : decode cX6_takesRecipe 52 = .ok (.iload_n 1, 1) := by decide +kernel
theorem dX6_takesRecipe_53 : decode cX6_takesRecipe 53 = .ok (.ifCond .eq 24, 3) := by decide +kernel
theorem dX6_takesRecipe_56 : decode cX6_takesRecipe 56 = .ok (.aload_n 0, 1) := by decide +kernel
theorem dX6_takesRecipe_57 : decode cX6_takesRecipe 57 = .ok (.bipush 43, 2) := by decide +kernel
theorem dX6_takesRecipe_59 : decode cX6_takesRecipe 59 = .ok (.invokevirtual 180, 3) := by decide +kernel
theorem dX6_takesRecipe_62 : decode cX6_takesRecipe 62 = .ok (.ifCond .eq 11, 3) := by decide +kernel
theorem dX6_takesRecipe_65 : decode cX6_takesRecipe 65 = .ok (.aload_n 0, 1) := by decide +kernel
theorem dX6_takesRecipe_66 : decode cX6_takesRecipe 66 = .ok (.iconst 1, 1) := by decide +kernel
theorem dX6_takesRecipe_67 : decode cX6_takesRecipe 67 = .ok (.invokevirtual 183, 3) := by decide +kernel
theorem dX6_takesRecipe_70 : decode cX6_takesRecipe 70 = .ok (.ifCond .eq 7, 3) := by decide +kernel
theorem dX6_takesRecipe_73 : decode cX6_takesRecipe 73 = .ok (.iconst 1, 1) := by decide +kernel
theorem dX6_takesRecipe_74 : decode cX6_takesRecipe 74 = .ok (.goto 4, 3) := by decide +kernel
theorem dX6_takesRecipe_77 : decode cX6_takesRecipe 77 = .ok (.iconst 0, 1) := by decide +kernel
theorem dX6_takesRecipe_78 : decode cX6_takesRecipe 78 = .ok (.ireturn, 1) := by decide +kernel
theorem dX6_readsOrder_0 : decode cX6_readsOrder 0 = .ok (.aload_n 0, 1) := by decide +kernel
theorem dX6_readsOrder_1 : decode cX6_readsOrder 1 = .ok (.iconst 0, 1) := by decide +kernel
theorem dX6_readsOrder_2 : decode cX6_readsOrder 2 = .ok (.putfield 177, 3) := by decide +kernel
theorem dX6_readsOrder_5 : decode cX6_readsOrder 5 = .ok (.aload_n 0, 1) := by decide +kernel
theorem dX6_readsOrder_6 : decode cX6_readsOrder 6 = .ok (.aload_n 0, 1) := by decide +kernel
theorem dX6_readsOrder_7 : decode cX6_readsOrder 7 = .ok (.aload_n 0, 1) := by decide +kernel
theorem dX6_readsOrder_8 : decode cX6_readsOrder 8 = .ok (.getfield 167, 3) := by decide +kernel
theorem dX6_readsOrder_11 : decode cX6_readsOrder 11 = .ok (.invokevirtual 170, 3) := by decide +kernel
theorem dX6_readsOrder_14 : decode cX6_readsOrder 14 = .ok (.putfield 195, 3) := by decide +kernel
theorem dX6_readsOrder_17 : decode cX6_readsOrder 17 = .ok (.aload_n 0, 1) := by decide +kernel
theorem dX6_readsOrder_18 : decode cX6_readsOrder 18 = .ok (.dup, 1) := by decide +kernel
theorem dX6_readsOrder_19 : decode cX6_readsOrder 19 = .ok (.getfield 167, 3) := by decide +kernel
theorem dX6_readsOrder_22 : decode cX6_readsOrder 22 = .ok (.iconst 1, 1) := by decide +kernel
theorem dX6_readsOrder_23 : decode cX6_readsOrder 23 = .ok (.iadd, 1) := by decide +kernel
theorem dX6_readsOrder_24 : decode cX6_readsOrder 24 = .ok (.putfield 167, 3) := by decide +kernel
theorem dX6_readsOrder_27 : decode cX6_readsOrder 27 = .ok (.aload_n 0, 1) := by decide +kernel
theorem dX6_readsOrder_28 : decode cX6_readsOrder 28 = .ok (.getfield 195, 3) := by decide +kernel
theorem dX6_readsOrder_31 : decode cX6_readsOrder 31 = .ok (.lookupswitch 90 #[(103, 54), (108, 60), (112, 49), (116, 54), (120, 54)], 49) := by decide +kernel
theorem dX6_readsOrder_80 : decode cX6_readsOrder 80 = .ok (.aload_n 0, 1) := by decide +kernel
theorem dX6_readsOrder_81 : decode cX6_readsOrder 81 = .ok (.invokevirtual 198, 3) := by decide +kernel
theorem dX6_readsOrder_84 : decode cX6_readsOrder 84 = .ok (.ireturn, 1) := by decide +kernel
theorem dX6_readsOrder_85 : decode cX6_readsOrder 85 = .ok (.aload_n 0, 1) := by decide +kernel
theorem dX6_readsOrder_86 : decode cX6_readsOrder 86 = .ok (.iconst 1, 1) := by decide +kernel
theorem dX6_readsOrder_87 : decode cX6_readsOrder 87 = .ok (.invokevirtual 183, 3) := by decide +kernel
theorem dX6_readsOrder_90 : decode cX6_readsOrder 90 = .ok (.ireturn, 1) := by decide +kernel
theorem dX6_readsOrder_91 : decode cX6_readsOrder 91 = .ok (.aload_n 0, 1) := by decide +kernel
theorem dX6_readsOrder_92 : decode cX6_readsOrder 92 = .ok (.iconst 1, 1) := by decide +kernel
theorem dX6_readsOrder_93 : decode cX6_readsOrder 93 = .ok (.invokevirtual 183, 3) := by decide +kernel
theorem dX6_readsOrder_96 : decode cX6_readsOrder 96 = .ok (.ifCond .eq 23, 3) := by decide +kernel
theorem dX6_readsOrder_99 : decode cX6_readsOrder 99 = .ok (.aload_n 0, 1) := by decide +kernel
theorem dX6_readsOrder_100 : decode cX6_readsOrder 100 = .ok (.bipush 61, 2) := by decide +kernel
theorem dX6_readsOrder_102 : decode cX6_readsOrder 102 = .ok (.invokevirtual 180, 3) := by decide +kernel
theorem dX6_readsOrder_105 : decode cX6_readsOrder 105 = .ok (.ifCond .eq 14, 3) := by decide +kernel
theorem dX6_readsOrder_108 : decode cX6_readsOrder 108 = .ok (.aload_n 0, 1) := by decide +kernel
theorem dX6_readsOrder_109 : decode cX6_readsOrder 109 = .ok (.invokevirtual 192, 3) := by decide +kernel
theorem dX6_readsOrder_112 : decode cX6_readsOrder 112 = .ok (.ifCond .eq 7, 3) := by decide +kernel
theorem dX6_readsOrder_115 : decode cX6_readsOrder 115 = .ok (.iconst 1, 1) := by decide +kernel
theorem dX6_readsOrder_116 : decode cX6_readsOrder 116 = .ok (.goto 4, 3) := by decide +kernel
theorem dX6_readsOrder_119 : decode cX6_readsOrder 119 = .ok (.iconst 0, 1) := by decide +kernel
theorem dX6_readsOrder_120 : decode cX6_readsOrder 120 = .ok (.ireturn, 1) := by decide +kernel
theorem dX6_readsOrder_121 : decode cX6_readsOrder 121 = .ok (.aload_n 0, 1) := by decide +kernel
theorem dX6_readsOrder_122 : decode cX6_readsOrder 122 = .ok (.dup, 1) := by decide +kernel
theorem dX6_readsOrder_123 : decode cX6_readsOrder 123 = .ok (.getfield 167, 3) := by decide +kernel
theorem dX6_readsOrder_126 : decode cX6_readsOrder 126 = .ok (.iconst 1, 1) := by decide +kernel
theorem dX6_readsOrder_127 : decode cX6_readsOrder 127 = .ok (.isub, 1) := by decide +kernel
theorem dX6_readsOrder_128 : decode cX6_readsOrder 128 = .ok (.putfield 167, 3) := by decide +kernel
theorem dX6_readsOrder_131 : decode cX6_readsOrder 131 = .ok (.iconst 0, 1) := by decide +kernel
theorem dX6_readsOrder_132 : decode cX6_readsOrder 132 = .ok (.ireturn, 1) := by decide +kernel
theorem dX6_findFault_0 : decode cX6_findFault 0 = .ok (.aload_n 0, 1) := by decide +kernel
theorem dX6_findFault_1 : decode cX6_findFault 1 = .ok (.iconst 0, 1) := by decide +kernel
theorem dX6_findFault_2 : decode cX6_findFault 2 = .ok (.putfield 167, 3) := by decide +kernel
theorem dX6_findFault_5 : decode cX6_findFault 5 = .ok (.aload_n 0, 1) := by decide +kernel
theorem dX6_findFault_6 : decode cX6_findFault 6 = .ok (.invokevirtual 201, 3) := by decide +kernel
theorem dX6_findFault_9 : decode cX6_findFault 9 = .ok (.ifCond .ne 8, 3) := by decide +kernel
theorem dX6_findFault_12 : decode cX6_findFault 12 = .ok (.aload_n 0, 1) := by decide +kernel
theorem dX6_findFault_13 : decode cX6_findFault 13 = .ok (.getfield 167, 3) := by decide +kernel
theorem dX6_findFault_16 : decode cX6_findFault 16 = .ok (.ireturn, 1) := by decide +kernel
theorem dX6_findFault_17 : decode cX6_findFault 17 = .ok (.aload_n 0, 1) := by decide +kernel
theorem dX6_findFault_18 : decode cX6_findFault 18 = .ok (.getfield 167, 3) := by decide +kernel
theorem dX6_findFault_21 : decode cX6_findFault 21 = .ok (.aload_n 0, 1) := by decide +kernel
theorem dX6_findFault_22 : decode cX6_findFault 22 = .ok (.getfield 162, 3) := by decide +kernel
theorem dX6_findFault_25 : decode cX6_findFault 25 = .ok (.if_icmp .ne 6, 3) := by decide +kernel
theorem dX6_findFault_28 : decode cX6_findFault 28 = .ok (.bipush (-6), 2) := by decide +kernel
theorem dX6_findFault_30 : decode cX6_findFault 30 = .ok (.ireturn, 1) := by decide +kernel
theorem dX6_findFault_31 : decode cX6_findFault 31 = .ok (.aload_n 0, 1) := by decide +kernel
theorem dX6_findFault_32 : decode cX6_findFault 32 = .ok (.bipush 59, 2) := by decide +kernel
theorem dX6_findFault_34 : decode cX6_findFault 34 = .ok (.invokevirtual 180, 3) := by decide +kernel
theorem dX6_findFault_37 : decode cX6_findFault 37 = .ok (.ifCond .ne (-32), 3) := by decide +kernel
theorem dX6_findFault_40 : decode cX6_findFault 40 = .ok (.aload_n 0, 1) := by decide +kernel
theorem dX6_findFault_41 : decode cX6_findFault 41 = .ok (.getfield 167, 3) := by decide +kernel
theorem dX6_findFault_44 : decode cX6_findFault 44 = .ok (.ireturn, 1) := by decide +kernel
theorem dX6_fault_0 : decode cX6_fault 0 = .ok (.aload_n 0, 1) := by decide +kernel
theorem dX6_fault_1 : decode cX6_fault 1 = .ok (.invokevirtual 204, 3) := by decide +kernel
theorem dX6_fault_4 : decode cX6_fault 4 = .ok (.ireturn, 1) := by decide +kernel
theorem dX6_canDo_0 : decode cX6_canDo 0 = .ok (.aload_n 0, 1) := by decide +kernel
theorem dX6_canDo_1 : decode cX6_canDo 1 = .ok (.getfield 195, 3) := by decide +kernel
theorem dX6_canDo_4 : decode cX6_canDo 4 = .ok (.lookupswitch 144 #[(103, 106), (112, 44), (116, 125), (120, 85)], 44) := by decide +kernel
theorem dX6_canDo_48 : decode cX6_canDo 48 = .ok (.aload_n 0, 1) := by decide +kernel
theorem dX6_canDo_49 : decode cX6_canDo 49 = .ok (.aload_n 0, 1) := by decide +kernel
theorem dX6_canDo_50 : decode cX6_canDo 50 = .ok (.getfield 28, 3) := by decide +kernel
theorem dX6_canDo_53 : decode cX6_canDo 53 = .ok (.iconst 0, 1) := by decide +kernel
theorem dX6_canDo_54 : decode cX6_canDo 54 = .ok (.iaload, 1) := by decide +kernel
theorem dX6_canDo_55 : decode cX6_canDo 55 = .ok (.aload_n 0, 1) := by decide +kernel
theorem dX6_canDo_56 : decode cX6_canDo 56 = .ok (.getfield 186, 3) := by decide +kernel
theorem dX6_canDo_59 : decode cX6_canDo 59 = .ok (.aload_n 0, 1) := by decide +kernel
theorem dX6_canDo_60 : decode cX6_canDo 60 = .ok (.getfield 28, 3) := by decide +kernel
theorem dX6_canDo_63 : decode cX6_canDo 63 = .ok (.iconst 1, 1) := by decide +kernel
theorem dX6_canDo_64 : decode cX6_canDo 64 = .ok (.iaload, 1) := by decide +kernel
theorem dX6_canDo_65 : decode cX6_canDo 65 = .ok (.aload_n 0, 1) := by decide +kernel
theorem dX6_canDo_66 : decode cX6_canDo 66 = .ok (.getfield 28, 3) := by decide +kernel
theorem dX6_canDo_69 : decode cX6_canDo 69 = .ok (.iconst 2, 1) := by decide +kernel
theorem dX6_canDo_70 : decode cX6_canDo 70 = .ok (.iaload, 1) := by decide +kernel
theorem dX6_canDo_71 : decode cX6_canDo 71 = .ok (.aload_n 0, 1) := by decide +kernel
theorem dX6_canDo_72 : decode cX6_canDo 72 = .ok (.getfield 28, 3) := by decide +kernel
theorem dX6_canDo_75 : decode cX6_canDo 75 = .ok (.iconst 3, 1) := by decide +kernel
theorem dX6_canDo_76 : decode cX6_canDo 76 = .ok (.iaload, 1) := by decide +kernel
theorem dX6_canDo_77 : decode cX6_canDo 77 = .ok (.invokevirtual 94, 3) := by decide +kernel
theorem dX6_canDo_80 : decode cX6_canDo 80 = .ok (.ifCond .ne 7, 3) := by decide +kernel
theorem dX6_canDo_83 : decode cX6_canDo 83 = .ok (.iconst 1, 1) := by decide +kernel
theorem dX6_canDo_84 : decode cX6_canDo 84 = .ok (.goto 4, 3) := by decide +kernel
theorem dX6_canDo_87 : decode cX6_canDo 87 = .ok (.iconst 0, 1) := by decide +kernel
theorem dX6_canDo_88 : decode cX6_canDo 88 = .ok (.ireturn, 1) := by decide +kernel
theorem dX6_canDo_89 : decode cX6_canDo 89 = .ok (.aload_n 0, 1) := by decide +kernel
theorem dX6_canDo_90 : decode cX6_canDo 90 = .ok (.aload_n 0, 1) := by decide +kernel
theorem dX6_canDo_91 : decode cX6_canDo 91 = .ok (.getfield 28, 3) := by decide +kernel
theorem dX6_canDo_94 : decode cX6_canDo 94 = .ok (.iconst 0, 1) := by decide +kernel
theorem dX6_canDo_95 : decode cX6_canDo 95 = .ok (.iaload, 1) := by decide +kernel
theorem dX6_canDo_96 : decode cX6_canDo 96 = .ok (.invokevirtual 87, 3) := by decide +kernel
theorem dX6_canDo_99 : decode cX6_canDo 99 = .ok (.bipush (-6), 2) := by decide +kernel
theorem dX6_canDo_101 : decode cX6_canDo 101 = .ok (.if_icmp .eq 7, 3) := by decide +kernel
theorem dX6_canDo_104 : decode cX6_canDo 104 = .ok (.iconst 1, 1) := by decide +kernel
theorem dX6_canDo_105 : decode cX6_canDo 105 = .ok (.goto 4, 3) := by decide +kernel
theorem dX6_canDo_108 : decode cX6_canDo 108 = .ok (.iconst 0, 1) := by decide +kernel
theorem dX6_canDo_109 : decode cX6_canDo 109 = .ok (.ireturn, 1) := by decide +kernel
theorem dX6_canDo_110 : decode cX6_canDo 110 = .ok (.aload_n 0, 1) := by decide +kernel
theorem dX6_canDo_111 : decode cX6_canDo 111 = .ok (.aload_n 0, 1) := by decide +kernel
theorem dX6_canDo_112 : decode cX6_canDo 112 = .ok (.getfield 28, 3) := by decide +kernel
theorem dX6_canDo_115 : decode cX6_canDo 115 = .ok (.iconst 0, 1) := by decide +kernel
theorem dX6_canDo_116 : decode cX6_canDo 116 = .ok (.iaload, 1) := by decide +kernel
theorem dX6_canDo_117 : decode cX6_canDo 117 = .ok (.invokevirtual 106, 3) := by decide +kernel
theorem dX6_canDo_120 : decode cX6_canDo 120 = .ok (.ifCond .ne 7, 3) := by decide +kernel
theorem dX6_canDo_123 : decode cX6_canDo 123 = .ok (.iconst 1, 1) := by decide +kernel
theorem dX6_canDo_124 : decode cX6_canDo 124 = .ok (.goto 4, 3) := by decide +kernel
theorem dX6_canDo_127 : decode cX6_canDo 127 = .ok (.iconst 0, 1) := by decide +kernel
theorem dX6_canDo_128 : decode cX6_canDo 128 = .ok (.ireturn, 1) := by decide +kernel
theorem dX6_canDo_129 : decode cX6_canDo 129 = .ok (.aload_n 0, 1) := by decide +kernel
theorem dX6_canDo_130 : decode cX6_canDo 130 = .ok (.aload_n 0, 1) := by decide +kernel
theorem dX6_canDo_131 : decode cX6_canDo 131 = .ok (.getfield 28, 3) := by decide +kernel
theorem dX6_canDo_134 : decode cX6_canDo 134 = .ok (.iconst 0, 1) := by decide +kernel
theorem dX6_canDo_135 : decode cX6_canDo 135 = .ok (.iaload, 1) := by decide +kernel
theorem dX6_canDo_136 : decode cX6_canDo 136 = .ok (.invokevirtual 113, 3) := by decide +kernel
theorem dX6_canDo_139 : decode cX6_canDo 139 = .ok (.ifCond .ne 7, 3) := by decide +kernel
theorem dX6_canDo_142 : decode cX6_canDo 142 = .ok (.iconst 1, 1) := by decide +kernel
theorem dX6_canDo_143 : decode cX6_canDo 143 = .ok (.goto 4, 3) := by decide +kernel
theorem dX6_canDo_146 : decode cX6_canDo 146 = .ok (.iconst 0, 1) := by decide +kernel
theorem dX6_canDo_147 : decode cX6_canDo 147 = .ok (.ireturn, 1) := by decide +kernel
theorem dX6_canDo_148 : decode cX6_canDo 148 = .ok (.aload_n 0, 1) := by decide +kernel
theorem dX6_canDo_149 : decode cX6_canDo 149 = .ok (.getfield 28, 3) := by decide +kernel
theorem dX6_canDo_152 : decode cX6_canDo 152 = .ok (.iconst 0, 1) := by decide +kernel
theorem dX6_canDo_153 : decode cX6_canDo 153 = .ok (.iaload, 1) := by decide +kernel
theorem dX6_canDo_154 : decode cX6_canDo 154 = .ok (.invokestatic 102, 3) := by decide +kernel
theorem dX6_canDo_157 : decode cX6_canDo 157 = .ok (.ireturn, 1) := by decide +kernel
theorem dX6_does_0 : decode cX6_does 0 = .ok (.aload_n 0, 1) := by decide +kernel
theorem dX6_does_1 : decode cX6_does 1 = .ok (.getfield 195, 3) := by decide +kernel
theorem dX6_does_4 : decode cX6_does 4 = .ok (.lookupswitch 124 #[(103, 96), (112, 44), (116, 110), (120, 79)], 44) := by decide +kernel
theorem dX6_does_48 : decode cX6_does 48 = .ok (.aload_n 0, 1) := by decide +kernel
theorem dX6_does_49 : decode cX6_does 49 = .ok (.aload_n 0, 1) := by decide +kernel
theorem dX6_does_50 : decode cX6_does 50 = .ok (.getfield 28, 3) := by decide +kernel
theorem dX6_does_53 : decode cX6_does 53 = .ok (.iconst 0, 1) := by decide +kernel
theorem dX6_does_54 : decode cX6_does 54 = .ok (.iaload, 1) := by decide +kernel
theorem dX6_does_55 : decode cX6_does 55 = .ok (.aload_n 0, 1) := by decide +kernel
theorem dX6_does_56 : decode cX6_does 56 = .ok (.getfield 186, 3) := by decide +kernel
theorem dX6_does_59 : decode cX6_does 59 = .ok (.aload_n 0, 1) := by decide +kernel
theorem dX6_does_60 : decode cX6_does 60 = .ok (.getfield 28, 3) := by decide +kernel
theorem dX6_does_63 : decode cX6_does 63 = .ok (.iconst 1, 1) := by decide +kernel
theorem dX6_does_64 : decode cX6_does 64 = .ok (.iaload, 1) := by decide +kernel
theorem dX6_does_65 : decode cX6_does 65 = .ok (.aload_n 0, 1) := by decide +kernel
theorem dX6_does_66 : decode cX6_does 66 = .ok (.getfield 28, 3) := by decide +kernel
theorem dX6_does_69 : decode cX6_does 69 = .ok (.iconst 2, 1) := by decide +kernel
theorem dX6_does_70 : decode cX6_does 70 = .ok (.iaload, 1) := by decide +kernel
theorem dX6_does_71 : decode cX6_does 71 = .ok (.aload_n 0, 1) := by decide +kernel
theorem dX6_does_72 : decode cX6_does 72 = .ok (.getfield 28, 3) := by decide +kernel
theorem dX6_does_75 : decode cX6_does 75 = .ok (.iconst 3, 1) := by decide +kernel
theorem dX6_does_76 : decode cX6_does 76 = .ok (.iaload, 1) := by decide +kernel
theorem dX6_does_77 : decode cX6_does 77 = .ok (.invokevirtual 98, 3) := by decide +kernel
theorem dX6_does_80 : decode cX6_does 80 = .ok (.goto 68, 3) := by decide +kernel
theorem dX6_does_83 : decode cX6_does 83 = .ok (.aload_n 0, 1) := by decide +kernel
theorem dX6_does_84 : decode cX6_does 84 = .ok (.aload_n 0, 1) := by decide +kernel
theorem dX6_does_85 : decode cX6_does 85 = .ok (.aload_n 0, 1) := by decide +kernel
theorem dX6_does_86 : decode cX6_does 86 = .ok (.getfield 28, 3) := by decide +kernel
theorem dX6_does_89 : decode cX6_does 89 = .ok (.iconst 0, 1) := by decide +kernel
theorem dX6_does_90 : decode cX6_does 90 = .ok (.iaload, 1) := by decide +kernel
theorem dX6_does_91 : decode cX6_does 91 = .ok (.invokevirtual 87, 3) := by decide +kernel
theorem dX6_does_94 : decode cX6_does 94 = .ok (.invokevirtual 90, 3) := by decide +kernel
theorem dX6_does_97 : decode cX6_does 97 = .ok (.goto 51, 3) := by decide +kernel
theorem dX6_does_100 : decode cX6_does 100 = .ok (.aload_n 0, 1) := by decide +kernel
theorem dX6_does_101 : decode cX6_does 101 = .ok (.aload_n 0, 1) := by decide +kernel
theorem dX6_does_102 : decode cX6_does 102 = .ok (.getfield 28, 3) := by decide +kernel
theorem dX6_does_105 : decode cX6_does 105 = .ok (.iconst 0, 1) := by decide +kernel
theorem dX6_does_106 : decode cX6_does 106 = .ok (.iaload, 1) := by decide +kernel
theorem dX6_does_107 : decode cX6_does 107 = .ok (.invokevirtual 109, 3) := by decide +kernel
theorem dX6_does_110 : decode cX6_does 110 = .ok (.pop, 1) := by decide +kernel
theorem dX6_does_111 : decode cX6_does 111 = .ok (.goto 37, 3) := by decide +kernel
theorem dX6_does_114 : decode cX6_does 114 = .ok (.aload_n 0, 1) := by decide +kernel
theorem dX6_does_115 : decode cX6_does 115 = .ok (.aload_n 0, 1) := by decide +kernel
theorem dX6_does_116 : decode cX6_does 116 = .ok (.getfield 28, 3) := by decide +kernel
theorem dX6_does_119 : decode cX6_does 119 = .ok (.iconst 0, 1) := by decide +kernel
theorem dX6_does_120 : decode cX6_does 120 = .ok (.iaload, 1) := by decide +kernel
theorem dX6_does_121 : decode cX6_does 121 = .ok (.invokevirtual 116, 3) := by decide +kernel
theorem dX6_does_124 : decode cX6_does 124 = .ok (.pop, 1) := by decide +kernel
theorem dX6_does_125 : decode cX6_does 125 = .ok (.goto 23, 3) := by decide +kernel
theorem dX6_does_128 : decode cX6_does 128 = .ok (.aload_n 0, 1) := by decide +kernel
theorem dX6_does_129 : decode cX6_does 129 = .ok (.getfield 7, 3) := by decide +kernel
theorem dX6_does_132 : decode cX6_does 132 = .ok (.bipush 6, 2) := by decide +kernel
theorem dX6_does_134 : decode cX6_does 134 = .ok (.aload_n 0, 1) := by decide +kernel
theorem dX6_does_135 : decode cX6_does 135 = .ok (.getfield 28, 3) := by decide +kernel
theorem dX6_does_138 : decode cX6_does 138 = .ok (.iconst 0, 1) := by decide +kernel
theorem dX6_does_139 : decode cX6_does 139 = .ok (.iaload, 1) := by decide +kernel
theorem dX6_does_140 : decode cX6_does 140 = .ok (.iadd, 1) := by decide +kernel
theorem dX6_does_141 : decode cX6_does 141 = .ok (.aload_n 0, 1) := by decide +kernel
theorem dX6_does_142 : decode cX6_does 142 = .ok (.getfield 28, 3) := by decide +kernel
theorem dX6_does_145 : decode cX6_does 145 = .ok (.iconst 1, 1) := by decide +kernel
theorem dX6_does_146 : decode cX6_does 146 = .ok (.iaload, 1) := by decide +kernel
theorem dX6_does_147 : decode cX6_does 147 = .ok (.iastore, 1) := by decide +kernel
theorem dX6_does_148 : decode cX6_does 148 = .ok (.return_, 1) := by decide +kernel
theorem dX6_carryOut_0 : decode cX6_carryOut 0 = .ok (.aload_n 0, 1) := by decide +kernel
theorem dX6_carryOut_1 : decode cX6_carryOut 1 = .ok (.invokevirtual 204, 3) := by decide +kernel
theorem dX6_carryOut_4 : decode cX6_carryOut 4 = .ok (.bipush (-6), 2) := by decide +kernel
theorem dX6_carryOut_6 : decode cX6_carryOut 6 = .ok (.if_icmp .eq 6, 3) := by decide +kernel
theorem dX6_carryOut_9 : decode cX6_carryOut 9 = .ok (.bipush (-3), 2) := by decide +kernel
theorem dX6_carryOut_11 : decode cX6_carryOut 11 = .ok (.ireturn, 1) := by decide +kernel
theorem dX6_carryOut_12 : decode cX6_carryOut 12 = .ok (.aload_n 0, 1) := by decide +kernel
theorem dX6_carryOut_13 : decode cX6_carryOut 13 = .ok (.invokevirtual 84, 3) := by decide +kernel
theorem dX6_carryOut_16 : decode cX6_carryOut 16 = .ok (.iconst 0, 1) := by decide +kernel
theorem dX6_carryOut_17 : decode cX6_carryOut 17 = .ok (.istore_n 1, 1) := by decide +kernel
theorem dX6_carryOut_18 : decode cX6_carryOut 18 = .ok (.aload_n 0, 1) := by decide +kernel
theorem dX6_carryOut_19 : decode cX6_carryOut 19 = .ok (.iconst 0, 1) := by decide +kernel
theorem dX6_carryOut_20 : decode cX6_carryOut 20 = .ok (.putfield 167, 3) := by decide +kernel
theorem dX6_carryOut_23 : decode cX6_carryOut 23 = .ok (.iconst 1, 1) := by decide +kernel
theorem dX6_carryOut_24 : decode cX6_carryOut 24 = .ok (.istore_n 2, 1) := by decide +kernel
theorem dX6_carryOut_25 : decode cX6_carryOut 25 = .ok (.iload_n 2, 1) := by decide +kernel
theorem dX6_carryOut_26 : decode cX6_carryOut 26 = .ok (.ifCond .eq 45, 3) := by decide +kernel
theorem dX6_carryOut_29 : decode cX6_carryOut 29 = .ok (.aload_n 0, 1) := by decide +kernel
theorem dX6_carryOut_30 : decode cX6_carryOut 30 = .ok (.getfield 167, 3) := by decide +kernel
theorem dX6_carryOut_33 : decode cX6_carryOut 33 = .ok (.aload_n 0, 1) := by decide +kernel
theorem dX6_carryOut_34 : decode cX6_carryOut 34 = .ok (.getfield 162, 3) := by decide +kernel
theorem dX6_carryOut_37 : decode cX6_carryOut 37 = .ok (.if_icmp .ge 34, 3) := by decide +kernel
theorem dX6_carryOut_40 : decode cX6_carryOut 40 = .ok (.aload_n 0, 1) := by decide +kernel
theorem dX6_carryOut_41 : decode cX6_carryOut 41 = .ok (.invokevirtual 201, 3) := by decide +kernel
theorem dX6_carryOut_44 : decode cX6_carryOut 44 = .ok (.pop, 1) := by decide +kernel
theorem dX6_carryOut_45 : decode cX6_carryOut 45 = .ok (.aload_n 0, 1) := by decide +kernel
theorem dX6_carryOut_46 : decode cX6_carryOut 46 = .ok (.bipush 59, 2) := by decide +kernel
theorem dX6_carryOut_48 : decode cX6_carryOut 48 = .ok (.invokevirtual 180, 3) := by decide +kernel
theorem dX6_carryOut_51 : decode cX6_carryOut 51 = .ok (.pop, 1) := by decide +kernel
theorem dX6_carryOut_52 : decode cX6_carryOut 52 = .ok (.aload_n 0, 1) := by decide +kernel
theorem dX6_carryOut_53 : decode cX6_carryOut 53 = .ok (.invokevirtual 207, 3) := by decide +kernel
theorem dX6_carryOut_56 : decode cX6_carryOut 56 = .ok (.istore_n 2, 1) := by decide +kernel
theorem dX6_carryOut_57 : decode cX6_carryOut 57 = .ok (.iload_n 2, 1) := by decide +kernel
theorem dX6_carryOut_58 : decode cX6_carryOut 58 = .ok (.ifCond .eq (-33), 3) := by decide +kernel
theorem dX6_carryOut_61 : decode cX6_carryOut 61 = .ok (.aload_n 0, 1) := by decide +kernel
theorem dX6_carryOut_62 : decode cX6_carryOut 62 = .ok (.invokevirtual 210, 3) := by decide +kernel
theorem dX6_carryOut_65 : decode cX6_carryOut 65 = .ok (.iinc 1 1, 3) := by decide +kernel
theorem dX6_carryOut_68 : decode cX6_carryOut 68 = .ok (.goto (-43), 3) := by decide +kernel
theorem dX6_carryOut_71 : decode cX6_carryOut 71 = .ok (.aload_n 0, 1) := by decide +kernel
theorem dX6_carryOut_72 : decode cX6_carryOut 72 = .ok (.iconst 0, 1) := by decide +kernel
theorem dX6_carryOut_73 : decode cX6_carryOut 73 = .ok (.putfield 162, 3) := by decide +kernel
theorem dX6_carryOut_76 : decode cX6_carryOut 76 = .ok (.iload_n 1, 1) := by decide +kernel
theorem dX6_carryOut_77 : decode cX6_carryOut 77 = .ok (.ireturn, 1) := by decide +kernel
theorem dX6_undo_0 : decode cX6_undo 0 = .ok (.aload_n 0, 1) := by decide +kernel
theorem dX6_undo_1 : decode cX6_undo 1 = .ok (.getfield 31, 3) := by decide +kernel
theorem dX6_undo_4 : decode cX6_undo 4 = .ok (.ifCond .ne 6, 3) := by decide +kernel
theorem dX6_undo_7 : decode cX6_undo 7 = .ok (.bipush (-5), 2) := by decide +kernel
theorem dX6_undo_9 : decode cX6_undo 9 = .ok (.ireturn, 1) := by decide +kernel
theorem dX6_undo_10 : decode cX6_undo 10 = .ok (.aload_n 0, 1) := by decide +kernel
theorem dX6_undo_11 : decode cX6_undo 11 = .ok (.dup, 1) := by decide +kernel
theorem dX6_undo_12 : decode cX6_undo 12 = .ok (.getfield 31, 3) := by decide +kernel
theorem dX6_undo_15 : decode cX6_undo 15 = .ok (.iconst 1, 1) := by decide +kernel
theorem dX6_undo_16 : decode cX6_undo 16 = .ok (.isub, 1) := by decide +kernel
theorem dX6_undo_17 : decode cX6_undo 17 = .ok (.putfield 31, 3) := by decide +kernel
theorem dX6_undo_20 : decode cX6_undo 20 = .ok (.aload_n 0, 1) := by decide +kernel
theorem dX6_undo_21 : decode cX6_undo 21 = .ok (.getfield 16, 3) := by decide +kernel
theorem dX6_undo_24 : decode cX6_undo 24 = .ok (.aload_n 0, 1) := by decide +kernel
theorem dX6_undo_25 : decode cX6_undo 25 = .ok (.getfield 31, 3) := by decide +kernel
theorem dX6_undo_28 : decode cX6_undo 28 = .ok (.sipush 370, 3) := by decide +kernel
theorem dX6_undo_31 : decode cX6_undo 31 = .ok (.imul, 1) := by decide +kernel
theorem dX6_undo_32 : decode cX6_undo 32 = .ok (.aload_n 0, 1) := by decide +kernel
theorem dX6_undo_33 : decode cX6_undo 33 = .ok (.getfield 7, 3) := by decide +kernel
theorem dX6_undo_36 : decode cX6_undo 36 = .ok (.iconst 0, 1) := by decide +kernel
theorem dX6_undo_37 : decode cX6_undo 37 = .ok (.invokestatic 35, 3) := by decide +kernel
theorem dX6_undo_40 : decode cX6_undo 40 = .ok (.aload_n 0, 1) := by decide +kernel
theorem dX6_undo_41 : decode cX6_undo 41 = .ok (.getfield 31, 3) := by decide +kernel
theorem dX6_undo_44 : decode cX6_undo 44 = .ok (.ireturn, 1) := by decide +kernel
theorem dX6_save_0 : decode cX6_save 0 = .ok (.iload_n 1, 1) := by decide +kernel
theorem dX6_save_1 : decode cX6_save 1 = .ok (.iconst 0, 1) := by decide +kernel
theorem dX6_save_2 : decode cX6_save 2 = .ok (.iconst 1, 1) := by decide +kernel
theorem dX6_save_3 : decode cX6_save 3 = .ok (.invokestatic 39, 3) := by decide +kernel
theorem dX6_save_6 : decode cX6_save 6 = .ok (.ifCond .ne 6, 3) := by decide +kernel
theorem dX6_save_9 : decode cX6_save 9 = .ok (.bipush (-2), 2) := by decide +kernel
theorem dX6_save_11 : decode cX6_save 11 = .ok (.ireturn, 1) := by decide +kernel
theorem dX6_save_12 : decode cX6_save 12 = .ok (.aload_n 0, 1) := by decide +kernel
theorem dX6_save_13 : decode cX6_save 13 = .ok (.getfield 7, 3) := by decide +kernel
theorem dX6_save_16 : decode cX6_save 16 = .ok (.iconst 0, 1) := by decide +kernel
theorem dX6_save_17 : decode cX6_save 17 = .ok (.aload_n 0, 1) := by decide +kernel
theorem dX6_save_18 : decode cX6_save 18 = .ok (.getfield 19, 3) := by decide +kernel
theorem dX6_save_21 : decode cX6_save 21 = .ok (.sipush 370, 3) := by decide +kernel
theorem dX6_save_24 : decode cX6_save 24 = .ok (.iload_n 1, 1) := by decide +kernel
theorem dX6_save_25 : decode cX6_save 25 = .ok (.imul, 1) := by decide +kernel
theorem dX6_save_26 : decode cX6_save 26 = .ok (.invokestatic 35, 3) := by decide +kernel
theorem dX6_save_29 : decode cX6_save 29 = .ok (.aload_n 0, 1) := by decide +kernel
theorem dX6_save_30 : decode cX6_save 30 = .ok (.getfield 22, 3) := by decide +kernel
theorem dX6_save_33 : decode cX6_save 33 = .ok (.iload_n 1, 1) := by decide +kernel
theorem dX6_save_34 : decode cX6_save 34 = .ok (.iconst 1, 1) := by decide +kernel
theorem dX6_save_35 : decode cX6_save 35 = .ok (.iastore, 1) := by decide +kernel
theorem dX6_save_36 : decode cX6_save 36 = .ok (.aload_n 0, 1) := by decide +kernel
theorem dX6_save_37 : decode cX6_save 37 = .ok (.getfield 7, 3) := by decide +kernel
theorem dX6_save_40 : decode cX6_save 40 = .ok (.iconst 4, 1) := by decide +kernel
theorem dX6_save_41 : decode cX6_save 41 = .ok (.iaload, 1) := by decide +kernel
theorem dX6_save_42 : decode cX6_save 42 = .ok (.ireturn, 1) := by decide +kernel
theorem dX6_restore_0 : decode cX6_restore 0 = .ok (.iload_n 1, 1) := by decide +kernel
theorem dX6_restore_1 : decode cX6_restore 1 = .ok (.iconst 0, 1) := by decide +kernel
theorem dX6_restore_2 : decode cX6_restore 2 = .ok (.iconst 1, 1) := by decide +kernel
theorem dX6_restore_3 : decode cX6_restore 3 = .ok (.invokestatic 39, 3) := by decide +kernel
theorem dX6_restore_6 : decode cX6_restore 6 = .ok (.ifCond .ne 6, 3) := by decide +kernel
theorem dX6_restore_9 : decode cX6_restore 9 = .ok (.bipush (-2), 2) := by decide +kernel
theorem dX6_restore_11 : decode cX6_restore 11 = .ok (.ireturn, 1) := by decide +kernel
theorem dX6_restore_12 : decode cX6_restore 12 = .ok (.aload_n 0, 1) := by decide +kernel
theorem dX6_restore_13 : decode cX6_restore 13 = .ok (.getfield 22, 3) := by decide +kernel
theorem dX6_restore_16 : decode cX6_restore 16 = .ok (.iload_n 1, 1) := by decide +kernel
theorem dX6_restore_17 : decode cX6_restore 17 = .ok (.iaload, 1) := by decide +kernel
theorem dX6_restore_18 : decode cX6_restore 18 = .ok (.ifCond .ne 6, 3) := by decide +kernel
theorem dX6_restore_21 : decode cX6_restore 21 = .ok (.bipush (-5), 2) := by decide +kernel
theorem dX6_restore_23 : decode cX6_restore 23 = .ok (.ireturn, 1) := by decide +kernel
theorem dX6_restore_24 : decode cX6_restore 24 = .ok (.aload_n 0, 1) := by decide +kernel
theorem dX6_restore_25 : decode cX6_restore 25 = .ok (.invokevirtual 84, 3) := by decide +kernel
theorem dX6_restore_28 : decode cX6_restore 28 = .ok (.aload_n 0, 1) := by decide +kernel
theorem dX6_restore_29 : decode cX6_restore 29 = .ok (.getfield 19, 3) := by decide +kernel
theorem dX6_restore_32 : decode cX6_restore 32 = .ok (.sipush 370, 3) := by decide +kernel
theorem dX6_restore_35 : decode cX6_restore 35 = .ok (.iload_n 1, 1) := by decide +kernel
theorem dX6_restore_36 : decode cX6_restore 36 = .ok (.imul, 1) := by decide +kernel
theorem dX6_restore_37 : decode cX6_restore 37 = .ok (.aload_n 0, 1) := by decide +kernel
theorem dX6_restore_38 : decode cX6_restore 38 = .ok (.getfield 7, 3) := by decide +kernel
theorem dX6_restore_41 : decode cX6_restore 41 = .ok (.iconst 0, 1) := by decide +kernel
theorem dX6_restore_42 : decode cX6_restore 42 = .ok (.invokestatic 35, 3) := by decide +kernel
theorem dX6_restore_45 : decode cX6_restore 45 = .ok (.aload_n 0, 1) := by decide +kernel
theorem dX6_restore_46 : decode cX6_restore 46 = .ok (.getfield 7, 3) := by decide +kernel
theorem dX6_restore_49 : decode cX6_restore 49 = .ok (.iconst 4, 1) := by decide +kernel
theorem dX6_restore_50 : decode cX6_restore 50 = .ok (.iaload, 1) := by decide +kernel
theorem dX6_restore_51 : decode cX6_restore 51 = .ok (.ireturn, 1) := by decide +kernel
end
section
/-! THE BASE: the whole world as one memory. Cells at abstract addresses: 1, 2, 3 the three static tables, 4 the script, from 8 on the cells that the law's run makes, in the order in which they come.
M holds the numbers of a cell, R its references (0: null). -/
abbrev Mm : Type := Nat → Nat → Int32
abbrev Rm : Type := Nat → Nat → Nat
/-- classes and slots; the old addresses 1..4; where the new cells begin; the array classes by tag; the script's length and numbers -/
abbrev Gm : Type := va_G × (Nat → Nat) × Nat × (Nat → ClassId) × Nat × (Nat → Int32)
def gN (γ : Gm) : Nat := γ.2.2.1
def gC (γ : Gm) (t : Nat) : ClassId := γ.2.2.2.1 t
def ph (γ : Gm) (k : Nat) : Nat := if k < 8 then γ.2.1 k else gN γ + (k - 8)
def pv (γ : Gm) (v : Value) : Value := match v with
  | .ref k => .ref (ph γ k)
  | w => w
/-- a tank's twenty cells -/
def shTank : List (Nat × Nat) := [(4, 8), (10, 3), (10, 40), (10, 40), (14, 6), (15, 4), (3, 6), (3, 6), (3, 6), (3, 6), (3, 6), (3, 6), (0, 4), (10, 60), (0, 4), (10, 60), (0, 4), (10, 60), (0, 4), (10, 60)]
/-- tag and size of each cell: a tag below 8 is the number of the class in vwCl, 10 int[], 11 char[], 12 boolean[], 13 Tank[], 14 Paddle[], 15 Gauge[] -/
def shL : List (Nat × Nat) := [(99, 0), (10, 3), (10, 3), (10, 3), (99, 0), (99, 0), (99, 0), (99, 0), (5, 7)] ++ (shTank ++ ([(2, 9), (11, 80), (1, 2), (13, 6)] ++ (shTank ++ (shTank ++ (shTank ++ (shTank ++ (shTank ++ (shTank ++ ([(13, 2), (12, 2)] ++ (shTank ++ (shTank ++ (shTank ++ (shTank ++ [(6, 13), (10, 370), (10, 370), (10, 2220), (10, 740), (10, 2), (10, 80), (10, 5)])))))))))))))
def Sh (k : Nat) : Nat × Nat := shL.getD k (99, 0)
def tg (k : Nat) : Nat := (Sh k).1
def ln (k : Nat) : Nat := (Sh k).2
/-- which slots of a class are references -/
def isR (t j : Nat) : Bool := if t = 0 ∨ t = 1 ∨ t = 2 then decide (j = 0) else if t = 4 then decide (j < 5) else if t = 5 then true else if t = 6 then decide (j = 0 ∨ j = 1 ∨ j = 2 ∨ j = 4 ∨ j = 5 ∨ j = 6 ∨ j = 11) else false
def rv (γ : Gm) (r : Nat) : Value := if r = 0 then .null else .ref (ph γ r)
def rq (γ : Gm) (r : Nat) : Option Nat := if r = 0 then none else some (ph γ r)
def fv (γ : Gm) (M : Mm) (R : Rm) (k j : Nat) : Value := if isR (tg k) j then rv γ (R k j) else .int (M k j)
def ce (γ : Gm) (M : Mm) (R : Rm) (k : Nat) : va_E :=
  if tg k < 8 then .inr (tg k, (List.range (ln k)).map (fv γ M R k)) else if tg k < 13 then .inl (gC γ (tg k), ln k, .inl (M k)) else .inl (gC γ (tg k), ln k, .inr (.inr (.inr (.inr (fun j => rq γ (R k j))))))
def wl (γ : Gm) (n : Nat) (M : Mm) (R : Rm) : va_W := (List.range (n - 8)).map (fun i => (gN γ + i, ce γ M R (i + 8)))
/-- slots used by the cells below k -/
def sl : Nat → Nat
  | 0 => 0
  | k + 1 => sl k + ln k
def up {α : Type} (f : Nat → α) (k : Nat) (v : α) : Nat → α := fun j => if j = k then v else f j
def u2 {α : Type} (f : Nat → Nat → α) (a j : Nat) (v : α) : Nat → Nat → α := up f a (up (f a) j v)
theorem up_s {α : Type} (f : Nat → α) (k : Nat) (v : α) : up f k v k = v := by simp [up]
theorem up_n {α : Type} (f : Nat → α) {k j : Nat} (v : α) (h : j ≠ k) : up f k v j = f j := by simp [up, h]
theorem u2_s {α : Type} (f : Nat → Nat → α) (a j : Nat) (v : α) : u2 f a j v a = up (f a) j v := by simp [u2, up]
theorem u2_n {α : Type} (f : Nat → Nat → α) {a b : Nat} (j : Nat) (v : α) (h : b ≠ a) : u2 f a j v b = f b := by simp [u2, up, h]
theorem sl_mono {a b : Nat} (h : a ≤ b) : sl a ≤ sl b := by
  induction b with
  | zero => rw [Nat.le_zero.mp h]; exact Nat.le_refl _
  | succ b ih =>
    rcases Nat.lt_or_ge a (b + 1) with h1 | h1
    · exact Nat.le_trans (ih (Nat.le_of_lt_succ h1)) (Nat.le_add_right _ _)
    · rw [Nat.le_antisymm h h1]; exact Nat.le_refl _
theorem ph_new (γ : Gm) {k : Nat} (h : 8 ≤ k) : ph γ k = gN γ + (k - 8) := by rw [ph, if_neg (Nat.not_lt.mpr h)]
theorem ce_congr {γ : Gm} {M M' : Mm} {R R' : Rm} {k : Nat} (h1 : M k = M' k) (h2 : R k = R' k) : ce γ M R k = ce γ M' R' k := by
  unfold ce fv
  rw [h1, h2]
theorem wl_get {γ : Gm} {n : Nat} {M : Mm} {R : Rm} {k : Nat} (h8 : 8 ≤ k) (hk : k < n) : (wl γ n M R)[k - 8]? = some (ph γ k, ce γ M R k) := by
  have h1 : k - 8 < n - 8 := by omega
  rw [wl, List.getElem?_map, List.getElem?_range h1, Option.map_some, ph_new γ h8, Nat.sub_add_cancel h8]
theorem wl_len (γ : Gm) (n : Nat) (M : Mm) (R : Rm) : (wl γ n M R).length = n - 8 := by simp [wl]
theorem wl_inv {γ : Gm} {n : Nat} {M : Mm} {R : Rm} {i : Nat} {q : Nat × va_E} (h : (wl γ n M R)[i]? = some q) : i + 8 < n ∧ q = (gN γ + i, ce γ M R (i + 8)) := by
  have h1 : i < (wl γ n M R).length := (List.getElem?_eq_some_iff.mp h).1
  rw [wl_len] at h1
  have h2 := wl_get (γ := γ) (M := M) (R := R) (k := i + 8) (n := n) (by omega) (by omega)
  rw [Nat.add_sub_cancel, h, ph_new γ (by omega), Nat.add_sub_cancel] at h2
  exact ⟨by omega, Option.some.inj h2⟩
theorem wl_D (γ : Gm) (n : Nat) (M : Mm) (R : Rm) : va_D (fun q => gN γ ≤ q) (wl γ n M R) := by
  refine ⟨fun i j p q hi hj hpq => ?_, fun k q hk => ?_⟩
  · obtain ⟨-, rfl⟩ := wl_inv hi
    obtain ⟨-, rfl⟩ := wl_inv hj
    exact Nat.add_left_cancel hpq
  · obtain ⟨-, rfl⟩ := wl_inv hk
    exact Nat.le_add_right _ _
theorem wl_set {γ : Gm} {n : Nat} {M M' : Mm} {R R' : Rm} {k : Nat} {e : va_E} (h8 : 8 ≤ k) (hk : k < n) (he : e = ce γ M' R' k) (ho : ∀ j, j ≠ k → ce γ M' R' j = ce γ M R j) : (wl γ n M R).set (k - 8) (ph γ k, e) = wl γ n M' R' := by
  apply List.ext_getElem?
  intro i
  by_cases hi : i = k - 8
  · subst hi
    rw [List.getElem?_set_self (by rw [wl_len]; omega), wl_get h8 hk, he]
  · rw [List.getElem?_set_ne (Ne.symm hi)]
    rcases Nat.lt_or_ge i (n - 8) with h | h
    · have h1 := wl_get (γ := γ) (M := M) (R := R) (k := i + 8) (n := n) (by omega) (by omega)
      have h2 := wl_get (γ := γ) (M := M') (R := R') (k := i + 8) (n := n) (by omega) (by omega)
      rw [Nat.add_sub_cancel] at h1 h2
      rw [h1, h2, ho (i + 8) (by omega)]
    · rw [List.getElem?_eq_none (by rw [wl_len]; omega), List.getElem?_eq_none (by rw [wl_len]; omega)]
theorem wl_push {γ : Gm} {n : Nat} {M M' : Mm} {R R' : Rm} {e : va_E} (h8 : 8 ≤ n) (he : e = ce γ M' R' n) (ho : ∀ j, j ≠ n → ce γ M' R' j = ce γ M R j) : wl γ n M R ++ [(gN γ + (n - 8), e)] = wl γ (n + 1) M' R' := by
  apply List.ext_getElem?
  intro i
  rcases Nat.lt_trichotomy i (n - 8) with h | h | h
  · rw [List.getElem?_append_left (by rw [wl_len]; exact h)]
    have h1 := wl_get (γ := γ) (M := M) (R := R) (k := i + 8) (n := n) (by omega) (by omega)
    have h2 := wl_get (γ := γ) (M := M') (R := R') (k := i + 8) (n := n + 1) (by omega) (by omega)
    rw [Nat.add_sub_cancel] at h1 h2
    rw [h1, h2, ho (i + 8) (by omega)]
  · subst h
    rw [List.getElem?_append_right (by rw [wl_len]; omega), wl_len, Nat.sub_self, wl_get h8 (Nat.lt_succ_self n), ph_new γ h8, he]
    rfl
  · rw [List.getElem?_eq_none (by simp [wl_len]; omega), List.getElem?_eq_none (by rw [wl_len]; omega)]
theorem ce_o {γ : Gm} {M : Mm} {R : Rm} {k : Nat} (h : tg k < 8) : ce γ M R k = .inr (tg k, (List.range (ln k)).map (fv γ M R k)) := by rw [ce, if_pos h]
theorem ce_i {γ : Gm} {M : Mm} {R : Rm} {k : Nat} (h : 10 ≤ tg k) (h2 : tg k < 13) : ce γ M R k = .inl (gC γ (tg k), ln k, .inl (M k)) := by rw [ce, if_neg (by omega), if_pos h2]
theorem ce_q {γ : Gm} {M : Mm} {R : Rm} {k : Nat} (h : 13 ≤ tg k) : ce γ M R k = .inl (gC γ (tg k), ln k, .inr (.inr (.inr (.inr (fun j => rq γ (R k j)))))) := by rw [ce, if_neg (by omega), if_neg (by omega)]
theorem range_set {α : Type} (f : Nat → α) (N k : Nat) (v : α) : ((List.range N).map f).set k v = (List.range N).map (up f k v) := by
  apply List.ext_getElem?
  intro i
  rcases Nat.lt_or_ge i N with h | h
  · by_cases hi : k = i
    · subst hi
      rw [List.getElem?_set_self (by simpa using h), List.getElem?_map, List.getElem?_range h]
      simp [up]
    · rw [List.getElem?_set_ne hi, List.getElem?_map, List.getElem?_map, List.getElem?_range h]
      simp [up, Ne.symm hi]
  · rw [List.getElem?_eq_none (by simpa using h), List.getElem?_eq_none (by simpa using h)]
theorem fv_setI {γ : Gm} {M : Mm} {R : Rm} {a k : Nat} {x : Int32} (h : isR (tg a) k = false) : up (fv γ M R a) k (.int x) = fv γ (u2 M a k x) R a := by
  funext j
  by_cases hj : j = k
  · subst hj
    simp [up, fv, h, u2]
  · simp [up, fv, hj, u2]
theorem fv_setR {γ : Gm} {M : Mm} {R : Rm} {a k r : Nat} (h : isR (tg a) k = true) (hr : r ≠ 0) : up (fv γ M R a) k (.ref (ph γ r)) = fv γ M (u2 R a k r) a := by
  funext j
  by_cases hj : j = k
  · subst hj
    simp [up, fv, h, u2, rv, hr]
  · simp [up, fv, hj, u2]
/-! locals -/
def asc (γ : Gm) : Nat → List (Option Value) → List (Nat × Value)
  | _, [] => []
  | i, none :: L => asc γ (i + 1) L
  | i, some v :: L => (i, pv γ v) :: asc γ (i + 1) L
theorem asc_mem {γ : Gm} {v : Value} : ∀ {L : List (Option Value)} {i j : Nat}, L[j]? = some (some v) → (i + j, pv γ v) ∈ asc γ i L
  | [], i, j, h => by simp at h
  | o :: L, i, 0, h => by
    rw [List.getElem?_cons_zero] at h
    cases h
    exact List.mem_cons_self
  | o :: L, i, j + 1, h => by
    rw [List.getElem?_cons_succ] at h
    have h1 := asc_mem (γ := γ) (i := i + 1) h
    rw [show i + 1 + j = i + (j + 1) by omega] at h1
    cases o with
    | none => exact h1
    | some w => exact List.mem_cons_of_mem _ h1
theorem asc_inv {γ : Gm} : ∀ {L : List (Option Value)} {i : Nat} {q : Nat × Value}, q ∈ asc γ i L → ∃ (j : Nat) (v : Value), L[j]? = some (some v) ∧ q = (i + j, pv γ v)
  | [], i, q, h => by simp [asc] at h
  | none :: L, i, q, h => by
    obtain ⟨j, v, h1, h2⟩ := asc_inv (γ := γ) (L := L) (i := i + 1) h
    exact ⟨j + 1, v, by rw [List.getElem?_cons_succ]; exact h1, by rw [h2]; congr 1; omega⟩
  | some w :: L, i, q, h => by
    rcases List.mem_cons.mp h with rfl | h
    · exact ⟨0, w, rfl, rfl⟩
    · obtain ⟨j, v, h1, h2⟩ := asc_inv (γ := γ) (L := L) (i := i + 1) h
      exact ⟨j + 1, v, by rw [List.getElem?_cons_succ]; exact h1, by rw [h2]; congr 1; omega⟩
def is2 (o : Option Value) : Bool := match o with
  | some (.long _) => true
  | some (.double _) => true
  | _ => false
theorem pv_cat (γ : Gm) (v : Value) : (pv γ v).category = v.category := by cases v <;> rfl
theorem is2_cat (v : Value) : is2 (some v) = true ↔ v.category = 2 := by cases v <;> simp [is2, Value.category]
/-- storing a value of one slot, of two -/
def stA : List (Option Value) → Nat → Value → List (Option Value)
  | [], _, _ => []
  | _ :: L, 0, v => some v :: L
  | o :: L, i + 1, v => (if i = 0 ∧ is2 o = true then none else o) :: stA L i v
def stB : List (Option Value) → Nat → Value → List (Option Value)
  | [], _, _ => []
  | _ :: L, 0, v => some v :: (match L with
    | [] => []
    | _ :: T => none :: T)
  | o :: L, i + 1, v => (if i = 0 ∧ is2 o = true then none else o) :: stB L i v
theorem stA_get {v w : Value} : ∀ {L : List (Option Value)} {i j : Nat}, (stA L i v)[j]? = some (some w) → (j = i ∧ w = v) ∨ (j ≠ i ∧ L[j]? = some (some w) ∧ ¬ (j + 1 = i ∧ is2 (some w) = true))
  | [], i, j, h => by simp [stA] at h
  | o :: L, 0, 0, h => by
    simp [stA] at h
    exact Or.inl ⟨rfl, h.symm⟩
  | o :: L, 0, j + 1, h => by
    simp [stA] at h
    exact Or.inr ⟨by omega, by rw [List.getElem?_cons_succ]; exact h, by omega⟩
  | o :: L, i + 1, 0, h => by
    rw [stA, List.getElem?_cons_zero] at h
    by_cases hc : i = 0 ∧ is2 o = true
    · rw [if_pos hc] at h
      cases h
    · rw [if_neg hc] at h
      cases h
      exact Or.inr ⟨by omega, rfl, fun ⟨a, b⟩ => hc ⟨by omega, b⟩⟩
  | o :: L, i + 1, j + 1, h => by
    rw [stA, List.getElem?_cons_succ] at h
    rcases stA_get h with ⟨a, b⟩ | ⟨a, b, c⟩
    · exact Or.inl ⟨by omega, b⟩
    · exact Or.inr ⟨by omega, by rw [List.getElem?_cons_succ]; exact b, fun ⟨x, y⟩ => c ⟨by omega, y⟩⟩
theorem stB_get {v w : Value} : ∀ {L : List (Option Value)} {i j : Nat}, (stB L i v)[j]? = some (some w) → (j = i ∧ w = v) ∨ (j ≠ i ∧ j ≠ i + 1 ∧ L[j]? = some (some w) ∧ ¬ (j + 1 = i ∧ is2 (some w) = true))
  | [], i, j, h => by simp [stB] at h
  | o :: [], 0, 0, h => by
    simp [stB] at h
    exact Or.inl ⟨rfl, h.symm⟩
  | o :: [], 0, j + 1, h => by simp [stB] at h
  | o :: _ :: T, 0, 0, h => by
    simp [stB] at h
    exact Or.inl ⟨rfl, h.symm⟩
  | o :: _ :: T, 0, 1, h => by simp [stB] at h
  | o :: _ :: T, 0, j + 2, h => by
    simp [stB] at h
    exact Or.inr ⟨by omega, by omega, by rw [List.getElem?_cons_succ, List.getElem?_cons_succ]; exact h, by omega⟩
  | o :: L, i + 1, 0, h => by
    rw [stB, List.getElem?_cons_zero] at h
    by_cases hc : i = 0 ∧ is2 o = true
    · rw [if_pos hc] at h
      cases h
    · rw [if_neg hc] at h
      cases h
      exact Or.inr ⟨by omega, by omega, rfl, fun ⟨a, b⟩ => hc ⟨by omega, b⟩⟩
  | o :: L, i + 1, j + 1, h => by
    rw [stB, List.getElem?_cons_succ] at h
    rcases stB_get h with ⟨a, b⟩ | ⟨a, a2, b, c⟩
    · exact Or.inl ⟨by omega, b⟩
    · exact Or.inr ⟨by omega, by omega, by rw [List.getElem?_cons_succ]; exact b, fun ⟨x, y⟩ => c ⟨by omega, y⟩⟩
def lvh (γ : Gm) (ls : Array Slot) (nL : Nat) (L : List (Option Value)) : Prop := lv_has ls nL (asc γ 0 L)
theorem lvh_at {γ : Gm} {ls : Array Slot} {nL : Nat} {L : List (Option Value)} (h : lvh γ ls nL L) {j : Nat} {v : Value} (hj : L[j]? = some (some v)) : ls[j]? = some (.val (pv γ v)) := by
  have h1 := h.2.2 _ (asc_mem (γ := γ) (i := 0) hj)
  rwa [Nat.zero_add] at h1
theorem lvh_stA {γ : Gm} {ls' : Array Slot} {nL i : Nat} {L : List (Option Value)} {v : Value} (h : lv_has ls' nL ((i, pv γ v) :: (asc γ 0 L).filter (fun q => !(q.1 == i) && !(q.1 + 1 == i && q.2.category == 2)))) : lvh γ ls' nL (stA L i v) := by
  refine ⟨h.1, h.2.1, fun q hq => h.2.2 q ?_⟩
  obtain ⟨j, w, h1, rfl⟩ := asc_inv hq
  rw [Nat.zero_add]
  rcases stA_get h1 with ⟨rfl, rfl⟩ | ⟨a, b, c⟩
  · exact List.mem_cons_self
  · refine List.mem_cons_of_mem _ (List.mem_filter.mpr ⟨?_, ?_⟩)
    · have h2 := asc_mem (γ := γ) (i := 0) b
      rwa [Nat.zero_add] at h2
    · rw [is2_cat] at c
      simp only [pv_cat, Bool.and_eq_true, Bool.not_eq_true', beq_eq_false_iff_ne, ne_eq, Bool.and_eq_false_iff]
      refine ⟨a, ?_⟩
      by_cases z : j + 1 = i
      · exact Or.inr (by simpa using fun q => c ⟨z, q⟩)
      · exact Or.inl z
theorem lvh_stB {γ : Gm} {ls' : Array Slot} {nL i : Nat} {L : List (Option Value)} {v : Value} (h : lv_has ls' nL ((i, pv γ v) :: (asc γ 0 L).filter (fun q => !(q.1 == i) && (!(q.1 == i + 1) && !(q.1 + 1 == i && q.2.category == 2))))) : lvh γ ls' nL (stB L i v) := by
  refine ⟨h.1, h.2.1, fun q hq => h.2.2 q ?_⟩
  obtain ⟨j, w, h1, rfl⟩ := asc_inv hq
  rw [Nat.zero_add]
  rcases stB_get h1 with ⟨rfl, rfl⟩ | ⟨a, a2, b, c⟩
  · exact List.mem_cons_self
  · refine List.mem_cons_of_mem _ (List.mem_filter.mpr ⟨?_, ?_⟩)
    · have h2 := asc_mem (γ := γ) (i := 0) b
      rwa [Nat.zero_add] at h2
    · rw [is2_cat] at c
      simp only [pv_cat, Bool.and_eq_true, Bool.not_eq_true', beq_eq_false_iff_ne, ne_eq, Bool.and_eq_false_iff]
      refine ⟨a, a2, ?_⟩
      by_cases z : j + 1 = i
      · exact Or.inr (by simpa using fun q => c ⟨z, q⟩)
      · exact Or.inl z
def iL : List Value → List (Option Value)
  | [] => []
  | v :: vs => if v.category = 2 then some v :: none :: iL vs else some v :: iL vs
def inL (n : Nat) (vs : List Value) : List (Option Value) := iL vs ++ List.replicate (n - (iL vs).length) none
theorem asc_app (γ : Gm) : ∀ (L L' : List (Option Value)) (i : Nat), asc γ i (L ++ L') = asc γ i L ++ asc γ (i + L.length) L'
  | [], L', i => rfl
  | none :: L, L', i => by
    show asc γ (i + 1) (L ++ L') = asc γ (i + 1) L ++ _
    rw [asc_app γ L L' (i + 1), List.length_cons, show i + 1 + L.length = i + (L.length + 1) by omega]
  | some v :: L, L', i => by
    show (i, pv γ v) :: asc γ (i + 1) (L ++ L') = (i, pv γ v) :: (asc γ (i + 1) L ++ _)
    rw [asc_app γ L L' (i + 1), List.length_cons, show i + 1 + L.length = i + (L.length + 1) by omega]
theorem asc_none (γ : Gm) : ∀ (k i : Nat), asc γ i (List.replicate k none) = []
  | 0, _ => rfl
  | k + 1, i => asc_none γ k (i + 1)
theorem asc_iL (γ : Gm) : ∀ (vs : List Value) (i : Nat), asc γ i (iL vs) = lv_args i (vs.map (pv γ))
  | [], _ => rfl
  | v :: vs, i => by
    rw [List.map_cons, lv_args, pv_cat, iL]
    by_cases h : v.category = 2
    · rw [if_pos h, if_pos h, ← asc_iL γ vs (i + 2)]
      rfl
    · rw [if_neg h, if_neg h, ← asc_iL γ vs (i + 1)]
      rfl
theorem lvh_entry {γ : Gm} {ls : Array Slot} {n : Nat} {vs : List Value} (h : lv_has ls n (lv_args 0 (vs.map (pv γ)))) : lvh γ ls n (inL n vs) := by
  unfold lvh inL
  rw [asc_app, asc_none, List.append_nil, asc_iL]
  exact h
theorem lg_len : ∀ (γ : Gm) (vs : List Value), (lg_sl (vs.map (pv γ))).length = (iL vs).length
  | _, [] => rfl
  | γ, v :: vs => by
    have ih := lg_len γ vs
    unfold lg_sl at ih ⊢
    rw [List.map_cons, List.flatMap_cons, List.length_append, ih, pv_cat, iL]
    by_cases h : v.category = 2
    · rw [if_pos h, if_pos h]
      simp
      omega
    · rw [if_neg h, if_neg h]
      simp
      omega
end
section
/-! THE WORLD'S WORDS, AND WHAT A WALK OF A METHOD IS OVER THE MEMORY -/
def WS : List Cond := lw_tbl.filter goodWord
theorem inWS {w : Cond} (h : w ∈ lw_tbl) (hg : goodWord w = true) : w ∈ WS := List.mem_filter.mpr ⟨h, hg⟩
theorem WS_good {w : Cond} (h : w ∈ WS) : (w.onTables && w.keeps) = true ∨ ∃ ty, w = .arrayClass ty := good_of_word (List.mem_filter.mp h).2
/-- the words of nest mates, and the one cast: they move by laws of their own -/
def nestW (w : Cond) : Bool := match w with
  | .fieldLinkNest _ _ _ _ _ _ => true
  | .methodLinkNest _ _ _ _ => true
  | .castable _ _ => true
  | _ => false
theorem nestW_warm {w : Cond} (h : nestW w = true) {s U : State} (hW : s.WarmedH U.vm) (hZ : va_Nw w s) : va_Nw w U := by
  cases w <;> first | exact hZ.warmF hW | exact hZ.warmM hW | exact hZ.warmC hW | exact Bool.noConfusion h
def NW : List Cond := tables_1.filter nestW
abbrev tysG (γ : Gm) : List (ClassId × FieldType) := [(gC γ 10, .int), (gC γ 11, .char), (gC γ 12, .boolean), (gC γ 13, .object RX4), (gC γ 14, .object RX3), (gC γ 15, .object RX0)]
/-- the three static tables -/
def stN (k : Nat) : String := if k = 1 then "FIRST_SETTINGS" else if k = 2 then "LEAST_SETTINGS" else "GREATEST_SETTINGS"
def stV (k j : Nat) : Int32 := if k = 1 then (if j = 0 then 80 else if j = 1 then 2 else 500) else if k = 2 then (if j = 0 then 0 else if j = 1 then 0 else 1) else (if j = 0 then 100 else if j = 1 then 50 else 9999)
abbrev aN (γ : Gm) : Nat → Prop := fun q => gN γ ≤ q
def StK (γ : Gm) (s : State) (k : Nat) : Prop := va_Z RX5 (stN k) "[I" (.ref (ph γ k)) (aN γ) s s.heap ∧ va_T .int (ph γ k) 3 (fun j => .int (stV k j)) (aN γ) s s.heap ∧ ∃ cell : Cell, s.heap[ph γ k]? = some cell ∧ cell.cls = gC γ 10 ∧ cell.slots.size = 3
def ScK (γ : Gm) (s : State) : Prop := va_X (ph γ 4) γ.2.2.2.2.1 γ.2.2.2.2.2 s s.heap ∧ ph γ 4 < s.heap.size ∧ ¬ aN γ (ph γ 4)
theorem ScK.moved {γ : Gm} {s U : State} (h : ScK γ s) (hvm : s.vm.Alike U.vm) (hz : s.heap.size ≤ U.heap.size) (hq : ∀ a : Nat, a < s.heap.size → ¬ aN γ a → U.heap[a]? = s.heap[a]?) : ScK γ U := ⟨(h.1.moved hvm).kept (hq _ h.2.1 h.2.2), Nat.lt_of_lt_of_le h.2.1 hz, h.2.2⟩
def KK (γ : Gm) (s : State) : Prop := va_K γ.1 vwCl (tysG γ) s ∧ (∀ w ∈ NW, va_Nw w s) ∧ (va_AO RX4 s ∧ va_AO RX3 s ∧ va_AO RX0 s) ∧ (∀ k, 1 ≤ k → k < 4 → StK γ s k) ∧ gN γ ≤ s.heap.size ∧ ScK γ s
theorem StK.moved {γ : Gm} {s U : State} {k : Nat} (h : StK γ s k) (hvm : s.vm.Alike U.vm) (hq : ∀ a : Nat, a < s.heap.size → ¬ aN γ a → U.heap[a]? = s.heap[a]?) : StK γ U k := by
  obtain ⟨h1, h2, cell, h3, h4⟩ := h
  refine ⟨(h1.moved hvm).kept hq, (h2.moved hvm).kept hq, cell, ?_, h4⟩
  obtain ⟨cell', g1, -, -, -, -, -, g7⟩ := h2
  rw [hq _ (Array.getElem?_eq_some_iff.mp g1).1 g7]
  exact h3
theorem KK.moved {γ : Gm} {s U : State} (h : KK γ s) (hW : s.WarmedH U.vm) (hz : s.heap.size ≤ U.heap.size) (hq : ∀ a : Nat, a < s.heap.size → ¬ aN γ a → U.heap[a]? = s.heap[a]?) : KK γ U := by
  obtain ⟨h1, h2, ⟨a1, a2, a3⟩, h4, h5, h6⟩ := h
  have hvm := hW.alike
  exact ⟨h1.moved hvm, fun w hw => nestW_warm (List.mem_filter.mp hw).2 hW (h2 w hw), ⟨a1.moved hvm, a2.moved hvm, a3.moved hvm⟩, fun k k1 k2 => (h4 k k1 k2).moved hvm hq, Nat.le_trans h5 hz, h6.moved hvm hz hq⟩
theorem KK.calling {γ : Gm} {U : State} {g : JFrame} {mk : MethodId} {a : Array Value} (h : KK γ U) : KK γ (U.calling g mk a) :=
  ⟨va_K.moved (u := U) (U := U.calling g mk a) (Vm.Alike.refl U.vm) h.1, fun w hw => by
    have h1 := h.2.1 w hw
    have h2 := (List.mem_filter.mp hw).2
    refine va_Nw.same ?_ (rfl : U.vm = (U.calling g mk a).vm) h1
    cases w <;> first | rfl | exact Bool.noConfusion h2, ⟨va_AO.moved (u := U) (U := U.calling g mk a) (Vm.Alike.refl U.vm) h.2.2.1.1, va_AO.moved (u := U) (U := U.calling g mk a) (Vm.Alike.refl U.vm) h.2.2.1.2.1, va_AO.moved (u := U) (U := U.calling g mk a) (Vm.Alike.refl U.vm) h.2.2.1.2.2⟩, fun k k1 k2 => (h.2.2.2.1 k k1 k2).moved (U := U.calling g mk a) (Vm.Alike.refl U.vm) (fun _ _ _ => rfl), h.2.2.2.2.1, h.2.2.2.2.2.moved (U := U.calling g mk a) (Vm.Alike.refl U.vm) (Nat.le_refl _) (fun _ _ _ => rfl)⟩
def Cx (γ : Gm) (y : Mt) (d nE nX : Nat) (p : Program) (R0 : Room) (s : State) (m : MethodId) (args : Array Value) (meth : Method) (c : Code) : Prop :=
  p.tables.exec = Jvm.exec ∧ c.code = y.2.1 ∧ c.maxLocals = y.2.2.1 ∧ s.vm.findClass y.1.cls = some m.cls ∧ (∀ w ∈ WS, w.before args s = true) ∧ KK γ s ∧ (d ≤ R0.frames ∧ 34 * d ≤ R0.locals ∧ nX - nE ≤ R0.cells ∧ sl nX - sl nE ≤ R0.slots) ∧ (8 ≤ nE ∧ s.heap.size = gN γ + (nE - 8)) ∧ (y.1.name = "<init>" → meth.name = "<init>")
def Wd (γ : Gm) (n : Nat) (M : Mm) (R : Rm) (s : State) (H : Heap) (locs : List Loc) : Prop := va_P γ.1 vwCl (wl γ n M R) H ∧ va_S (aN γ) s.heap H locs
def retOk (y : Mt) (pc : Nat) (v : Option Value) : Prop := match v with
  | none => decode y.2.1 pc = .ok (.return_, 1) ∧ y.2.2.2 = none
  | some (.int x) => decode y.2.1 pc = .ok (.ireturn, 1) ∧ ∃ ty, y.2.2.2 = some ty ∧ narrow ty (.int x) = .int x
  | some (.long _) => decode y.2.1 pc = .ok (.lreturn, 1) ∧ y.2.2.2 = some .long
  | _ => False
/-- from pc, with these locals and this stack and this memory, method y comes to its end, and there K holds of its answer and of the memory -/
def WP (γ : Gm) (l : Launch) (y : Mt) (d nE nX : Nat) (pc : Nat) (L : List (Option Value)) (S : List Value) (n : Nat) (M : Mm) (R : Rm) (K : Option Value → Nat → Mm → Rm → Prop) : Prop :=
  ∀ (p : Program) (e : Env) (R0 : Room) (s : State) (m : MethodId) (args : Array Value) (below : List Frame) (meth : Method) (c : Code) (Q : State → Prop) (H : Heap) (locs : List Loc) (ls : Array Slot),
    Cx γ y d nE nX p R0 s m args meth c →
    (∀ (pc' : Nat) (v : Option Value) (M' : Mm) (R' : Rm) (H' : Heap) (locs' : List Loc) (ls' : Array Slot), retOk y pc' v → Wd γ nX M' R' s H' locs' → K v nX M' R' →
      W p l e R0 s m args below meth c H' locs' (nX - nE) (sl nX - sl nE) Q (F0 m pc' ls' (v.map (pv γ)).toList)) →
    Wd γ n M R s H locs → nE ≤ n → n ≤ nX → lvh γ ls y.2.2.1 L →
    W p l e R0 s m args below meth c H locs (n - nE) (sl n - sl nE) Q (F0 m pc ls (S.map (pv γ)))
def CL (γ : Gm) (l : Launch) (z : Mt) (d n n' : Nat) (As : List Value) (M : Mm) (R : Rm) (K : Option Value → Nat → Mm → Rm → Prop) : Prop := WP γ l z d n n' 0 (inL z.2.2.1 As) [] n M R K
theorem WP.mono {γ : Gm} {l : Launch} {y : Mt} {d nE nX pc n : Nat} {L : List (Option Value)} {S : List Value} {M : Mm} {R : Rm} {K K' : Option Value → Nat → Mm → Rm → Prop} (h : WP γ l y d nE nX pc L S n M R K) (hK : ∀ v M' R', K v nX M' R' → K' v nX M' R') : WP γ l y d nE nX pc L S n M R K' :=
  fun p e R0 s m args below meth c Q H locs ls C hr => h p e R0 s m args below meth c Q H locs ls C (fun pc' v M' R' H' locs' ls' h1 h2 h3 => hr pc' v M' R' H' locs' ls' h1 h2 (hK v M' R' h3))
/-! calls -/
def PcW (γ : Gm) (As : List Value) (n : Nat) (M : Mm) (R : Rm) : Array Value → State → Prop := fun a U => a = (As.map (pv γ)).toArray ∧ KK γ U ∧ 8 ≤ n ∧ U.heap.size = gN γ + (n - 8) ∧ va_P γ.1 vwCl (wl γ n M R) U.heap
def QcW (γ : Gm) (n' : Nat) (K : Option Value → Nat → Mm → Rm → Prop) : Array Value → State → Outcome → State → Prop := fun _ st o t => ∃ (r : Option Value) (M' : Mm) (R' : Rm), o = .returned (r.map (pv γ)) ∧ K r n' M' R' ∧ va_P γ.1 vwCl (wl γ n' M' R') t.heap ∧ va_F (aN γ) st t
abbrev rmW (d n n' : Nat) : Room := { frames := d, cells := n' - n, slots := sl n' - sl n, locals := 34 * d }
theorem Met.ofWF {l : Launch} {y : MethodName} {ws ws' : List Cond} {rm : Room} {Pc : Array Value → State → Prop} {Qc : Array Value → State → Outcome → State → Prop} {mc ms : Nat} {free : Addr → Prop} {cc : ByteArray} {maxL : Nat} {ret : Option FieldType}
    (hy : plainFor y = true) (hw : ws = Cond.code y cc maxL ret :: ws')
    (body : ∀ p e s m args below meth c s₁, BodyLoose p l y (headSpec ws rm) cc maxL ret e s m args below meth c s₁ → c.maxLocals = maxL → Pc args s →
      W p l e (headSpec ws rm).room s m args below meth c s.heap [] 0 0 (MQ below Qc args s mc ms free) (entryFrame m args maxL)) : Met l y ws rm Pc Qc mc ms free := by
  refine MetFree.of_bodySF (code := cc) (maxLocals := maxL) (ret := ret) hy ?_ ?_
  · intro args s m h hn
    obtain ⟨meth, c, h1, h2, h3, h4, h5, h6, -, -⟩ := Cond.code_spec hn (atoms_spec (ws := ws) h _ (by rw [hw]; exact List.mem_cons_self))
    exact ⟨meth, c, h1, h2, h3, h4, h5, h6⟩
  · intro p e s m args below meth c s₁ B hml hP _
    have hh0 : s₁.heap = s.heap := by rw [B.state]; rfl
    obtain ⟨t, a1, o, b1, b2, b3⟩ := body p e s m args below meth c s₁ B hml hP s₁ hh0 (Stand.of_body B)
    exact ⟨t, o, a1, b1, b2, ⟨b3.1, b3.2⟩⟩
set_option maxHeartbeats 1000000 in
theorem met_of {γ : Gm} {l : Launch} {z : Mt} {d n n' : Nat} {As : List Value} {M : Mm} {R : Rm} {K : Option Value → Nat → Mm → Rm → Prop} (hpl : plainFor z.1 = true) (hn : n ≤ n') (hlen : (iL As).length ≤ z.2.2.1) (hk : CL γ l z d n n' As M R K) :
    Met l z.1 (Cond.code z.1 z.2.1 z.2.2.1 z.2.2.2 :: WS) (rmW d n n') (PcW γ As n M R) (QcW γ n' K) (n' - n) (sl n' - sl n) (aN γ) := by
  refine Met.ofWF (cc := z.2.1) (maxL := z.2.2.1) (ret := z.2.2.2) hpl rfl ?_
  intro p e s m args below meth c s₁ B hml hv
  obtain ⟨rfl, hKK, h8, hsz, hP⟩ := hv
  have hlocks := B.notSynchronized
  have hb := B.bytes
  have hr := B.returns
  have hts := atoms_spec (ws := Cond.code z.1 z.2.1 z.2.2.1 z.2.2.2 :: WS) B.pre
  rw [lg_entry_eq]
  have hl := lv_entry (As.map (pv γ)) (n := z.2.2.1) (by rw [lg_len]; exact hlen)
  have h := hk p e (headSpec (Cond.code z.1 z.2.1 z.2.2.1 z.2.2.2 :: WS) (rmW d n n')).room s m (As.map (pv γ)).toArray below meth c (MQ below (QcW γ n' K) (As.map (pv γ)).toArray s (n' - n) (sl n' - sl n) (aN γ)) s.heap [] _
    ⟨B.exec, hb, hml, findClass_of_methodNamed B.named, fun w hw => hts w (List.mem_cons_of_mem _ hw), hKK, ⟨Nat.le_refl _, Nat.le_refl _, Nat.le_refl _, Nat.le_refl _⟩, ⟨h8, hsz⟩, fun h => (name_of_methodNamed B.named B.method).1.trans h⟩
    (fun pc' v M' R' H' locs' ls' hret hW hK => by
      obtain ⟨wP, wS⟩ := hW
      match v, hret with
      | none, hret => exact W.vret B.exec hb (hr.trans hret.2) (fun t ht hW => ⟨none, M', R', rfl, hK, by rw [ht]; exact wP, wS.F ht⟩) wS.2.2 hret.1 hlocks
      | some (.int x), hret =>
        obtain ⟨hd, ty, h1, h2⟩ := hret
        exact W.zret B.exec hb (hr.trans h1) h2 (fun t ht hW => ⟨some (.int x), M', R', rfl, hK, by rw [ht]; exact wP, wS.F ht⟩) wS.2.2 hd hlocks
      | some (.long x), hret => exact W.lret B.exec hb (hr.trans hret.2) (fun t ht hW => ⟨some (.long x), M', R', rfl, hK, by rw [ht]; exact wP, wS.F ht⟩) wS.2.2 hret.1 hlocks
      | some (.ref _), hret => exact hret.elim
      | some .null, hret => exact hret.elim
      | some (.float _), hret => exact hret.elim
      | some (.double _), hret => exact hret.elim)
    ⟨hP, va_S.rf⟩ (Nat.le_refl _) hn (lvh_entry hl)
  rw [Nat.sub_self, Nat.sub_self] at h
  exact h
section CALLS
variable {γ : Gm} {p : Program} {l : Launch} {e : Env} {R0 : Room} {s : State} {m : MethodId} {args : Array Value} {below : List Frame} {meth : Method} {c : Code} {H : Heap} {locs : List Loc} {cells slots : Nat} {Q : State → Prop}
theorem call_fin {pc : Nat} {ls : Array Slot} {rest st0 : List Value} {a : Array Value} {mc ms n' : Nat} {K : Option Value → Nat → Mm → Rm → Prop} (hr : va_Run p l e R0 s m args below meth c H locs cells slots mc ms (F0 m pc ls st0) rest (QcW γ n' K a) (aN γ)) (hS : va_S (aN γ) s.heap H locs)
    (kk : ∀ (r : Option Value) (M' : Mm) (R' : Rm) (H1 : Heap) (locs1 : List Loc), K r n' M' R' → Wd γ n' M' R' s H1 locs1 → W p l e R0 s m args below meth c H1 locs1 (cells + mc) (slots + ms) Q (F0 m (pc + 3) ls ((r.map (pv γ)).toList ++ rest))) : W p l e R0 s m args below meth c H locs cells slots Q (F0 m pc ls st0) := by
  intro T hT X
  obtain ⟨v, st₀, t, T', L, h0, X', hL, e1, e2, ⟨r, M', R', hv, hK, hP, hz, hk⟩, st⟩ := hr T hT X
  cases hv
  rw [h0] at hz hk
  obtain ⟨t2, a1, b1⟩ := kk r M' R' T'.heap (locs ++ L) hK ⟨by rw [e1]; exact hP, Nat.le_trans hS.1 (by rw [e1]; exact hz), fun q h1 h2 => by rw [e1, hk q (Nat.lt_of_lt_of_le h1 hS.1) h2]; exact hS.2.1 q h1 h2, fun q hq => by
      rcases List.mem_append.mp hq with h | h
      · exact hS.2.2 q h
      · exact hL q h⟩ T' rfl X'
  exact ⟨t2, st t2 a1, b1⟩
theorem pcW_blind {As : List Value} {n : Nat} {M : Mm} {R : Rm} : FrameBlind (PcW γ As n M R) := fun _ _ _ _ h => ⟨h.1, h.2.1.calling, h.2.2.1, h.2.2.2.1, h.2.2.2.2⟩
theorem pcW_at {As : List Value} {n : Nat} {M : Mm} {R : Rm} (hK : KK γ s) (h8 : 8 ≤ n) (hsz : H.size = gN γ + (n - 8)) (hW : Wd γ n M R s H locs) : ∀ U : State, U.heap = H → s.WarmedH U.vm → PcW γ As n M R (As.map (pv γ)).toArray U := by
  intro U hU hw
  obtain ⟨hP, hS⟩ := hW
  exact ⟨rfl, hK.moved hw (by rw [hU]; exact hS.1) (fun a h1 h2 => by rw [hU]; exact hS.2.1 a h1 h2), h8, by rw [hU]; exact hsz, by rw [hU]; exact hP⟩
theorem W_sz {g : JFrame} (h : H.size ≤ s.heap.size + cells → W p l e R0 s m args below meth c H locs cells slots Q g) : W p l e R0 s m args below meth c H locs cells slots Q g := fun T hT X => h (by rw [← hT]; exact X.heapSize) T hT X
theorem wd_size {n nE : Nat} {M : Mm} {R : Rm} (hW : Wd γ n M R s H locs) (h8 : 8 ≤ nE) (hs : s.heap.size = gN γ + (nE - 8)) (h1 : nE ≤ n) (hu : H.size ≤ s.heap.size + (n - nE)) : H.size = gN γ + (n - 8) := by
  rcases Nat.lt_or_ge nE n with h | h
  · have h2 := (hW.1 _ _ (wl_get (γ := γ) (n := n) (k := n - 1) (by omega) (by omega))).lt
    rw [show ((ph γ (n - 1), ce γ M R (n - 1)) : Nat × va_E).1 = ph γ (n - 1) from rfl, ph_new γ (by omega)] at h2
    omega
  · have h2 := hW.2.1
    omega
end CALLS
end
section
/-! A ROW AN INSTRUCTION -/
section ROWS
variable {γ : Gm} {l : Launch} {y : Mt} {d nE nX pc n : Nat} {L : List (Option Value)} {S : List Value} {M : Mm} {R : Rm} {K : Option Value → Nat → Mm → Rm → Prop}
theorem wp_iconst {i : Int} {v : Int32} (hd : decode y.2.1 pc = .ok (.iconst i, 1)) (hv : Int32.ofInt i = v) (k : WP γ l y d nE nX (pc + 1) L (.int v :: S) n M R K) : WP γ l y d nE nX pc L (S) n M R K :=
  fun p e R0 s m args below meth c Q H locs ls C hr hW h1 h2 hl => lv_iconst C.1 C.2.1 hd hv (k p e R0 s m args below meth c Q H locs ls C hr hW h1 h2 hl)
theorem wp_bipush {i : Int} {v : Int32} (hd : decode y.2.1 pc = .ok (.bipush i, 2)) (hv : (Int8.ofInt i).toInt32 = v) (k : WP γ l y d nE nX (pc + 2) L (.int v :: S) n M R K) : WP γ l y d nE nX pc L (S) n M R K :=
  fun p e R0 s m args below meth c Q H locs ls C hr hW h1 h2 hl => lv_bipush C.1 C.2.1 hd hv (k p e R0 s m args below meth c Q H locs ls C hr hW h1 h2 hl)
theorem wp_sipush {i : Int} {v : Int32} (hd : decode y.2.1 pc = .ok (.sipush i, 3)) (hv : (Int16.ofInt i).toInt32 = v) (k : WP γ l y d nE nX (pc + 3) L (.int v :: S) n M R K) : WP γ l y d nE nX pc L (S) n M R K :=
  fun p e R0 s m args below meth c Q H locs ls C hr hW h1 h2 hl => lv_sipush C.1 C.2.1 hd hv (k p e R0 s m args below meth c Q H locs ls C hr hW h1 h2 hl)
theorem wp_lconst {i : Fin 2} {v : Int64} (hd : decode y.2.1 pc = .ok (.lconst i, 1)) (hv : Int64.ofNat (i : Nat) = v) (k : WP γ l y d nE nX (pc + 1) L (.long v :: S) n M R K) : WP γ l y d nE nX pc L (S) n M R K :=
  fun p e R0 s m args below meth c Q H locs ls C hr hW h1 h2 hl => lv_lconst C.1 C.2.1 hd hv (k p e R0 s m args below meth c Q H locs ls C hr hW h1 h2 hl)
theorem wp_ldc {i : Nat} {v : Int32} (hd : decode y.2.1 pc = .ok (.ldc i, 2)) (hc : Cond.constant y.1.cls i v ∈ WS) (k : WP γ l y d nE nX (pc + 2) L (.int v :: S) n M R K) : WP γ l y d nE nX pc L (S) n M R K :=
  fun p e R0 s m args below meth c Q H locs ls C hr hW h1 h2 hl => lv_ldc C.1 C.2.1 C.2.2.2.1 (C.2.2.2.2.1 _ hc) hd (k p e R0 s m args below meth c Q H locs ls C hr hW h1 h2 hl)
theorem wp_ldc2 {i : Nat} {v : Int64} (hd : decode y.2.1 pc = .ok (.ldc2_w i, 3)) (hc : Cond.constantLong y.1.cls i v ∈ WS) (k : WP γ l y d nE nX (pc + 3) L (.long v :: S) n M R K) : WP γ l y d nE nX pc L (S) n M R K :=
  fun p e R0 s m args below meth c Q H locs ls C hr hW h1 h2 hl => lv_ldc2 C.1 C.2.1 C.2.2.2.1 (C.2.2.2.2.1 _ hc) hd (k p e R0 s m args below meth c Q H locs ls C hr hW h1 h2 hl)
theorem wp_iload_n {i : Fin 4} {x : Int32} (hd : decode y.2.1 pc = .ok (.iload_n i, 1)) (hx : L[(i : Nat)]? = some (some (.int x))) (k : WP γ l y d nE nX (pc + 1) L (.int x :: S) n M R K) : WP γ l y d nE nX pc L (S) n M R K :=
  fun p e R0 s m args below meth c Q H locs ls C hr hW h1 h2 hl => lv_iload_n C.1 C.2.1 hd rfl (lvh_at hl hx) (k p e R0 s m args below meth c Q H locs ls C hr hW h1 h2 hl)
theorem wp_iload {i : Nat} {x : Int32} (hd : decode y.2.1 pc = .ok (.iload i, 2)) (hx : L[i]? = some (some (.int x))) (k : WP γ l y d nE nX (pc + 2) L (.int x :: S) n M R K) : WP γ l y d nE nX pc L (S) n M R K :=
  fun p e R0 s m args below meth c Q H locs ls C hr hW h1 h2 hl => lv_iload C.1 C.2.1 hd (lvh_at hl hx) (k p e R0 s m args below meth c Q H locs ls C hr hW h1 h2 hl)
theorem wp_aload_n {i : Fin 4} {x : Nat} (hd : decode y.2.1 pc = .ok (.aload_n i, 1)) (hx : L[(i : Nat)]? = some (some (.ref x))) (k : WP γ l y d nE nX (pc + 1) L (.ref x :: S) n M R K) : WP γ l y d nE nX pc L (S) n M R K :=
  fun p e R0 s m args below meth c Q H locs ls C hr hW h1 h2 hl => lv_aload_n C.1 C.2.1 hd rfl (lvh_at hl hx) (k p e R0 s m args below meth c Q H locs ls C hr hW h1 h2 hl)
theorem wp_aload {i : Nat} {x : Nat} (hd : decode y.2.1 pc = .ok (.aload i, 2)) (hx : L[i]? = some (some (.ref x))) (k : WP γ l y d nE nX (pc + 2) L (.ref x :: S) n M R K) : WP γ l y d nE nX pc L (S) n M R K :=
  fun p e R0 s m args below meth c Q H locs ls C hr hW h1 h2 hl => lv_aload C.1 C.2.1 hd (lvh_at hl hx) (k p e R0 s m args below meth c Q H locs ls C hr hW h1 h2 hl)
theorem wp_lload_n {i : Fin 4} {x : Int64} (hd : decode y.2.1 pc = .ok (.lload_n i, 1)) (hx : L[(i : Nat)]? = some (some (.long x))) (k : WP γ l y d nE nX (pc + 1) L (.long x :: S) n M R K) : WP γ l y d nE nX pc L (S) n M R K :=
  fun p e R0 s m args below meth c Q H locs ls C hr hW h1 h2 hl => lv_lload_n C.1 C.2.1 hd rfl (lvh_at hl hx) (k p e R0 s m args below meth c Q H locs ls C hr hW h1 h2 hl)
theorem wp_lload {i : Nat} {x : Int64} (hd : decode y.2.1 pc = .ok (.lload i, 2)) (hx : L[i]? = some (some (.long x))) (k : WP γ l y d nE nX (pc + 2) L (.long x :: S) n M R K) : WP γ l y d nE nX pc L (S) n M R K :=
  fun p e R0 s m args below meth c Q H locs ls C hr hW h1 h2 hl => lv_lload C.1 C.2.1 hd (lvh_at hl hx) (k p e R0 s m args below meth c Q H locs ls C hr hW h1 h2 hl)
theorem wp_istore_n {i : Fin 4} {x : Int32} {L' : List (Option Value)} (hd : decode y.2.1 pc = .ok (.istore_n i, 1)) (hi : (i : Nat) < y.2.2.1) (hL : stA L (i : Nat) (.int x) = L') (k : WP γ l y d nE nX (pc + 1) L' S n M R K) : WP γ l y d nE nX pc L (.int x :: S) n M R K := by
  subst hL
  exact fun p e R0 s m args below meth c Q H locs ls C hr hW h1 h2 hl => lv_istore_n C.1 C.2.1 hd rfl hl hi rfl (fun ls' hl' => k p e R0 s m args below meth c Q H locs ls' C hr hW h1 h2 (lvh_stA hl'))
theorem wp_istore {i : Nat} {x : Int32} {L' : List (Option Value)} (hd : decode y.2.1 pc = .ok (.istore i, 2)) (hi : (i : Nat) < y.2.2.1) (hL : stA L (i : Nat) (.int x) = L') (k : WP γ l y d nE nX (pc + 2) L' S n M R K) : WP γ l y d nE nX pc L (.int x :: S) n M R K := by
  subst hL
  exact fun p e R0 s m args below meth c Q H locs ls C hr hW h1 h2 hl => lv_istore C.1 C.2.1 hd hl hi rfl (fun ls' hl' => k p e R0 s m args below meth c Q H locs ls' C hr hW h1 h2 (lvh_stA hl'))
theorem wp_astore_n {i : Fin 4} {x : Nat} {L' : List (Option Value)} (hd : decode y.2.1 pc = .ok (.astore_n i, 1)) (hi : (i : Nat) < y.2.2.1) (hL : stA L (i : Nat) (.ref x) = L') (k : WP γ l y d nE nX (pc + 1) L' S n M R K) : WP γ l y d nE nX pc L (.ref x :: S) n M R K := by
  subst hL
  exact fun p e R0 s m args below meth c Q H locs ls C hr hW h1 h2 hl => lv_astore_n C.1 C.2.1 hd rfl hl hi rfl (fun ls' hl' => k p e R0 s m args below meth c Q H locs ls' C hr hW h1 h2 (lvh_stA hl'))
theorem wp_astore {i : Nat} {x : Nat} {L' : List (Option Value)} (hd : decode y.2.1 pc = .ok (.astore i, 2)) (hi : (i : Nat) < y.2.2.1) (hL : stA L (i : Nat) (.ref x) = L') (k : WP γ l y d nE nX (pc + 2) L' S n M R K) : WP γ l y d nE nX pc L (.ref x :: S) n M R K := by
  subst hL
  exact fun p e R0 s m args below meth c Q H locs ls C hr hW h1 h2 hl => lv_astore C.1 C.2.1 hd hl hi rfl (fun ls' hl' => k p e R0 s m args below meth c Q H locs ls' C hr hW h1 h2 (lvh_stA hl'))
theorem wp_lstore_n {i : Fin 4} {x : Int64} {L' : List (Option Value)} (hd : decode y.2.1 pc = .ok (.lstore_n i, 1)) (hi : (i : Nat) + 1 < y.2.2.1) (hL : stB L (i : Nat) (.long x) = L') (k : WP γ l y d nE nX (pc + 1) L' S n M R K) : WP γ l y d nE nX pc L (.long x :: S) n M R K := by
  subst hL
  exact fun p e R0 s m args below meth c Q H locs ls C hr hW h1 h2 hl => lv_lstore_n C.1 C.2.1 hd rfl hl hi rfl (fun ls' hl' => k p e R0 s m args below meth c Q H locs ls' C hr hW h1 h2 (lvh_stB hl'))
theorem wp_lstore {i : Nat} {x : Int64} {L' : List (Option Value)} (hd : decode y.2.1 pc = .ok (.lstore i, 2)) (hi : (i : Nat) + 1 < y.2.2.1) (hL : stB L (i : Nat) (.long x) = L') (k : WP γ l y d nE nX (pc + 2) L' S n M R K) : WP γ l y d nE nX pc L (.long x :: S) n M R K := by
  subst hL
  exact fun p e R0 s m args below meth c Q H locs ls C hr hW h1 h2 hl => lv_lstore C.1 C.2.1 hd hl hi rfl (fun ls' hl' => k p e R0 s m args below meth c Q H locs ls' C hr hW h1 h2 (lvh_stB hl'))
theorem asc_at {γ : Gm} {L : List (Option Value)} {i : Nat} {v : Value} (h : L[i]? = some (some v)) : ∃ k : Nat, (asc γ 0 L)[k]? = some (i, pv γ v) := by
  have h1 := asc_mem (γ := γ) (i := 0) h
  rw [Nat.zero_add] at h1
  obtain ⟨k, hk⟩ := List.getElem?_of_mem h1
  exact ⟨k, hk⟩
theorem wp_iinc {i : Nat} {j : Int} {x v : Int32} {L' : List (Option Value)} (hd : decode y.2.1 pc = .ok (.iinc i j, 3)) (hi : i < y.2.2.1) (hx : L[i]? = some (some (.int x))) (hv : x + Int32.ofInt j = v) (hL : stA L i (.int v) = L') (k : WP γ l y d nE nX (pc + 3) L' S n M R K) : WP γ l y d nE nX pc L S n M R K := by
  subst hL
  intro p e R0 s m args below meth c Q H locs ls C hr hW h1 h2 hl
  obtain ⟨q, hq⟩ := asc_at (γ := γ) hx
  exact lv_iinc C.1 C.2.1 hd hl hq hv hi rfl (fun ls' hl' => k p e R0 s m args below meth c Q H locs ls' C hr hW h1 h2 (lvh_stA hl'))
theorem wp_iadd {x z : Int32} (hd : decode y.2.1 pc = .ok (.iadd, 1))  (k : WP γ l y d nE nX (pc + 1) L (.int (x + z) :: S) n M R K) : WP γ l y d nE nX pc L (.int z :: .int x :: S) n M R K :=
  fun p e R0 s m args below meth c Q H locs ls C hr hW h1 h2 hl => lv_iadd C.1 C.2.1 hd (k p e R0 s m args below meth c Q H locs ls C hr hW h1 h2 hl)
theorem wp_isub {x z : Int32} (hd : decode y.2.1 pc = .ok (.isub, 1))  (k : WP γ l y d nE nX (pc + 1) L (.int (x - z) :: S) n M R K) : WP γ l y d nE nX pc L (.int z :: .int x :: S) n M R K :=
  fun p e R0 s m args below meth c Q H locs ls C hr hW h1 h2 hl => lv_isub C.1 C.2.1 hd (k p e R0 s m args below meth c Q H locs ls C hr hW h1 h2 hl)
theorem wp_imul {x z : Int32} (hd : decode y.2.1 pc = .ok (.imul, 1))  (k : WP γ l y d nE nX (pc + 1) L (.int (x * z) :: S) n M R K) : WP γ l y d nE nX pc L (.int z :: .int x :: S) n M R K :=
  fun p e R0 s m args below meth c Q H locs ls C hr hW h1 h2 hl => lv_imul C.1 C.2.1 hd (k p e R0 s m args below meth c Q H locs ls C hr hW h1 h2 hl)
theorem wp_iand {x z : Int32} (hd : decode y.2.1 pc = .ok (.iand, 1))  (k : WP γ l y d nE nX (pc + 1) L (.int (x &&& z) :: S) n M R K) : WP γ l y d nE nX pc L (.int z :: .int x :: S) n M R K :=
  fun p e R0 s m args below meth c Q H locs ls C hr hW h1 h2 hl => lv_iand C.1 C.2.1 hd (k p e R0 s m args below meth c Q H locs ls C hr hW h1 h2 hl)
theorem wp_ixor {x z : Int32} (hd : decode y.2.1 pc = .ok (.ixor, 1))  (k : WP γ l y d nE nX (pc + 1) L (.int (x ^^^ z) :: S) n M R K) : WP γ l y d nE nX pc L (.int z :: .int x :: S) n M R K :=
  fun p e R0 s m args below meth c Q H locs ls C hr hW h1 h2 hl => lv_ixor C.1 C.2.1 hd (k p e R0 s m args below meth c Q H locs ls C hr hW h1 h2 hl)
theorem wp_idiv {x z : Int32} (hd : decode y.2.1 pc = .ok (.idiv, 1)) (hz : ¬ z = 0) (k : WP γ l y d nE nX (pc + 1) L (.int (x / z) :: S) n M R K) : WP γ l y d nE nX pc L (.int z :: .int x :: S) n M R K :=
  fun p e R0 s m args below meth c Q H locs ls C hr hW h1 h2 hl => lv_idiv C.1 C.2.1 hd hz (k p e R0 s m args below meth c Q H locs ls C hr hW h1 h2 hl)
theorem wp_irem {x z : Int32} (hd : decode y.2.1 pc = .ok (.irem, 1)) (hz : ¬ z = 0) (k : WP γ l y d nE nX (pc + 1) L (.int (x - x / z * z) :: S) n M R K) : WP γ l y d nE nX pc L (.int z :: .int x :: S) n M R K :=
  fun p e R0 s m args below meth c Q H locs ls C hr hW h1 h2 hl => lv_irem C.1 C.2.1 hd hz (k p e R0 s m args below meth c Q H locs ls C hr hW h1 h2 hl)
theorem wp_ineg {x : Int32} (hd : decode y.2.1 pc = .ok (.ineg, 1))  (k : WP γ l y d nE nX (pc + 1) L (.int (-x) :: S) n M R K) : WP γ l y d nE nX pc L (.int x :: S) n M R K :=
  fun p e R0 s m args below meth c Q H locs ls C hr hW h1 h2 hl => lv_ineg C.1 C.2.1 hd (k p e R0 s m args below meth c Q H locs ls C hr hW h1 h2 hl)
theorem wp_ladd {x z : Int64} (hd : decode y.2.1 pc = .ok (.ladd, 1))  (k : WP γ l y d nE nX (pc + 1) L (.long (x + z) :: S) n M R K) : WP γ l y d nE nX pc L (.long z :: .long x :: S) n M R K :=
  fun p e R0 s m args below meth c Q H locs ls C hr hW h1 h2 hl => lv_ladd C.1 C.2.1 hd (k p e R0 s m args below meth c Q H locs ls C hr hW h1 h2 hl)
theorem wp_lsub {x z : Int64} (hd : decode y.2.1 pc = .ok (.lsub, 1))  (k : WP γ l y d nE nX (pc + 1) L (.long (x - z) :: S) n M R K) : WP γ l y d nE nX pc L (.long z :: .long x :: S) n M R K :=
  fun p e R0 s m args below meth c Q H locs ls C hr hW h1 h2 hl => lv_lsub C.1 C.2.1 hd (k p e R0 s m args below meth c Q H locs ls C hr hW h1 h2 hl)
theorem wp_land {x z : Int64} (hd : decode y.2.1 pc = .ok (.land, 1))  (k : WP γ l y d nE nX (pc + 1) L (.long (x &&& z) :: S) n M R K) : WP γ l y d nE nX pc L (.long z :: .long x :: S) n M R K :=
  fun p e R0 s m args below meth c Q H locs ls C hr hW h1 h2 hl => lv_land C.1 C.2.1 hd (k p e R0 s m args below meth c Q H locs ls C hr hW h1 h2 hl)
theorem wp_lor {x z : Int64} (hd : decode y.2.1 pc = .ok (.lor, 1))  (k : WP γ l y d nE nX (pc + 1) L (.long (x ||| z) :: S) n M R K) : WP γ l y d nE nX pc L (.long z :: .long x :: S) n M R K :=
  fun p e R0 s m args below meth c Q H locs ls C hr hW h1 h2 hl => lv_lor C.1 C.2.1 hd (k p e R0 s m args below meth c Q H locs ls C hr hW h1 h2 hl)
theorem wp_i2l {x : Int32} (hd : decode y.2.1 pc = .ok (.i2l, 1))  (k : WP γ l y d nE nX (pc + 1) L (.long x.toInt64 :: S) n M R K) : WP γ l y d nE nX pc L (.int x :: S) n M R K :=
  fun p e R0 s m args below meth c Q H locs ls C hr hW h1 h2 hl => lv_i2l C.1 C.2.1 hd rfl (k p e R0 s m args below meth c Q H locs ls C hr hW h1 h2 hl)
theorem wp_l2i {x : Int64} (hd : decode y.2.1 pc = .ok (.l2i, 1))  (k : WP γ l y d nE nX (pc + 1) L (.int x.toInt32 :: S) n M R K) : WP γ l y d nE nX pc L (.long x :: S) n M R K :=
  fun p e R0 s m args below meth c Q H locs ls C hr hW h1 h2 hl => lv_l2i C.1 C.2.1 hd rfl (k p e R0 s m args below meth c Q H locs ls C hr hW h1 h2 hl)
theorem wp_i2c {x : Int32} (hd : decode y.2.1 pc = .ok (.i2c, 1))  (k : WP γ l y d nE nX (pc + 1) L (.int (x.toUInt32 % 65536).toInt32 :: S) n M R K) : WP γ l y d nE nX pc L (.int x :: S) n M R K :=
  fun p e R0 s m args below meth c Q H locs ls C hr hW h1 h2 hl => lv_i2c C.1 C.2.1 hd rfl (k p e R0 s m args below meth c Q H locs ls C hr hW h1 h2 hl)
theorem wp_lushr {x : Int64} {z : Int32} (hd : decode y.2.1 pc = .ok (.lushr, 1))  (k : WP γ l y d nE nX (pc + 1) L (.long (x.toUInt64 >>> (z.toInt64.toUInt64 &&& Int64.toUInt64 63)).toInt64 :: S) n M R K) : WP γ l y d nE nX pc L (.int z :: .long x :: S) n M R K :=
  fun p e R0 s m args below meth c Q H locs ls C hr hW h1 h2 hl => lv_lushr C.1 C.2.1 hd rfl (k p e R0 s m args below meth c Q H locs ls C hr hW h1 h2 hl)
theorem wp_lshl {x : Int64} {z : Int32} (hd : decode y.2.1 pc = .ok (.lshl, 1))  (k : WP γ l y d nE nX (pc + 1) L (.long (x <<< (z.toInt64 &&& 63)) :: S) n M R K) : WP γ l y d nE nX pc L (.int z :: .long x :: S) n M R K :=
  fun p e R0 s m args below meth c Q H locs ls C hr hW h1 h2 hl => lv_lshl C.1 C.2.1 hd rfl (k p e R0 s m args below meth c Q H locs ls C hr hW h1 h2 hl)
theorem wp_lcmp {x z : Int64} (hd : decode y.2.1 pc = .ok (.lcmp, 1))  (k : WP γ l y d nE nX (pc + 1) L (.int (lg_cmp x z) :: S) n M R K) : WP γ l y d nE nX pc L (.long z :: .long x :: S) n M R K :=
  fun p e R0 s m args below meth c Q H locs ls C hr hW h1 h2 hl => W.lcmp C.1 C.2.1 hd (k p e R0 s m args below meth c Q H locs ls C hr hW h1 h2 hl)
theorem wp_dup {v : Value} (hd : decode y.2.1 pc = .ok (.dup, 1)) (hc : v.category = 1) (k : WP γ l y d nE nX (pc + 1) L (v :: v :: S) n M R K) : WP γ l y d nE nX pc L (v :: S) n M R K :=
  fun p e R0 s m args below meth c Q H locs ls C hr hW h1 h2 hl => lv_dup C.1 C.2.1 hd (by rw [pv_cat]; exact hc) (k p e R0 s m args below meth c Q H locs ls C hr hW h1 h2 hl)
theorem wp_pop {v : Value} (hd : decode y.2.1 pc = .ok (.pop, 1)) (hc : v.category = 1) (k : WP γ l y d nE nX (pc + 1) L (S) n M R K) : WP γ l y d nE nX pc L (v :: S) n M R K :=
  fun p e R0 s m args below meth c Q H locs ls C hr hW h1 h2 hl => lv_pop C.1 C.2.1 hd (by rw [pv_cat]; exact hc) (k p e R0 s m args below meth c Q H locs ls C hr hW h1 h2 hl)
theorem wp_dup2 {v w : Value} (hd : decode y.2.1 pc = .ok (.dup2, 1)) (hv : v.category = 1) (hw : w.category = 1) (k : WP γ l y d nE nX (pc + 1) L (v :: w :: v :: w :: S) n M R K) : WP γ l y d nE nX pc L (v :: w :: S) n M R K :=
  fun p e R0 s m args below meth c Q H locs ls C hr hW h1 h2 hl => lv_dup2_11 C.1 C.2.1 hd (by rw [pv_cat]; exact hv) (by rw [pv_cat]; exact hw) (k p e R0 s m args below meth c Q H locs ls C hr hW h1 h2 hl)
theorem wp_if_eq {x : Int32} {off : Int} {tgt : Nat} (hd : decode y.2.1 pc = .ok (.ifCond .eq off, 3)) (ht : (pc : Int) + off = (tgt : Int)) (kt : x = 0 → WP γ l y d nE nX tgt L S n M R K) (kf : ¬ x = 0 → WP γ l y d nE nX (pc + 3) L S n M R K) : WP γ l y d nE nX pc L (.int x :: S) n M R K :=
  fun p e R0 s m args below meth c Q H locs ls C hr hW h1 h2 hl => lv_if_eq C.1 C.2.1 hd ht (fun q => kt q p e R0 s m args below meth c Q H locs ls C hr hW h1 h2 hl) (fun q => kf q p e R0 s m args below meth c Q H locs ls C hr hW h1 h2 hl)
theorem wp_icmp_eq {x z : Int32} {off : Int} {tgt : Nat} (hd : decode y.2.1 pc = .ok (.if_icmp .eq off, 3)) (ht : (pc : Int) + off = (tgt : Int)) (kt : x = z → WP γ l y d nE nX tgt L S n M R K) (kf : ¬ x = z → WP γ l y d nE nX (pc + 3) L S n M R K) : WP γ l y d nE nX pc L (.int z :: .int x :: S) n M R K :=
  fun p e R0 s m args below meth c Q H locs ls C hr hW h1 h2 hl => lv_icmp_eq C.1 C.2.1 hd ht (fun q => kt q p e R0 s m args below meth c Q H locs ls C hr hW h1 h2 hl) (fun q => kf q p e R0 s m args below meth c Q H locs ls C hr hW h1 h2 hl)
theorem wp_if_ne {x : Int32} {off : Int} {tgt : Nat} (hd : decode y.2.1 pc = .ok (.ifCond .ne off, 3)) (ht : (pc : Int) + off = (tgt : Int)) (kt : ¬ x = 0 → WP γ l y d nE nX tgt L S n M R K) (kf : x = 0 → WP γ l y d nE nX (pc + 3) L S n M R K) : WP γ l y d nE nX pc L (.int x :: S) n M R K :=
  fun p e R0 s m args below meth c Q H locs ls C hr hW h1 h2 hl => lv_if_ne C.1 C.2.1 hd ht (fun q => kt q p e R0 s m args below meth c Q H locs ls C hr hW h1 h2 hl) (fun q => kf q p e R0 s m args below meth c Q H locs ls C hr hW h1 h2 hl)
theorem wp_icmp_ne {x z : Int32} {off : Int} {tgt : Nat} (hd : decode y.2.1 pc = .ok (.if_icmp .ne off, 3)) (ht : (pc : Int) + off = (tgt : Int)) (kt : ¬ x = z → WP γ l y d nE nX tgt L S n M R K) (kf : x = z → WP γ l y d nE nX (pc + 3) L S n M R K) : WP γ l y d nE nX pc L (.int z :: .int x :: S) n M R K :=
  fun p e R0 s m args below meth c Q H locs ls C hr hW h1 h2 hl => lv_icmp_ne C.1 C.2.1 hd ht (fun q => kt q p e R0 s m args below meth c Q H locs ls C hr hW h1 h2 hl) (fun q => kf q p e R0 s m args below meth c Q H locs ls C hr hW h1 h2 hl)
theorem wp_if_lt {x : Int32} {off : Int} {tgt : Nat} (hd : decode y.2.1 pc = .ok (.ifCond .lt off, 3)) (ht : (pc : Int) + off = (tgt : Int)) (kt : x < 0 → WP γ l y d nE nX tgt L S n M R K) (kf : ¬ x < 0 → WP γ l y d nE nX (pc + 3) L S n M R K) : WP γ l y d nE nX pc L (.int x :: S) n M R K :=
  fun p e R0 s m args below meth c Q H locs ls C hr hW h1 h2 hl => lv_if_lt C.1 C.2.1 hd ht (fun q => kt q p e R0 s m args below meth c Q H locs ls C hr hW h1 h2 hl) (fun q => kf q p e R0 s m args below meth c Q H locs ls C hr hW h1 h2 hl)
theorem wp_icmp_lt {x z : Int32} {off : Int} {tgt : Nat} (hd : decode y.2.1 pc = .ok (.if_icmp .lt off, 3)) (ht : (pc : Int) + off = (tgt : Int)) (kt : x < z → WP γ l y d nE nX tgt L S n M R K) (kf : ¬ x < z → WP γ l y d nE nX (pc + 3) L S n M R K) : WP γ l y d nE nX pc L (.int z :: .int x :: S) n M R K :=
  fun p e R0 s m args below meth c Q H locs ls C hr hW h1 h2 hl => lv_icmp_lt C.1 C.2.1 hd ht (fun q => kt q p e R0 s m args below meth c Q H locs ls C hr hW h1 h2 hl) (fun q => kf q p e R0 s m args below meth c Q H locs ls C hr hW h1 h2 hl)
theorem wp_if_ge {x : Int32} {off : Int} {tgt : Nat} (hd : decode y.2.1 pc = .ok (.ifCond .ge off, 3)) (ht : (pc : Int) + off = (tgt : Int)) (kt : 0 ≤ x → WP γ l y d nE nX tgt L S n M R K) (kf : ¬ 0 ≤ x → WP γ l y d nE nX (pc + 3) L S n M R K) : WP γ l y d nE nX pc L (.int x :: S) n M R K :=
  fun p e R0 s m args below meth c Q H locs ls C hr hW h1 h2 hl => lv_if_ge C.1 C.2.1 hd ht (fun q => kt q p e R0 s m args below meth c Q H locs ls C hr hW h1 h2 hl) (fun q => kf q p e R0 s m args below meth c Q H locs ls C hr hW h1 h2 hl)
theorem wp_icmp_ge {x z : Int32} {off : Int} {tgt : Nat} (hd : decode y.2.1 pc = .ok (.if_icmp .ge off, 3)) (ht : (pc : Int) + off = (tgt : Int)) (kt : z ≤ x → WP γ l y d nE nX tgt L S n M R K) (kf : ¬ z ≤ x → WP γ l y d nE nX (pc + 3) L S n M R K) : WP γ l y d nE nX pc L (.int z :: .int x :: S) n M R K :=
  fun p e R0 s m args below meth c Q H locs ls C hr hW h1 h2 hl => lv_icmp_ge C.1 C.2.1 hd ht (fun q => kt q p e R0 s m args below meth c Q H locs ls C hr hW h1 h2 hl) (fun q => kf q p e R0 s m args below meth c Q H locs ls C hr hW h1 h2 hl)
theorem wp_if_gt {x : Int32} {off : Int} {tgt : Nat} (hd : decode y.2.1 pc = .ok (.ifCond .gt off, 3)) (ht : (pc : Int) + off = (tgt : Int)) (kt : 0 < x → WP γ l y d nE nX tgt L S n M R K) (kf : ¬ 0 < x → WP γ l y d nE nX (pc + 3) L S n M R K) : WP γ l y d nE nX pc L (.int x :: S) n M R K :=
  fun p e R0 s m args below meth c Q H locs ls C hr hW h1 h2 hl => lv_if_gt C.1 C.2.1 hd ht (fun q => kt q p e R0 s m args below meth c Q H locs ls C hr hW h1 h2 hl) (fun q => kf q p e R0 s m args below meth c Q H locs ls C hr hW h1 h2 hl)
theorem wp_icmp_gt {x z : Int32} {off : Int} {tgt : Nat} (hd : decode y.2.1 pc = .ok (.if_icmp .gt off, 3)) (ht : (pc : Int) + off = (tgt : Int)) (kt : z < x → WP γ l y d nE nX tgt L S n M R K) (kf : ¬ z < x → WP γ l y d nE nX (pc + 3) L S n M R K) : WP γ l y d nE nX pc L (.int z :: .int x :: S) n M R K :=
  fun p e R0 s m args below meth c Q H locs ls C hr hW h1 h2 hl => lv_icmp_gt C.1 C.2.1 hd ht (fun q => kt q p e R0 s m args below meth c Q H locs ls C hr hW h1 h2 hl) (fun q => kf q p e R0 s m args below meth c Q H locs ls C hr hW h1 h2 hl)
theorem wp_if_le {x : Int32} {off : Int} {tgt : Nat} (hd : decode y.2.1 pc = .ok (.ifCond .le off, 3)) (ht : (pc : Int) + off = (tgt : Int)) (kt : x ≤ 0 → WP γ l y d nE nX tgt L S n M R K) (kf : ¬ x ≤ 0 → WP γ l y d nE nX (pc + 3) L S n M R K) : WP γ l y d nE nX pc L (.int x :: S) n M R K :=
  fun p e R0 s m args below meth c Q H locs ls C hr hW h1 h2 hl => lv_if_le C.1 C.2.1 hd ht (fun q => kt q p e R0 s m args below meth c Q H locs ls C hr hW h1 h2 hl) (fun q => kf q p e R0 s m args below meth c Q H locs ls C hr hW h1 h2 hl)
theorem wp_icmp_le {x z : Int32} {off : Int} {tgt : Nat} (hd : decode y.2.1 pc = .ok (.if_icmp .le off, 3)) (ht : (pc : Int) + off = (tgt : Int)) (kt : x ≤ z → WP γ l y d nE nX tgt L S n M R K) (kf : ¬ x ≤ z → WP γ l y d nE nX (pc + 3) L S n M R K) : WP γ l y d nE nX pc L (.int z :: .int x :: S) n M R K :=
  fun p e R0 s m args below meth c Q H locs ls C hr hW h1 h2 hl => lv_icmp_le C.1 C.2.1 hd ht (fun q => kt q p e R0 s m args below meth c Q H locs ls C hr hW h1 h2 hl) (fun q => kf q p e R0 s m args below meth c Q H locs ls C hr hW h1 h2 hl)
theorem wp_goto {off : Int} {tgt : Nat} (hd : decode y.2.1 pc = .ok (.goto off, 3)) (ht : (pc : Int) + off = (tgt : Int)) (k : WP γ l y d nE nX tgt L S n M R K) : WP γ l y d nE nX pc L S n M R K :=
  fun p e R0 s m args below meth c Q H locs ls C hr hW h1 h2 hl => lv_goto C.1 C.2.1 hd ht (k p e R0 s m args below meth c Q H locs ls C hr hW h1 h2 hl)
def swT (x : Int32) (cs : List (Int32 × Nat)) (df : Nat) : Nat := match cs with
  | [] => df
  | (v, t) :: r => if x = v then t else swT x r df
theorem wp_sw {x v : Int32} {t df : Nat} {r : List (Int32 × Nat)} (kt : x = v → WP γ l y d nE nX t L S n M R K) (kf : ¬ x = v → WP γ l y d nE nX (swT x r df) L S n M R K) : WP γ l y d nE nX (swT x ((v, t) :: r) df) L S n M R K := by
  unfold swT
  split
  · rename_i h
    exact kt h
  · rename_i h
    exact kf h
theorem wp_sw0 {x : Int32} {df : Nat} (k : WP γ l y d nE nX df L S n M R K) : WP γ l y d nE nX (swT x [] df) L S n M R K := k
def lsOk (pc : Nat) (dflt : Int) : List (Int × Int) → List (Int32 × Nat) → Nat → Bool
  | [], [], df => decide ((pc : Int) + dflt = (df : Int))
  | (a, o) :: ps, (v, t) :: cs, df => decide (v.toInt = a) && decide ((pc : Int) + o = (t : Int)) && lsOk pc dflt ps cs df
  | _, _, _ => false
theorem lsOk_off {pc : Nat} {dflt : Int} {x : Int32} {df : Nat} : ∀ {ps : List (Int × Int)} {cs : List (Int32 × Nat)}, lsOk pc dflt ps cs df = true → (pc : Int) + Op.lookupswitch.offset ps dflt x.toInt = (swT x cs df : Int)
  | [], [], h => by
    simp only [lsOk, decide_eq_true_eq] at h
    exact h
  | (a, o) :: ps, (v, t) :: cs, h => by
    simp only [lsOk, Bool.and_eq_true, decide_eq_true_eq] at h
    obtain ⟨⟨h1, h2⟩, h3⟩ := h
    unfold swT
    by_cases hx : x = v
    · rw [if_pos hx, Op.lookupswitch.offset_cons, if_pos (by rw [← h1, hx]), h2]
    · rw [if_neg hx, lv_osw hx h1]
      exact lsOk_off h3
  | [], _ :: _, h => by simp [lsOk] at h
  | _ :: _, [], h => by simp [lsOk] at h
theorem wp_lswitch {dflt : Int} {ps : Array (Int × Int)} {len : Nat} {x : Int32} (cs : List (Int32 × Nat)) (df : Nat) (hd : decode y.2.1 pc = .ok (.lookupswitch dflt ps, len)) (hp : (ps.toList.zip (ps.toList.drop 1)).all (fun (a, next) => a.1 < next.1) = true) (hc : lsOk pc dflt ps.toList cs df = true) (k : WP γ l y d nE nX (swT x cs df) L S n M R K) : WP γ l y d nE nX pc L (.int x :: S) n M R K :=
  fun p e R0 s m args below meth c Q H locs ls C hr hW h1 h2 hl => lv_lookup C.1 C.2.1 hd hp rfl (lsOk_off hc) (k p e R0 s m args below meth c Q H locs ls C hr hW h1 h2 hl)
def tsOk (pc : Nat) (a : Int) : List Int → List (Int32 × Nat) → Bool
  | [], [] => true
  | o :: ps, (v, t) :: cs => decide (v.toInt = a) && decide ((pc : Int) + o = (t : Int)) && tsOk pc (a + 1) ps cs
  | _, _ => false
theorem tsOk_out {pc : Nat} {x : Int32} {df : Nat} : ∀ {ps : List Int} {cs : List (Int32 × Nat)} {a : Int}, tsOk pc a ps cs = true → (x.toInt < a ∨ a + ps.length ≤ x.toInt) → swT x cs df = df
  | [], [], a, _, _ => rfl
  | o :: ps, (v, t) :: cs, a, h, hx => by
    simp only [tsOk, Bool.and_eq_true, decide_eq_true_eq] at h
    obtain ⟨⟨h1, h2⟩, h3⟩ := h
    rw [List.length_cons] at hx
    unfold swT
    rw [if_neg (by rintro rfl; omega)]
    exact tsOk_out h3 (by omega)
  | [], _ :: _, _, h, _ => by simp [tsOk] at h
  | _ :: _, [], _, h, _ => by simp [tsOk] at h
theorem tsOk_in {pc : Nat} {x : Int32} {df : Nat} : ∀ {ps : List Int} {cs : List (Int32 × Nat)} {a : Int}, tsOk pc a ps cs = true → a ≤ x.toInt → x.toInt < a + ps.length → ∃ o : Int, ps[(x.toInt - a).toNat]? = some o ∧ (pc : Int) + o = (swT x cs df : Int)
  | [], [], a, _, h1, h2 => by simp at h2; omega
  | o :: ps, (v, t) :: cs, a, h, h1, h2 => by
    simp only [tsOk, Bool.and_eq_true, decide_eq_true_eq] at h
    obtain ⟨⟨g1, g2⟩, g3⟩ := h
    rw [List.length_cons] at h2
    unfold swT
    by_cases hx : x = v
    · subst hx
      rw [if_pos rfl, g1, Int.sub_self]
      exact ⟨o, rfl, g2⟩
    · have hne : x.toInt ≠ a := fun q => hx (Int32.toInt_inj.mp (q.trans g1.symm))
      rw [if_neg hx]
      obtain ⟨o', e1, e2⟩ := tsOk_in (x := x) (df := df) g3 (by omega) (by omega)
      refine ⟨o', ?_, e2⟩
      rw [show (x.toInt - a).toNat = (x.toInt - (a + 1)).toNat + 1 by omega, List.getElem?_cons_succ]
      exact e1
  | [], _ :: _, _, h, _, _ => by simp [tsOk] at h
  | _ :: _, [], _, h, _, _ => by simp [tsOk] at h
theorem wp_tswitch {dflt lo hi : Int} {offs : Array Int} {len : Nat} {x : Int32} (cs : List (Int32 × Nat)) (df : Nat) (hd : decode y.2.1 pc = .ok (.tableswitch dflt lo hi offs, len)) (hdf : (pc : Int) + dflt = (df : Int)) (hh : hi + 1 = lo + offs.toList.length) (hc : tsOk pc lo offs.toList cs = true) (k : WP γ l y d nE nX (swT x cs df) L S n M R K) : WP γ l y d nE nX pc L (.int x :: S) n M R K := by
  intro p e R0 s m args below meth c Q H locs ls C hr hW h1 h2 hl
  by_cases hx : x.toInt < lo ∨ hi < x.toInt
  · have ee := tsOk_out (df := df) (x := x) hc (by omega)
    rw [ee] at k
    exact lv_tableOut C.1 C.2.1 hd hx hdf (k p e R0 s m args below meth c Q H locs ls C hr hW h1 h2 hl)
  · obtain ⟨o, e1, e2⟩ := tsOk_in (df := df) (x := x) hc (by omega) (by omega)
    exact lv_tableIn C.1 C.2.1 hd (fun q => hx (Or.inl q)) (fun q => hx (Or.inr q)) (by rw [← Array.getElem?_toList]; exact e1) e2 (k p e R0 s m args below meth c Q H locs ls C hr hW h1 h2 hl)
theorem wp_iret {x : Int32} {ty : FieldType} (hd : decode y.2.1 pc = .ok (.ireturn, 1)) (hr : y.2.2.2 = some ty) (hx : narrow ty (.int x) = .int x) (hn : n = nX) (hK : K (some (.int x)) n M R) : WP γ l y d nE nX pc L [.int x] n M R K := by
  subst hn
  exact fun p e R0 s m args below meth c Q H locs ls C hret hW h1 h2 hl => hret pc (some (.int x)) M R H locs ls ⟨hd, ty, hr, hx⟩ hW hK
theorem wp_lret {x : Int64} (hd : decode y.2.1 pc = .ok (.lreturn, 1)) (hr : y.2.2.2 = some .long) (hn : n = nX) (hK : K (some (.long x)) n M R) : WP γ l y d nE nX pc L [.long x] n M R K := by
  subst hn
  exact fun p e R0 s m args below meth c Q H locs ls C hret hW h1 h2 hl => hret pc (some (.long x)) M R H locs ls ⟨hd, hr⟩ hW hK
theorem wp_vret (hd : decode y.2.1 pc = .ok (.return_, 1)) (hr : y.2.2.2 = none) (hn : n = nX) (hK : K none n M R) : WP γ l y d nE nX pc L [] n M R K := by
  subst hn
  exact fun p e R0 s m args below meth c Q H locs ls C hret hW h1 h2 hl => hret pc none M R H locs ls ⟨hd, hr⟩ hW hK
end ROWS
end
section
/-! WORDS: each word of the tables that a row asks for, by its place in lw_tbl -/
theorem q0 : (Jvm.Cond.initialized "PaddleRowsLaw") ∈ WS := inWS (List.mem_of_getElem? (i := 46) (by decide +kernel)) (by decide +kernel)
theorem q1 : (Jvm.Cond.initialized "PaddleRows") ∈ WS := inWS (List.mem_of_getElem? (i := 47) (by decide +kernel)) (by decide +kernel)
theorem q2 : (Jvm.Cond.initialized "PaddleRows$Tank") ∈ WS := inWS (List.mem_of_getElem? (i := 48) (by decide +kernel)) (by decide +kernel)
theorem q3 : (Jvm.Cond.initialized "PaddleRows$Paddle") ∈ WS := inWS (List.mem_of_getElem? (i := 49) (by decide +kernel)) (by decide +kernel)
theorem q4 : (Jvm.Cond.initialized "PaddleRows$Gauge") ∈ WS := inWS (List.mem_of_getElem? (i := 50) (by decide +kernel)) (by decide +kernel)
theorem q5 : (Jvm.Cond.initialized "PaddleRows$Pad") ∈ WS := inWS (List.mem_of_getElem? (i := 51) (by decide +kernel)) (by decide +kernel)
theorem q6 : (Jvm.Cond.initialized "PaddleRows$History") ∈ WS := inWS (List.mem_of_getElem? (i := 52) (by decide +kernel)) (by decide +kernel)
theorem q7 : (Jvm.Cond.initialized "PaddleRowsModel") ∈ WS := inWS (List.mem_of_getElem? (i := 53) (by decide +kernel)) (by decide +kernel)
theorem q8 : (Jvm.Cond.initialized "java/lang/System") ∈ WS := inWS (List.mem_of_getElem? (i := 54) (by decide +kernel)) (by decide +kernel)
theorem q9 : (Jvm.Cond.initialized "java/lang/Math") ∈ WS := inWS (List.mem_of_getElem? (i := 55) (by decide +kernel)) (by decide +kernel)
theorem q10 : (Jvm.Cond.initialized "java/lang/Long") ∈ WS := inWS (List.mem_of_getElem? (i := 56) (by decide +kernel)) (by decide +kernel)
theorem q11 : (Jvm.Cond.classLink "PaddleRowsLaw" (7 : Nat) "PaddleRows") ∈ WS := inWS (List.mem_of_getElem? (i := 57) (by decide +kernel)) (by decide +kernel)
theorem q12 : (Jvm.Cond.instantiable "PaddleRows" (7 : Nat)) ∈ WS := inWS (List.mem_of_getElem? (i := 58) (by decide +kernel)) (by decide +kernel)
theorem q13 : (Jvm.Cond.methodLink "PaddleRowsLaw" (9 : Nat) ({ cls := "PaddleRows", name := "<init>", desc := "()V" } : Jvm.MethodName)) ∈ WS := inWS (List.mem_of_getElem? (i := 59) (by decide +kernel)) (by decide +kernel)
theorem q14 : (Jvm.Cond.instanceMethod ({ cls := "PaddleRows", name := "<init>", desc := "()V" } : Jvm.MethodName)) ∈ WS := inWS (List.mem_of_getElem? (i := 60) (by decide +kernel)) (by decide +kernel)
theorem q15 : (Jvm.Cond.code ({ cls := "PaddleRows", name := "<init>", desc := "()V" } : Jvm.MethodName) prog_1_method_1_code (2 : Nat) (Option.none : Option Jvm.ClassFile.FieldType)) ∈ WS := inWS (List.mem_of_getElem? (i := 61) (by decide +kernel)) (by decide +kernel)
theorem q16 : (Jvm.Cond.methodLink "PaddleRows" (1 : Nat) ({ cls := "java/lang/Object", name := "<init>", desc := "()V" } : Jvm.MethodName)) ∈ WS := inWS (List.mem_of_getElem? (i := 62) (by decide +kernel)) (by decide +kernel)
theorem q17 : (Jvm.Cond.instanceMethod ({ cls := "java/lang/Object", name := "<init>", desc := "()V" } : Jvm.MethodName)) ∈ WS := inWS (List.mem_of_getElem? (i := 63) (by decide +kernel)) (by decide +kernel)
theorem q18 : (Jvm.Cond.code ({ cls := "java/lang/Object", name := "<init>", desc := "()V" } : Jvm.MethodName) object_method_1_code (1 : Nat) (Option.none : Option Jvm.ClassFile.FieldType)) ∈ WS := inWS (List.mem_of_getElem? (i := 64) (by decide +kernel)) (by decide +kernel)
theorem q19 : (Jvm.Cond.classLink "PaddleRows" (7 : Nat) "PaddleRows$Tank") ∈ WS := inWS (List.mem_of_getElem? (i := 65) (by decide +kernel)) (by decide +kernel)
theorem q20 : (Jvm.Cond.instantiable "PaddleRows$Tank" (8 : Nat)) ∈ WS := inWS (List.mem_of_getElem? (i := 66) (by decide +kernel)) (by decide +kernel)
theorem q21 : (Jvm.Cond.methodLink "PaddleRows" (9 : Nat) ({ cls := "PaddleRows$Tank", name := "<init>", desc := "()V" } : Jvm.MethodName)) ∈ WS := inWS (List.mem_of_getElem? (i := 67) (by decide +kernel)) (by decide +kernel)
theorem q22 : (Jvm.Cond.instanceMethod ({ cls := "PaddleRows$Tank", name := "<init>", desc := "()V" } : Jvm.MethodName)) ∈ WS := inWS (List.mem_of_getElem? (i := 68) (by decide +kernel)) (by decide +kernel)
theorem q23 : (Jvm.Cond.code ({ cls := "PaddleRows$Tank", name := "<init>", desc := "()V" } : Jvm.MethodName) prog_6_method_1_code (2 : Nat) (Option.none : Option Jvm.ClassFile.FieldType)) ∈ WS := inWS (List.mem_of_getElem? (i := 69) (by decide +kernel)) (by decide +kernel)
theorem q24 : (Jvm.Cond.methodLink "PaddleRows$Tank" (3 : Nat) ({ cls := "java/lang/Object", name := "<init>", desc := "()V" } : Jvm.MethodName)) ∈ WS := inWS (List.mem_of_getElem? (i := 70) (by decide +kernel)) (by decide +kernel)
theorem q27 : (Jvm.Cond.methodLink "PaddleRows$Tank" (13 : Nat) ({ cls := "[I", name := "clone", desc := "()Ljava/lang/Object;" } : Jvm.MethodName)) ∈ WS := inWS (List.mem_of_getElem? (i := 73) (by decide +kernel)) (by decide +kernel)
theorem q28 : (Jvm.Cond.sameMethod "[I" "java/lang/Object" "clone" "()Ljava/lang/Object;") ∈ WS := inWS (List.mem_of_getElem? (i := 74) (by decide +kernel)) (by decide +kernel)
theorem q29 : (Jvm.Cond.native ({ cls := "java/lang/Object", name := "clone", desc := "()Ljava/lang/Object;" } : Jvm.MethodName)) ∈ WS := inWS (List.mem_of_getElem? (i := 75) (by decide +kernel)) (by decide +kernel)
theorem q30 : (Jvm.Cond.instanceMethod ({ cls := "java/lang/Object", name := "clone", desc := "()Ljava/lang/Object;" } : Jvm.MethodName)) ∈ WS := inWS (List.mem_of_getElem? (i := 76) (by decide +kernel)) (by decide +kernel)
theorem q31 : (Jvm.Cond.selects "[I" ({ cls := "[I", name := "clone", desc := "()Ljava/lang/Object;" } : Jvm.MethodName) ({ cls := "java/lang/Object", name := "clone", desc := "()Ljava/lang/Object;" } : Jvm.MethodName)) ∈ WS := inWS (List.mem_of_getElem? (i := 77) (by decide +kernel)) (by decide +kernel)
theorem q33 : (Jvm.Cond.classLink "PaddleRows$Tank" (14 : Nat) "[I") ∈ WS := inWS (List.mem_of_getElem? (i := 79) (by decide +kernel)) (by decide +kernel)
theorem q34 : (Jvm.Cond.classLink "PaddleRows$Tank" (29 : Nat) "PaddleRows$Paddle") ∈ WS := inWS (List.mem_of_getElem? (i := 80) (by decide +kernel)) (by decide +kernel)
theorem q36 : (Jvm.Cond.classLink "PaddleRows$Tank" (35 : Nat) "PaddleRows$Gauge") ∈ WS := inWS (List.mem_of_getElem? (i := 82) (by decide +kernel)) (by decide +kernel)
theorem q38 : (Jvm.Cond.instantiable "PaddleRows$Paddle" (6 : Nat)) ∈ WS := inWS (List.mem_of_getElem? (i := 84) (by decide +kernel)) (by decide +kernel)
theorem q40 : (Jvm.Cond.instanceMethod ({ cls := "PaddleRows$Paddle", name := "<init>", desc := "()V" } : Jvm.MethodName)) ∈ WS := inWS (List.mem_of_getElem? (i := 86) (by decide +kernel)) (by decide +kernel)
theorem q41 : (Jvm.Cond.code ({ cls := "PaddleRows$Paddle", name := "<init>", desc := "()V" } : Jvm.MethodName) prog_5_method_1_code (1 : Nat) (Option.none : Option Jvm.ClassFile.FieldType)) ∈ WS := inWS (List.mem_of_getElem? (i := 87) (by decide +kernel)) (by decide +kernel)
theorem q42 : (Jvm.Cond.methodLink "PaddleRows$Paddle" (3 : Nat) ({ cls := "java/lang/Object", name := "<init>", desc := "()V" } : Jvm.MethodName)) ∈ WS := inWS (List.mem_of_getElem? (i := 88) (by decide +kernel)) (by decide +kernel)
theorem q43 : (Jvm.Cond.fieldLink "PaddleRows$Paddle" (15 : Nat) "PaddleRows$Paddle" "cell" "I") ∈ WS := inWS (List.mem_of_getElem? (i := 89) (by decide +kernel)) (by decide +kernel)
theorem q44 : (Jvm.Cond.fieldLink "PaddleRows$Tank" (87 : Nat) "PaddleRows$Paddle" "cell" "I") ∈ WS := inWS (List.mem_of_getElem? (i := 90) (by decide +kernel)) (by decide +kernel)
theorem q45 : (Jvm.Cond.fieldLink "PaddleRows" (108 : Nat) "PaddleRows$Paddle" "cell" "I") ∈ WS := inWS (List.mem_of_getElem? (i := 91) (by decide +kernel)) (by decide +kernel)
theorem q46 : (Jvm.Cond.fieldLink "PaddleRows$Paddle" (18 : Nat) "PaddleRows$Paddle" "sort" "I") ∈ WS := inWS (List.mem_of_getElem? (i := 92) (by decide +kernel)) (by decide +kernel)
theorem q47 : (Jvm.Cond.fieldLink "PaddleRows$Tank" (90 : Nat) "PaddleRows$Paddle" "sort" "I") ∈ WS := inWS (List.mem_of_getElem? (i := 93) (by decide +kernel)) (by decide +kernel)
theorem q48 : (Jvm.Cond.fieldLink "PaddleRows" (113 : Nat) "PaddleRows$Paddle" "sort" "I") ∈ WS := inWS (List.mem_of_getElem? (i := 94) (by decide +kernel)) (by decide +kernel)
theorem q49 : (Jvm.Cond.fieldLink "PaddleRows$Paddle" (21 : Nat) "PaddleRows$Paddle" "height" "I") ∈ WS := inWS (List.mem_of_getElem? (i := 95) (by decide +kernel)) (by decide +kernel)
theorem q50 : (Jvm.Cond.fieldLink "PaddleRows$Tank" (93 : Nat) "PaddleRows$Paddle" "height" "I") ∈ WS := inWS (List.mem_of_getElem? (i := 96) (by decide +kernel)) (by decide +kernel)
theorem q51 : (Jvm.Cond.fieldLink "PaddleRows" (116 : Nat) "PaddleRows$Paddle" "height" "I") ∈ WS := inWS (List.mem_of_getElem? (i := 97) (by decide +kernel)) (by decide +kernel)
theorem q52 : (Jvm.Cond.fieldLink "PaddleRows$Paddle" (9 : Nat) "PaddleRows$Paddle" "period" "I") ∈ WS := inWS (List.mem_of_getElem? (i := 98) (by decide +kernel)) (by decide +kernel)
theorem q53 : (Jvm.Cond.fieldLink "PaddleRows$Tank" (96 : Nat) "PaddleRows$Paddle" "period" "I") ∈ WS := inWS (List.mem_of_getElem? (i := 99) (by decide +kernel)) (by decide +kernel)
theorem q54 : (Jvm.Cond.fieldLink "PaddleRows" (119 : Nat) "PaddleRows$Paddle" "period" "I") ∈ WS := inWS (List.mem_of_getElem? (i := 100) (by decide +kernel)) (by decide +kernel)
theorem q55 : (Jvm.Cond.fieldLink "PaddleRows$Paddle" (24 : Nat) "PaddleRows$Paddle" "phase" "I") ∈ WS := inWS (List.mem_of_getElem? (i := 101) (by decide +kernel)) (by decide +kernel)
theorem q56 : (Jvm.Cond.fieldLink "PaddleRows$Tank" (99 : Nat) "PaddleRows$Paddle" "phase" "I") ∈ WS := inWS (List.mem_of_getElem? (i := 102) (by decide +kernel)) (by decide +kernel)
theorem q57 : (Jvm.Cond.fieldLink "PaddleRows" (122 : Nat) "PaddleRows$Paddle" "phase" "I") ∈ WS := inWS (List.mem_of_getElem? (i := 103) (by decide +kernel)) (by decide +kernel)
theorem q58 : (Jvm.Cond.fieldLink "PaddleRows$Paddle" (27 : Nat) "PaddleRows$Paddle" "goes" "Z") ∈ WS := inWS (List.mem_of_getElem? (i := 104) (by decide +kernel)) (by decide +kernel)
theorem q59 : (Jvm.Cond.fieldLink "PaddleRows$Tank" (102 : Nat) "PaddleRows$Paddle" "goes" "Z") ∈ WS := inWS (List.mem_of_getElem? (i := 105) (by decide +kernel)) (by decide +kernel)
theorem q60 : (Jvm.Cond.fieldLink "PaddleRows" (125 : Nat) "PaddleRows$Paddle" "goes" "Z") ∈ WS := inWS (List.mem_of_getElem? (i := 106) (by decide +kernel)) (by decide +kernel)
theorem q61 : (Jvm.Cond.lays "PaddleRows$Paddle" "PaddleRows$Paddle" "cell" "I") ∈ WS := inWS (List.mem_of_getElem? (i := 107) (by decide +kernel)) (by decide +kernel)
theorem q63 : (Jvm.Cond.lays "PaddleRows$Paddle" "PaddleRows$Paddle" "sort" "I") ∈ WS := inWS (List.mem_of_getElem? (i := 109) (by decide +kernel)) (by decide +kernel)
theorem q65 : (Jvm.Cond.lays "PaddleRows$Paddle" "PaddleRows$Paddle" "height" "I") ∈ WS := inWS (List.mem_of_getElem? (i := 111) (by decide +kernel)) (by decide +kernel)
theorem q67 : (Jvm.Cond.lays "PaddleRows$Paddle" "PaddleRows$Paddle" "period" "I") ∈ WS := inWS (List.mem_of_getElem? (i := 113) (by decide +kernel)) (by decide +kernel)
theorem q69 : (Jvm.Cond.lays "PaddleRows$Paddle" "PaddleRows$Paddle" "phase" "I") ∈ WS := inWS (List.mem_of_getElem? (i := 115) (by decide +kernel)) (by decide +kernel)
theorem q71 : (Jvm.Cond.lays "PaddleRows$Paddle" "PaddleRows$Paddle" "goes" "Z") ∈ WS := inWS (List.mem_of_getElem? (i := 117) (by decide +kernel)) (by decide +kernel)
theorem q74 : (Jvm.Cond.arrayClass Jvm.ClassFile.FieldType.int) ∈ WS := inWS (List.mem_of_getElem? (i := 120) (by decide +kernel)) (by decide +kernel)
theorem q75 : (Jvm.Cond.instantiable "PaddleRows$Gauge" (4 : Nat)) ∈ WS := inWS (List.mem_of_getElem? (i := 121) (by decide +kernel)) (by decide +kernel)
theorem q77 : (Jvm.Cond.instanceMethod ({ cls := "PaddleRows$Gauge", name := "<init>", desc := "()V" } : Jvm.MethodName)) ∈ WS := inWS (List.mem_of_getElem? (i := 123) (by decide +kernel)) (by decide +kernel)
theorem q78 : (Jvm.Cond.code ({ cls := "PaddleRows$Gauge", name := "<init>", desc := "()V" } : Jvm.MethodName) prog_2_method_1_code (1 : Nat) (Option.none : Option Jvm.ClassFile.FieldType)) ∈ WS := inWS (List.mem_of_getElem? (i := 124) (by decide +kernel)) (by decide +kernel)
theorem q79 : (Jvm.Cond.methodLink "PaddleRows$Gauge" (3 : Nat) ({ cls := "java/lang/Object", name := "<init>", desc := "()V" } : Jvm.MethodName)) ∈ WS := inWS (List.mem_of_getElem? (i := 125) (by decide +kernel)) (by decide +kernel)
theorem q80 : (Jvm.Cond.fieldLink "PaddleRows$Gauge" (9 : Nat) "PaddleRows$Gauge" "notes" "[I") ∈ WS := inWS (List.mem_of_getElem? (i := 126) (by decide +kernel)) (by decide +kernel)
theorem q81 : (Jvm.Cond.fieldLink "PaddleRows$Gauge" (21 : Nat) "PaddleRows$Gauge" "cell" "I") ∈ WS := inWS (List.mem_of_getElem? (i := 127) (by decide +kernel)) (by decide +kernel)
theorem q82 : (Jvm.Cond.fieldLink "PaddleRows$Tank" (128 : Nat) "PaddleRows$Gauge" "cell" "I") ∈ WS := inWS (List.mem_of_getElem? (i := 128) (by decide +kernel)) (by decide +kernel)
theorem q83 : (Jvm.Cond.fieldLink "PaddleRows" (142 : Nat) "PaddleRows$Gauge" "cell" "I") ∈ WS := inWS (List.mem_of_getElem? (i := 129) (by decide +kernel)) (by decide +kernel)
theorem q84 : (Jvm.Cond.fieldLink "PaddleRows$Gauge" (25 : Nat) "PaddleRows$Gauge" "known" "I") ∈ WS := inWS (List.mem_of_getElem? (i := 130) (by decide +kernel)) (by decide +kernel)
theorem q85 : (Jvm.Cond.fieldLink "PaddleRows" (145 : Nat) "PaddleRows$Gauge" "known" "I") ∈ WS := inWS (List.mem_of_getElem? (i := 131) (by decide +kernel)) (by decide +kernel)
theorem q86 : (Jvm.Cond.fieldLink "PaddleRows$Gauge" (28 : Nat) "PaddleRows$Gauge" "next" "I") ∈ WS := inWS (List.mem_of_getElem? (i := 132) (by decide +kernel)) (by decide +kernel)
theorem q87 : (Jvm.Cond.laysFinal "PaddleRows$Gauge" "PaddleRows$Gauge" "notes" "[I") ∈ WS := inWS (List.mem_of_getElem? (i := 133) (by decide +kernel)) (by decide +kernel)
theorem q89 : (Jvm.Cond.lays "PaddleRows$Gauge" "PaddleRows$Gauge" "cell" "I") ∈ WS := inWS (List.mem_of_getElem? (i := 135) (by decide +kernel)) (by decide +kernel)
theorem q91 : (Jvm.Cond.lays "PaddleRows$Gauge" "PaddleRows$Gauge" "known" "I") ∈ WS := inWS (List.mem_of_getElem? (i := 137) (by decide +kernel)) (by decide +kernel)
theorem q93 : (Jvm.Cond.lays "PaddleRows$Gauge" "PaddleRows$Gauge" "next" "I") ∈ WS := inWS (List.mem_of_getElem? (i := 139) (by decide +kernel)) (by decide +kernel)
theorem q96 : (Jvm.Cond.fieldLink "PaddleRows$Tank" (18 : Nat) "PaddleRows$Tank" "settings" "[I") ∈ WS := inWS (List.mem_of_getElem? (i := 142) (by decide +kernel)) (by decide +kernel)
theorem q97 : (Jvm.Cond.fieldLink "PaddleRows" (186 : Nat) "PaddleRows$Tank" "settings" "[I") ∈ WS := inWS (List.mem_of_getElem? (i := 143) (by decide +kernel)) (by decide +kernel)
theorem q98 : (Jvm.Cond.fieldLink "PaddleRows$Tank" (23 : Nat) "PaddleRows$Tank" "levels" "[I") ∈ WS := inWS (List.mem_of_getElem? (i := 144) (by decide +kernel)) (by decide +kernel)
theorem q99 : (Jvm.Cond.fieldLink "PaddleRows" (82 : Nat) "PaddleRows$Tank" "levels" "[I") ∈ WS := inWS (List.mem_of_getElem? (i := 145) (by decide +kernel)) (by decide +kernel)
theorem q100 : (Jvm.Cond.fieldLink "PaddleRows$Tank" (26 : Nat) "PaddleRows$Tank" "speeds" "[I") ∈ WS := inWS (List.mem_of_getElem? (i := 146) (by decide +kernel)) (by decide +kernel)
theorem q101 : (Jvm.Cond.fieldLink "PaddleRows" (86 : Nat) "PaddleRows$Tank" "speeds" "[I") ∈ WS := inWS (List.mem_of_getElem? (i := 147) (by decide +kernel)) (by decide +kernel)
theorem q102 : (Jvm.Cond.fieldLink "PaddleRows$Tank" (31 : Nat) "PaddleRows$Tank" "paddles" "[LPaddleRows$Paddle;") ∈ WS := inWS (List.mem_of_getElem? (i := 148) (by decide +kernel)) (by decide +kernel)
theorem q103 : (Jvm.Cond.fieldLink "PaddleRows" (104 : Nat) "PaddleRows$Tank" "paddles" "[LPaddleRows$Paddle;") ∈ WS := inWS (List.mem_of_getElem? (i := 149) (by decide +kernel)) (by decide +kernel)
theorem q104 : (Jvm.Cond.fieldLink "PaddleRows$Tank" (37 : Nat) "PaddleRows$Tank" "gauges" "[LPaddleRows$Gauge;") ∈ WS := inWS (List.mem_of_getElem? (i := 150) (by decide +kernel)) (by decide +kernel)
theorem q105 : (Jvm.Cond.fieldLink "PaddleRows" (138 : Nat) "PaddleRows$Tank" "gauges" "[LPaddleRows$Gauge;") ∈ WS := inWS (List.mem_of_getElem? (i := 151) (by decide +kernel)) (by decide +kernel)
theorem q106 : (Jvm.Cond.fieldLink "PaddleRows$Tank" (49 : Nat) "PaddleRows$Tank" "paddleCount" "I") ∈ WS := inWS (List.mem_of_getElem? (i := 152) (by decide +kernel)) (by decide +kernel)
theorem q107 : (Jvm.Cond.fieldLink "PaddleRows" (100 : Nat) "PaddleRows$Tank" "paddleCount" "I") ∈ WS := inWS (List.mem_of_getElem? (i := 153) (by decide +kernel)) (by decide +kernel)
theorem q108 : (Jvm.Cond.fieldLink "PaddleRows$Tank" (57 : Nat) "PaddleRows$Tank" "gaugeCount" "I") ∈ WS := inWS (List.mem_of_getElem? (i := 154) (by decide +kernel)) (by decide +kernel)
theorem q109 : (Jvm.Cond.fieldLink "PaddleRows" (135 : Nat) "PaddleRows$Tank" "gaugeCount" "I") ∈ WS := inWS (List.mem_of_getElem? (i := 155) (by decide +kernel)) (by decide +kernel)
theorem q110 : (Jvm.Cond.fieldLink "PaddleRows$Tank" (63 : Nat) "PaddleRows$Tank" "steps" "I") ∈ WS := inWS (List.mem_of_getElem? (i := 156) (by decide +kernel)) (by decide +kernel)
theorem q111 : (Jvm.Cond.fieldLink "PaddleRows" (129 : Nat) "PaddleRows$Tank" "steps" "I") ∈ WS := inWS (List.mem_of_getElem? (i := 157) (by decide +kernel)) (by decide +kernel)
theorem q112 : (Jvm.Cond.laysFinal "PaddleRows$Tank" "PaddleRows$Tank" "settings" "[I") ∈ WS := inWS (List.mem_of_getElem? (i := 158) (by decide +kernel)) (by decide +kernel)
theorem q114 : (Jvm.Cond.laysFinal "PaddleRows$Tank" "PaddleRows$Tank" "levels" "[I") ∈ WS := inWS (List.mem_of_getElem? (i := 160) (by decide +kernel)) (by decide +kernel)
theorem q116 : (Jvm.Cond.laysFinal "PaddleRows$Tank" "PaddleRows$Tank" "speeds" "[I") ∈ WS := inWS (List.mem_of_getElem? (i := 162) (by decide +kernel)) (by decide +kernel)
theorem q118 : (Jvm.Cond.laysFinal "PaddleRows$Tank" "PaddleRows$Tank" "paddles" "[LPaddleRows$Paddle;") ∈ WS := inWS (List.mem_of_getElem? (i := 164) (by decide +kernel)) (by decide +kernel)
theorem q120 : (Jvm.Cond.laysFinal "PaddleRows$Tank" "PaddleRows$Tank" "gauges" "[LPaddleRows$Gauge;") ∈ WS := inWS (List.mem_of_getElem? (i := 166) (by decide +kernel)) (by decide +kernel)
theorem q122 : (Jvm.Cond.lays "PaddleRows$Tank" "PaddleRows$Tank" "paddleCount" "I") ∈ WS := inWS (List.mem_of_getElem? (i := 168) (by decide +kernel)) (by decide +kernel)
theorem q124 : (Jvm.Cond.lays "PaddleRows$Tank" "PaddleRows$Tank" "gaugeCount" "I") ∈ WS := inWS (List.mem_of_getElem? (i := 170) (by decide +kernel)) (by decide +kernel)
theorem q126 : (Jvm.Cond.lays "PaddleRows$Tank" "PaddleRows$Tank" "steps" "I") ∈ WS := inWS (List.mem_of_getElem? (i := 172) (by decide +kernel)) (by decide +kernel)
theorem q129 : (Jvm.Cond.classLink "PaddleRows" (16 : Nat) "PaddleRows$Pad") ∈ WS := inWS (List.mem_of_getElem? (i := 175) (by decide +kernel)) (by decide +kernel)
theorem q130 : (Jvm.Cond.instantiable "PaddleRows$Pad" (9 : Nat)) ∈ WS := inWS (List.mem_of_getElem? (i := 176) (by decide +kernel)) (by decide +kernel)
theorem q132 : (Jvm.Cond.instanceMethod ({ cls := "PaddleRows$Pad", name := "<init>", desc := "()V" } : Jvm.MethodName)) ∈ WS := inWS (List.mem_of_getElem? (i := 178) (by decide +kernel)) (by decide +kernel)
theorem q133 : (Jvm.Cond.code ({ cls := "PaddleRows$Pad", name := "<init>", desc := "()V" } : Jvm.MethodName) prog_4_method_1_code (1 : Nat) (Option.none : Option Jvm.ClassFile.FieldType)) ∈ WS := inWS (List.mem_of_getElem? (i := 179) (by decide +kernel)) (by decide +kernel)
theorem q134 : (Jvm.Cond.methodLink "PaddleRows$Pad" (3 : Nat) ({ cls := "java/lang/Object", name := "<init>", desc := "()V" } : Jvm.MethodName)) ∈ WS := inWS (List.mem_of_getElem? (i := 180) (by decide +kernel)) (by decide +kernel)
theorem q135 : (Jvm.Cond.fieldLink "PaddleRows$Pad" (9 : Nat) "PaddleRows$Pad" "signs" "[C") ∈ WS := inWS (List.mem_of_getElem? (i := 181) (by decide +kernel)) (by decide +kernel)
theorem q136 : (Jvm.Cond.fieldLink "PaddleRows$Pad" (19 : Nat) "PaddleRows$Pad" "length" "I") ∈ WS := inWS (List.mem_of_getElem? (i := 182) (by decide +kernel)) (by decide +kernel)
theorem q137 : (Jvm.Cond.fieldLink "PaddleRows" (189 : Nat) "PaddleRows$Pad" "length" "I") ∈ WS := inWS (List.mem_of_getElem? (i := 183) (by decide +kernel)) (by decide +kernel)
theorem q138 : (Jvm.Cond.fieldLink "PaddleRows$Pad" (25 : Nat) "PaddleRows$Pad" "at" "I") ∈ WS := inWS (List.mem_of_getElem? (i := 184) (by decide +kernel)) (by decide +kernel)
theorem q139 : (Jvm.Cond.fieldLink "PaddleRows" (223 : Nat) "PaddleRows$Pad" "at" "I") ∈ WS := inWS (List.mem_of_getElem? (i := 185) (by decide +kernel)) (by decide +kernel)
theorem q140 : (Jvm.Cond.fieldLink "PaddleRows$Pad" (40 : Nat) "PaddleRows$Pad" "kind" "I") ∈ WS := inWS (List.mem_of_getElem? (i := 186) (by decide +kernel)) (by decide +kernel)
theorem q141 : (Jvm.Cond.fieldLink "PaddleRows" (236 : Nat) "PaddleRows$Pad" "kind" "I") ∈ WS := inWS (List.mem_of_getElem? (i := 187) (by decide +kernel)) (by decide +kernel)
theorem q142 : (Jvm.Cond.fieldLink "PaddleRows$Pad" (64 : Nat) "PaddleRows$Pad" "target" "I") ∈ WS := inWS (List.mem_of_getElem? (i := 188) (by decide +kernel)) (by decide +kernel)
theorem q143 : (Jvm.Cond.fieldLink "PaddleRows" (239 : Nat) "PaddleRows$Pad" "target" "I") ∈ WS := inWS (List.mem_of_getElem? (i := 189) (by decide +kernel)) (by decide +kernel)
theorem q144 : (Jvm.Cond.fieldLink "PaddleRows$Pad" (67 : Nat) "PaddleRows$Pad" "sort" "I") ∈ WS := inWS (List.mem_of_getElem? (i := 190) (by decide +kernel)) (by decide +kernel)
theorem q145 : (Jvm.Cond.fieldLink "PaddleRows" (242 : Nat) "PaddleRows$Pad" "sort" "I") ∈ WS := inWS (List.mem_of_getElem? (i := 191) (by decide +kernel)) (by decide +kernel)
theorem q146 : (Jvm.Cond.fieldLink "PaddleRows$Pad" (70 : Nat) "PaddleRows$Pad" "value" "I") ∈ WS := inWS (List.mem_of_getElem? (i := 192) (by decide +kernel)) (by decide +kernel)
theorem q147 : (Jvm.Cond.fieldLink "PaddleRows" (243 : Nat) "PaddleRows$Pad" "value" "I") ∈ WS := inWS (List.mem_of_getElem? (i := 193) (by decide +kernel)) (by decide +kernel)
theorem q148 : (Jvm.Cond.fieldLink "PaddleRows$Pad" (58 : Nat) "PaddleRows$Pad" "period" "I") ∈ WS := inWS (List.mem_of_getElem? (i := 194) (by decide +kernel)) (by decide +kernel)
theorem q149 : (Jvm.Cond.fieldLink "PaddleRows" (246 : Nat) "PaddleRows$Pad" "period" "I") ∈ WS := inWS (List.mem_of_getElem? (i := 195) (by decide +kernel)) (by decide +kernel)
theorem q150 : (Jvm.Cond.fieldLink "PaddleRows$Pad" (61 : Nat) "PaddleRows$Pad" "phase" "I") ∈ WS := inWS (List.mem_of_getElem? (i := 196) (by decide +kernel)) (by decide +kernel)
theorem q151 : (Jvm.Cond.fieldLink "PaddleRows" (247 : Nat) "PaddleRows$Pad" "phase" "I") ∈ WS := inWS (List.mem_of_getElem? (i := 197) (by decide +kernel)) (by decide +kernel)
theorem q152 : (Jvm.Cond.laysFinal "PaddleRows$Pad" "PaddleRows$Pad" "signs" "[C") ∈ WS := inWS (List.mem_of_getElem? (i := 198) (by decide +kernel)) (by decide +kernel)
theorem q154 : (Jvm.Cond.lays "PaddleRows$Pad" "PaddleRows$Pad" "length" "I") ∈ WS := inWS (List.mem_of_getElem? (i := 200) (by decide +kernel)) (by decide +kernel)
theorem q156 : (Jvm.Cond.lays "PaddleRows$Pad" "PaddleRows$Pad" "at" "I") ∈ WS := inWS (List.mem_of_getElem? (i := 202) (by decide +kernel)) (by decide +kernel)
theorem q158 : (Jvm.Cond.lays "PaddleRows$Pad" "PaddleRows$Pad" "kind" "I") ∈ WS := inWS (List.mem_of_getElem? (i := 204) (by decide +kernel)) (by decide +kernel)
theorem q160 : (Jvm.Cond.lays "PaddleRows$Pad" "PaddleRows$Pad" "target" "I") ∈ WS := inWS (List.mem_of_getElem? (i := 206) (by decide +kernel)) (by decide +kernel)
theorem q162 : (Jvm.Cond.lays "PaddleRows$Pad" "PaddleRows$Pad" "sort" "I") ∈ WS := inWS (List.mem_of_getElem? (i := 208) (by decide +kernel)) (by decide +kernel)
theorem q164 : (Jvm.Cond.lays "PaddleRows$Pad" "PaddleRows$Pad" "value" "I") ∈ WS := inWS (List.mem_of_getElem? (i := 210) (by decide +kernel)) (by decide +kernel)
theorem q166 : (Jvm.Cond.lays "PaddleRows$Pad" "PaddleRows$Pad" "period" "I") ∈ WS := inWS (List.mem_of_getElem? (i := 212) (by decide +kernel)) (by decide +kernel)
theorem q168 : (Jvm.Cond.lays "PaddleRows$Pad" "PaddleRows$Pad" "phase" "I") ∈ WS := inWS (List.mem_of_getElem? (i := 214) (by decide +kernel)) (by decide +kernel)
theorem q171 : (Jvm.Cond.arrayClass Jvm.ClassFile.FieldType.char) ∈ WS := inWS (List.mem_of_getElem? (i := 217) (by decide +kernel)) (by decide +kernel)
theorem q172 : (Jvm.Cond.classLink "PaddleRows" (23 : Nat) "PaddleRows$History") ∈ WS := inWS (List.mem_of_getElem? (i := 218) (by decide +kernel)) (by decide +kernel)
theorem q173 : (Jvm.Cond.instantiable "PaddleRows$History" (2 : Nat)) ∈ WS := inWS (List.mem_of_getElem? (i := 219) (by decide +kernel)) (by decide +kernel)
theorem q174 : (Jvm.Cond.methodLink "PaddleRows" (25 : Nat) ({ cls := "PaddleRows$History", name := "<init>", desc := "()V" } : Jvm.MethodName)) ∈ WS := inWS (List.mem_of_getElem? (i := 220) (by decide +kernel)) (by decide +kernel)
theorem q175 : (Jvm.Cond.instanceMethod ({ cls := "PaddleRows$History", name := "<init>", desc := "()V" } : Jvm.MethodName)) ∈ WS := inWS (List.mem_of_getElem? (i := 221) (by decide +kernel)) (by decide +kernel)
theorem q176 : (Jvm.Cond.code ({ cls := "PaddleRows$History", name := "<init>", desc := "()V" } : Jvm.MethodName) prog_3_method_1_code (2 : Nat) (Option.none : Option Jvm.ClassFile.FieldType)) ∈ WS := inWS (List.mem_of_getElem? (i := 222) (by decide +kernel)) (by decide +kernel)
theorem q177 : (Jvm.Cond.methodLink "PaddleRows$History" (3 : Nat) ({ cls := "java/lang/Object", name := "<init>", desc := "()V" } : Jvm.MethodName)) ∈ WS := inWS (List.mem_of_getElem? (i := 223) (by decide +kernel)) (by decide +kernel)
theorem q178 : (Jvm.Cond.classLink "PaddleRows$History" (9 : Nat) "PaddleRows$Tank") ∈ WS := inWS (List.mem_of_getElem? (i := 224) (by decide +kernel)) (by decide +kernel)
theorem q180 : (Jvm.Cond.methodLink "PaddleRows$History" (17 : Nat) ({ cls := "PaddleRows$Tank", name := "<init>", desc := "()V" } : Jvm.MethodName)) ∈ WS := inWS (List.mem_of_getElem? (i := 226) (by decide +kernel)) (by decide +kernel)
theorem q181 : (Jvm.Cond.fieldLink "PaddleRows$History" (11 : Nat) "PaddleRows$History" "states" "[LPaddleRows$Tank;") ∈ WS := inWS (List.mem_of_getElem? (i := 227) (by decide +kernel)) (by decide +kernel)
theorem q182 : (Jvm.Cond.fieldLink "PaddleRows$History" (18 : Nat) "PaddleRows$History" "size" "I") ∈ WS := inWS (List.mem_of_getElem? (i := 228) (by decide +kernel)) (by decide +kernel)
theorem q183 : (Jvm.Cond.fieldLink "PaddleRows" (192 : Nat) "PaddleRows$History" "size" "I") ∈ WS := inWS (List.mem_of_getElem? (i := 229) (by decide +kernel)) (by decide +kernel)
theorem q184 : (Jvm.Cond.laysFinal "PaddleRows$History" "PaddleRows$History" "states" "[LPaddleRows$Tank;") ∈ WS := inWS (List.mem_of_getElem? (i := 230) (by decide +kernel)) (by decide +kernel)
theorem q186 : (Jvm.Cond.lays "PaddleRows$History" "PaddleRows$History" "size" "I") ∈ WS := inWS (List.mem_of_getElem? (i := 232) (by decide +kernel)) (by decide +kernel)
theorem q189 : (Jvm.Cond.fieldLink "PaddleRows" (10 : Nat) "PaddleRows" "tank" "LPaddleRows$Tank;") ∈ WS := inWS (List.mem_of_getElem? (i := 235) (by decide +kernel)) (by decide +kernel)
theorem q190 : (Jvm.Cond.fieldLink "PaddleRows" (19 : Nat) "PaddleRows" "pad" "LPaddleRows$Pad;") ∈ WS := inWS (List.mem_of_getElem? (i := 236) (by decide +kernel)) (by decide +kernel)
theorem q191 : (Jvm.Cond.fieldLink "PaddleRows" (26 : Nat) "PaddleRows" "history" "LPaddleRows$History;") ∈ WS := inWS (List.mem_of_getElem? (i := 237) (by decide +kernel)) (by decide +kernel)
theorem q192 : (Jvm.Cond.fieldLink "PaddleRows" (30 : Nat) "PaddleRows" "slots" "[LPaddleRows$Tank;") ∈ WS := inWS (List.mem_of_getElem? (i := 238) (by decide +kernel)) (by decide +kernel)
theorem q193 : (Jvm.Cond.fieldLink "PaddleRows" (34 : Nat) "PaddleRows" "slotFilled" "[Z") ∈ WS := inWS (List.mem_of_getElem? (i := 239) (by decide +kernel)) (by decide +kernel)
theorem q194 : (Jvm.Cond.fieldLink "PaddleRows" (38 : Nat) "PaddleRows" "before" "LPaddleRows$Tank;") ∈ WS := inWS (List.mem_of_getElem? (i := 240) (by decide +kernel)) (by decide +kernel)
theorem q195 : (Jvm.Cond.fieldLink "PaddleRows" (41 : Nat) "PaddleRows" "trial" "LPaddleRows$Tank;") ∈ WS := inWS (List.mem_of_getElem? (i := 241) (by decide +kernel)) (by decide +kernel)
theorem q196 : (Jvm.Cond.laysFinal "PaddleRows" "PaddleRows" "tank" "LPaddleRows$Tank;") ∈ WS := inWS (List.mem_of_getElem? (i := 242) (by decide +kernel)) (by decide +kernel)
theorem q198 : (Jvm.Cond.laysFinal "PaddleRows" "PaddleRows" "pad" "LPaddleRows$Pad;") ∈ WS := inWS (List.mem_of_getElem? (i := 244) (by decide +kernel)) (by decide +kernel)
theorem q200 : (Jvm.Cond.laysFinal "PaddleRows" "PaddleRows" "history" "LPaddleRows$History;") ∈ WS := inWS (List.mem_of_getElem? (i := 246) (by decide +kernel)) (by decide +kernel)
theorem q202 : (Jvm.Cond.laysFinal "PaddleRows" "PaddleRows" "slots" "[LPaddleRows$Tank;") ∈ WS := inWS (List.mem_of_getElem? (i := 248) (by decide +kernel)) (by decide +kernel)
theorem q204 : (Jvm.Cond.laysFinal "PaddleRows" "PaddleRows" "slotFilled" "[Z") ∈ WS := inWS (List.mem_of_getElem? (i := 250) (by decide +kernel)) (by decide +kernel)
theorem q206 : (Jvm.Cond.laysFinal "PaddleRows" "PaddleRows" "before" "LPaddleRows$Tank;") ∈ WS := inWS (List.mem_of_getElem? (i := 252) (by decide +kernel)) (by decide +kernel)
theorem q208 : (Jvm.Cond.laysFinal "PaddleRows" "PaddleRows" "trial" "LPaddleRows$Tank;") ∈ WS := inWS (List.mem_of_getElem? (i := 254) (by decide +kernel)) (by decide +kernel)
theorem q211 : (Jvm.Cond.arrayClass Jvm.ClassFile.FieldType.boolean) ∈ WS := inWS (List.mem_of_getElem? (i := 257) (by decide +kernel)) (by decide +kernel)
theorem q212 : (Jvm.Cond.methodLink "PaddleRowsLaw" (13 : Nat) ({ cls := "PaddleRows", name := "set", desc := "(II)I" } : Jvm.MethodName)) ∈ WS := inWS (List.mem_of_getElem? (i := 258) (by decide +kernel)) (by decide +kernel)
theorem q213 : (Jvm.Cond.instanceMethod ({ cls := "PaddleRows", name := "set", desc := "(II)I" } : Jvm.MethodName)) ∈ WS := inWS (List.mem_of_getElem? (i := 259) (by decide +kernel)) (by decide +kernel)
theorem q214 : (Jvm.Cond.selects "PaddleRows" ({ cls := "PaddleRows", name := "set", desc := "(II)I" } : Jvm.MethodName) ({ cls := "PaddleRows", name := "set", desc := "(II)I" } : Jvm.MethodName)) ∈ WS := inWS (List.mem_of_getElem? (i := 260) (by decide +kernel)) (by decide +kernel)
theorem q215 : (Jvm.Cond.code ({ cls := "PaddleRows", name := "set", desc := "(II)I" } : Jvm.MethodName) prog_1_method_2_code (3 : Nat) (Option.some Jvm.ClassFile.FieldType.int)) ∈ WS := inWS (List.mem_of_getElem? (i := 261) (by decide +kernel)) (by decide +kernel)
theorem q216 : (Jvm.Cond.methodLink "PaddleRows" (44 : Nat) ({ cls := "PaddleRows$Tank", name := "copyFrom", desc := "(LPaddleRows$Tank;)V" } : Jvm.MethodName)) ∈ WS := inWS (List.mem_of_getElem? (i := 262) (by decide +kernel)) (by decide +kernel)
theorem q217 : (Jvm.Cond.instanceMethod ({ cls := "PaddleRows$Tank", name := "copyFrom", desc := "(LPaddleRows$Tank;)V" } : Jvm.MethodName)) ∈ WS := inWS (List.mem_of_getElem? (i := 263) (by decide +kernel)) (by decide +kernel)
theorem q218 : (Jvm.Cond.selects "PaddleRows$Tank" ({ cls := "PaddleRows$Tank", name := "copyFrom", desc := "(LPaddleRows$Tank;)V" } : Jvm.MethodName) ({ cls := "PaddleRows$Tank", name := "copyFrom", desc := "(LPaddleRows$Tank;)V" } : Jvm.MethodName)) ∈ WS := inWS (List.mem_of_getElem? (i := 264) (by decide +kernel)) (by decide +kernel)
theorem q219 : (Jvm.Cond.code ({ cls := "PaddleRows$Tank", name := "copyFrom", desc := "(LPaddleRows$Tank;)V" } : Jvm.MethodName) prog_6_method_2_code (3 : Nat) (Option.none : Option Jvm.ClassFile.FieldType)) ∈ WS := inWS (List.mem_of_getElem? (i := 265) (by decide +kernel)) (by decide +kernel)
theorem q220 : (Jvm.Cond.methodLink "PaddleRows$Tank" (43 : Nat) ({ cls := "java/lang/System", name := "arraycopy", desc := "(Ljava/lang/Object;ILjava/lang/Object;II)V" } : Jvm.MethodName)) ∈ WS := inWS (List.mem_of_getElem? (i := 266) (by decide +kernel)) (by decide +kernel)
theorem q221 : (Jvm.Cond.static ({ cls := "java/lang/System", name := "arraycopy", desc := "(Ljava/lang/Object;ILjava/lang/Object;II)V" } : Jvm.MethodName)) ∈ WS := inWS (List.mem_of_getElem? (i := 267) (by decide +kernel)) (by decide +kernel)
theorem q222 : (Jvm.Cond.native ({ cls := "java/lang/System", name := "arraycopy", desc := "(Ljava/lang/Object;ILjava/lang/Object;II)V" } : Jvm.MethodName)) ∈ WS := inWS (List.mem_of_getElem? (i := 268) (by decide +kernel)) (by decide +kernel)
theorem q223 : (Jvm.Cond.methodLink "PaddleRows$Tank" (53 : Nat) ({ cls := "PaddleRows$Paddle", name := "copyFrom", desc := "(LPaddleRows$Paddle;)V" } : Jvm.MethodName)) ∈ WS := inWS (List.mem_of_getElem? (i := 269) (by decide +kernel)) (by decide +kernel)
theorem q224 : (Jvm.Cond.instanceMethod ({ cls := "PaddleRows$Paddle", name := "copyFrom", desc := "(LPaddleRows$Paddle;)V" } : Jvm.MethodName)) ∈ WS := inWS (List.mem_of_getElem? (i := 270) (by decide +kernel)) (by decide +kernel)
theorem q225 : (Jvm.Cond.selects "PaddleRows$Paddle" ({ cls := "PaddleRows$Paddle", name := "copyFrom", desc := "(LPaddleRows$Paddle;)V" } : Jvm.MethodName) ({ cls := "PaddleRows$Paddle", name := "copyFrom", desc := "(LPaddleRows$Paddle;)V" } : Jvm.MethodName)) ∈ WS := inWS (List.mem_of_getElem? (i := 271) (by decide +kernel)) (by decide +kernel)
theorem q226 : (Jvm.Cond.code ({ cls := "PaddleRows$Paddle", name := "copyFrom", desc := "(LPaddleRows$Paddle;)V" } : Jvm.MethodName) prog_5_method_2_code (2 : Nat) (Option.none : Option Jvm.ClassFile.FieldType)) ∈ WS := inWS (List.mem_of_getElem? (i := 272) (by decide +kernel)) (by decide +kernel)
theorem q227 : (Jvm.Cond.methodLink "PaddleRows$Tank" (60 : Nat) ({ cls := "PaddleRows$Gauge", name := "copyFrom", desc := "(LPaddleRows$Gauge;)V" } : Jvm.MethodName)) ∈ WS := inWS (List.mem_of_getElem? (i := 273) (by decide +kernel)) (by decide +kernel)
theorem q228 : (Jvm.Cond.instanceMethod ({ cls := "PaddleRows$Gauge", name := "copyFrom", desc := "(LPaddleRows$Gauge;)V" } : Jvm.MethodName)) ∈ WS := inWS (List.mem_of_getElem? (i := 274) (by decide +kernel)) (by decide +kernel)
theorem q229 : (Jvm.Cond.selects "PaddleRows$Gauge" ({ cls := "PaddleRows$Gauge", name := "copyFrom", desc := "(LPaddleRows$Gauge;)V" } : Jvm.MethodName) ({ cls := "PaddleRows$Gauge", name := "copyFrom", desc := "(LPaddleRows$Gauge;)V" } : Jvm.MethodName)) ∈ WS := inWS (List.mem_of_getElem? (i := 275) (by decide +kernel)) (by decide +kernel)
theorem q230 : (Jvm.Cond.code ({ cls := "PaddleRows$Gauge", name := "copyFrom", desc := "(LPaddleRows$Gauge;)V" } : Jvm.MethodName) prog_2_method_2_code (2 : Nat) (Option.none : Option Jvm.ClassFile.FieldType)) ∈ WS := inWS (List.mem_of_getElem? (i := 276) (by decide +kernel)) (by decide +kernel)
theorem q231 : (Jvm.Cond.methodLink "PaddleRows$Gauge" (15 : Nat) ({ cls := "java/lang/System", name := "arraycopy", desc := "(Ljava/lang/Object;ILjava/lang/Object;II)V" } : Jvm.MethodName)) ∈ WS := inWS (List.mem_of_getElem? (i := 277) (by decide +kernel)) (by decide +kernel)
theorem q232 : (Jvm.Cond.methodLink "PaddleRows" (48 : Nat) ({ cls := "PaddleRows$Tank", name := "changeSetting", desc := "(II)I" } : Jvm.MethodName)) ∈ WS := inWS (List.mem_of_getElem? (i := 278) (by decide +kernel)) (by decide +kernel)
theorem q233 : (Jvm.Cond.instanceMethod ({ cls := "PaddleRows$Tank", name := "changeSetting", desc := "(II)I" } : Jvm.MethodName)) ∈ WS := inWS (List.mem_of_getElem? (i := 279) (by decide +kernel)) (by decide +kernel)
theorem q234 : (Jvm.Cond.selects "PaddleRows$Tank" ({ cls := "PaddleRows$Tank", name := "changeSetting", desc := "(II)I" } : Jvm.MethodName) ({ cls := "PaddleRows$Tank", name := "changeSetting", desc := "(II)I" } : Jvm.MethodName)) ∈ WS := inWS (List.mem_of_getElem? (i := 280) (by decide +kernel)) (by decide +kernel)
theorem q235 : (Jvm.Cond.code ({ cls := "PaddleRows$Tank", name := "changeSetting", desc := "(II)I" } : Jvm.MethodName) prog_6_method_3_code (4 : Nat) (Option.some Jvm.ClassFile.FieldType.int)) ∈ WS := inWS (List.mem_of_getElem? (i := 281) (by decide +kernel)) (by decide +kernel)
theorem q237 : (Jvm.Cond.static ({ cls := "PaddleRows", name := "isOutside", desc := "(II)Z" } : Jvm.MethodName)) ∈ WS := inWS (List.mem_of_getElem? (i := 283) (by decide +kernel)) (by decide +kernel)
theorem q238 : (Jvm.Cond.code ({ cls := "PaddleRows", name := "isOutside", desc := "(II)Z" } : Jvm.MethodName) prog_1_method_29_code (2 : Nat) (Option.some Jvm.ClassFile.FieldType.boolean)) ∈ WS := inWS (List.mem_of_getElem? (i := 284) (by decide +kernel)) (by decide +kernel)
theorem q243 : (Jvm.Cond.methodLink "PaddleRows" (52 : Nat) ({ cls := "PaddleRows", name := "recorded", desc := "(I)I" } : Jvm.MethodName)) ∈ WS := inWS (List.mem_of_getElem? (i := 289) (by decide +kernel)) (by decide +kernel)
theorem q245 : (Jvm.Cond.instanceMethod ({ cls := "PaddleRows", name := "recorded", desc := "(I)I" } : Jvm.MethodName)) ∈ WS := inWS (List.mem_of_getElem? (i := 291) (by decide +kernel)) (by decide +kernel)
theorem q246 : (Jvm.Cond.code ({ cls := "PaddleRows", name := "recorded", desc := "(I)I" } : Jvm.MethodName) prog_1_method_9_code (2 : Nat) (Option.some Jvm.ClassFile.FieldType.int)) ∈ WS := inWS (List.mem_of_getElem? (i := 292) (by decide +kernel)) (by decide +kernel)
theorem q247 : (Jvm.Cond.methodLink "PaddleRows" (75 : Nat) ({ cls := "PaddleRows$History", name := "push", desc := "(LPaddleRows$Tank;)V" } : Jvm.MethodName)) ∈ WS := inWS (List.mem_of_getElem? (i := 293) (by decide +kernel)) (by decide +kernel)
theorem q248 : (Jvm.Cond.instanceMethod ({ cls := "PaddleRows$History", name := "push", desc := "(LPaddleRows$Tank;)V" } : Jvm.MethodName)) ∈ WS := inWS (List.mem_of_getElem? (i := 294) (by decide +kernel)) (by decide +kernel)
theorem q249 : (Jvm.Cond.selects "PaddleRows$History" ({ cls := "PaddleRows$History", name := "push", desc := "(LPaddleRows$Tank;)V" } : Jvm.MethodName) ({ cls := "PaddleRows$History", name := "push", desc := "(LPaddleRows$Tank;)V" } : Jvm.MethodName)) ∈ WS := inWS (List.mem_of_getElem? (i := 295) (by decide +kernel)) (by decide +kernel)
theorem q250 : (Jvm.Cond.code ({ cls := "PaddleRows$History", name := "push", desc := "(LPaddleRows$Tank;)V" } : Jvm.MethodName) prog_3_method_2_code (2 : Nat) (Option.none : Option Jvm.ClassFile.FieldType)) ∈ WS := inWS (List.mem_of_getElem? (i := 296) (by decide +kernel)) (by decide +kernel)
theorem q251 : (Jvm.Cond.methodLink "PaddleRows$History" (22 : Nat) ({ cls := "PaddleRows$History", name := "dropOldest", desc := "()V" } : Jvm.MethodName)) ∈ WS := inWS (List.mem_of_getElem? (i := 297) (by decide +kernel)) (by decide +kernel)
theorem q252 : (Jvm.Cond.instanceMethod ({ cls := "PaddleRows$History", name := "dropOldest", desc := "()V" } : Jvm.MethodName)) ∈ WS := inWS (List.mem_of_getElem? (i := 298) (by decide +kernel)) (by decide +kernel)
theorem q253 : (Jvm.Cond.selects "PaddleRows$History" ({ cls := "PaddleRows$History", name := "dropOldest", desc := "()V" } : Jvm.MethodName) ({ cls := "PaddleRows$History", name := "dropOldest", desc := "()V" } : Jvm.MethodName)) ∈ WS := inWS (List.mem_of_getElem? (i := 299) (by decide +kernel)) (by decide +kernel)
theorem q254 : (Jvm.Cond.code ({ cls := "PaddleRows$History", name := "dropOldest", desc := "()V" } : Jvm.MethodName) prog_3_method_3_code (3 : Nat) (Option.none : Option Jvm.ClassFile.FieldType)) ∈ WS := inWS (List.mem_of_getElem? (i := 300) (by decide +kernel)) (by decide +kernel)
theorem q255 : (Jvm.Cond.methodLink "PaddleRows$History" (25 : Nat) ({ cls := "PaddleRows$Tank", name := "copyFrom", desc := "(LPaddleRows$Tank;)V" } : Jvm.MethodName)) ∈ WS := inWS (List.mem_of_getElem? (i := 301) (by decide +kernel)) (by decide +kernel)
theorem q256 : (Jvm.Cond.methodLink "PaddleRowsLaw" (18 : Nat) ({ cls := "PaddleRows", name := "paddle", desc := "(IIIII)I" } : Jvm.MethodName)) ∈ WS := inWS (List.mem_of_getElem? (i := 302) (by decide +kernel)) (by decide +kernel)
theorem q257 : (Jvm.Cond.instanceMethod ({ cls := "PaddleRows", name := "paddle", desc := "(IIIII)I" } : Jvm.MethodName)) ∈ WS := inWS (List.mem_of_getElem? (i := 303) (by decide +kernel)) (by decide +kernel)
theorem q258 : (Jvm.Cond.selects "PaddleRows" ({ cls := "PaddleRows", name := "paddle", desc := "(IIIII)I" } : Jvm.MethodName) ({ cls := "PaddleRows", name := "paddle", desc := "(IIIII)I" } : Jvm.MethodName)) ∈ WS := inWS (List.mem_of_getElem? (i := 304) (by decide +kernel)) (by decide +kernel)
theorem q259 : (Jvm.Cond.code ({ cls := "PaddleRows", name := "paddle", desc := "(IIIII)I" } : Jvm.MethodName) prog_1_method_3_code (6 : Nat) (Option.some Jvm.ClassFile.FieldType.int)) ∈ WS := inWS (List.mem_of_getElem? (i := 305) (by decide +kernel)) (by decide +kernel)
theorem q260 : (Jvm.Cond.methodLink "PaddleRows" (56 : Nat) ({ cls := "PaddleRows$Tank", name := "placePaddle", desc := "(IIIII)I" } : Jvm.MethodName)) ∈ WS := inWS (List.mem_of_getElem? (i := 306) (by decide +kernel)) (by decide +kernel)
theorem q261 : (Jvm.Cond.instanceMethod ({ cls := "PaddleRows$Tank", name := "placePaddle", desc := "(IIIII)I" } : Jvm.MethodName)) ∈ WS := inWS (List.mem_of_getElem? (i := 307) (by decide +kernel)) (by decide +kernel)
theorem q262 : (Jvm.Cond.selects "PaddleRows$Tank" ({ cls := "PaddleRows$Tank", name := "placePaddle", desc := "(IIIII)I" } : Jvm.MethodName) ({ cls := "PaddleRows$Tank", name := "placePaddle", desc := "(IIIII)I" } : Jvm.MethodName)) ∈ WS := inWS (List.mem_of_getElem? (i := 308) (by decide +kernel)) (by decide +kernel)
theorem q263 : (Jvm.Cond.code ({ cls := "PaddleRows$Tank", name := "placePaddle", desc := "(IIIII)I" } : Jvm.MethodName) prog_6_method_4_code (8 : Nat) (Option.some Jvm.ClassFile.FieldType.int)) ∈ WS := inWS (List.mem_of_getElem? (i := 309) (by decide +kernel)) (by decide +kernel)
theorem q264 : (Jvm.Cond.methodLink "PaddleRows$Tank" (76 : Nat) ({ cls := "PaddleRows$Paddle", name := "isRecipe", desc := "(IIII)Z" } : Jvm.MethodName)) ∈ WS := inWS (List.mem_of_getElem? (i := 310) (by decide +kernel)) (by decide +kernel)
theorem q265 : (Jvm.Cond.static ({ cls := "PaddleRows$Paddle", name := "isRecipe", desc := "(IIII)Z" } : Jvm.MethodName)) ∈ WS := inWS (List.mem_of_getElem? (i := 311) (by decide +kernel)) (by decide +kernel)
theorem q266 : (Jvm.Cond.code ({ cls := "PaddleRows$Paddle", name := "isRecipe", desc := "(IIII)Z" } : Jvm.MethodName) prog_5_method_3_code (4 : Nat) (Option.some Jvm.ClassFile.FieldType.boolean)) ∈ WS := inWS (List.mem_of_getElem? (i := 312) (by decide +kernel)) (by decide +kernel)
theorem q268 : (Jvm.Cond.methodLink "PaddleRows$Tank" (80 : Nat) ({ cls := "PaddleRows$Tank", name := "rankIn", desc := "(I)I" } : Jvm.MethodName)) ∈ WS := inWS (List.mem_of_getElem? (i := 314) (by decide +kernel)) (by decide +kernel)
theorem q269 : (Jvm.Cond.instanceMethod ({ cls := "PaddleRows$Tank", name := "rankIn", desc := "(I)I" } : Jvm.MethodName)) ∈ WS := inWS (List.mem_of_getElem? (i := 315) (by decide +kernel)) (by decide +kernel)
theorem q270 : (Jvm.Cond.selects "PaddleRows$Tank" ({ cls := "PaddleRows$Tank", name := "rankIn", desc := "(I)I" } : Jvm.MethodName) ({ cls := "PaddleRows$Tank", name := "rankIn", desc := "(I)I" } : Jvm.MethodName)) ∈ WS := inWS (List.mem_of_getElem? (i := 316) (by decide +kernel)) (by decide +kernel)
theorem q271 : (Jvm.Cond.code ({ cls := "PaddleRows$Tank", name := "rankIn", desc := "(I)I" } : Jvm.MethodName) prog_6_method_5_code (3 : Nat) (Option.some Jvm.ClassFile.FieldType.int)) ∈ WS := inWS (List.mem_of_getElem? (i := 317) (by decide +kernel)) (by decide +kernel)
theorem q272 : (Jvm.Cond.methodLink "PaddleRows$Tank" (84 : Nat) ({ cls := "PaddleRows$Tank", name := "openRank", desc := "(I)I" } : Jvm.MethodName)) ∈ WS := inWS (List.mem_of_getElem? (i := 318) (by decide +kernel)) (by decide +kernel)
theorem q273 : (Jvm.Cond.instanceMethod ({ cls := "PaddleRows$Tank", name := "openRank", desc := "(I)I" } : Jvm.MethodName)) ∈ WS := inWS (List.mem_of_getElem? (i := 319) (by decide +kernel)) (by decide +kernel)
theorem q274 : (Jvm.Cond.selects "PaddleRows$Tank" ({ cls := "PaddleRows$Tank", name := "openRank", desc := "(I)I" } : Jvm.MethodName) ({ cls := "PaddleRows$Tank", name := "openRank", desc := "(I)I" } : Jvm.MethodName)) ∈ WS := inWS (List.mem_of_getElem? (i := 320) (by decide +kernel)) (by decide +kernel)
theorem q275 : (Jvm.Cond.code ({ cls := "PaddleRows$Tank", name := "openRank", desc := "(I)I" } : Jvm.MethodName) prog_6_method_6_code (4 : Nat) (Option.some Jvm.ClassFile.FieldType.int)) ∈ WS := inWS (List.mem_of_getElem? (i := 321) (by decide +kernel)) (by decide +kernel)
theorem q276 : (Jvm.Cond.methodLink "PaddleRowsLaw" (23 : Nat) ({ cls := "PaddleRows", name := "lift", desc := "(I)I" } : Jvm.MethodName)) ∈ WS := inWS (List.mem_of_getElem? (i := 322) (by decide +kernel)) (by decide +kernel)
theorem q277 : (Jvm.Cond.instanceMethod ({ cls := "PaddleRows", name := "lift", desc := "(I)I" } : Jvm.MethodName)) ∈ WS := inWS (List.mem_of_getElem? (i := 323) (by decide +kernel)) (by decide +kernel)
theorem q278 : (Jvm.Cond.selects "PaddleRows" ({ cls := "PaddleRows", name := "lift", desc := "(I)I" } : Jvm.MethodName) ({ cls := "PaddleRows", name := "lift", desc := "(I)I" } : Jvm.MethodName)) ∈ WS := inWS (List.mem_of_getElem? (i := 324) (by decide +kernel)) (by decide +kernel)
theorem q279 : (Jvm.Cond.code ({ cls := "PaddleRows", name := "lift", desc := "(I)I" } : Jvm.MethodName) prog_1_method_4_code (2 : Nat) (Option.some Jvm.ClassFile.FieldType.int)) ∈ WS := inWS (List.mem_of_getElem? (i := 325) (by decide +kernel)) (by decide +kernel)
theorem q280 : (Jvm.Cond.methodLink "PaddleRows" (60 : Nat) ({ cls := "PaddleRows$Tank", name := "removePaddle", desc := "(I)I" } : Jvm.MethodName)) ∈ WS := inWS (List.mem_of_getElem? (i := 326) (by decide +kernel)) (by decide +kernel)
theorem q281 : (Jvm.Cond.instanceMethod ({ cls := "PaddleRows$Tank", name := "removePaddle", desc := "(I)I" } : Jvm.MethodName)) ∈ WS := inWS (List.mem_of_getElem? (i := 327) (by decide +kernel)) (by decide +kernel)
theorem q282 : (Jvm.Cond.selects "PaddleRows$Tank" ({ cls := "PaddleRows$Tank", name := "removePaddle", desc := "(I)I" } : Jvm.MethodName) ({ cls := "PaddleRows$Tank", name := "removePaddle", desc := "(I)I" } : Jvm.MethodName)) ∈ WS := inWS (List.mem_of_getElem? (i := 328) (by decide +kernel)) (by decide +kernel)
theorem q283 : (Jvm.Cond.code ({ cls := "PaddleRows$Tank", name := "removePaddle", desc := "(I)I" } : Jvm.MethodName) prog_6_method_7_code (5 : Nat) (Option.some Jvm.ClassFile.FieldType.int)) ∈ WS := inWS (List.mem_of_getElem? (i := 329) (by decide +kernel)) (by decide +kernel)
theorem q284 : (Jvm.Cond.methodLink "PaddleRowsLaw" (28 : Nat) ({ cls := "PaddleRows", name := "again", desc := "(I)I" } : Jvm.MethodName)) ∈ WS := inWS (List.mem_of_getElem? (i := 330) (by decide +kernel)) (by decide +kernel)
theorem q285 : (Jvm.Cond.instanceMethod ({ cls := "PaddleRows", name := "again", desc := "(I)I" } : Jvm.MethodName)) ∈ WS := inWS (List.mem_of_getElem? (i := 331) (by decide +kernel)) (by decide +kernel)
theorem q286 : (Jvm.Cond.selects "PaddleRows" ({ cls := "PaddleRows", name := "again", desc := "(I)I" } : Jvm.MethodName) ({ cls := "PaddleRows", name := "again", desc := "(I)I" } : Jvm.MethodName)) ∈ WS := inWS (List.mem_of_getElem? (i := 332) (by decide +kernel)) (by decide +kernel)
theorem q287 : (Jvm.Cond.code ({ cls := "PaddleRows", name := "again", desc := "(I)I" } : Jvm.MethodName) prog_1_method_5_code (2 : Nat) (Option.some Jvm.ClassFile.FieldType.int)) ∈ WS := inWS (List.mem_of_getElem? (i := 333) (by decide +kernel)) (by decide +kernel)
theorem q288 : (Jvm.Cond.methodLink "PaddleRows" (63 : Nat) ({ cls := "PaddleRows$Tank", name := "startPaddle", desc := "(I)I" } : Jvm.MethodName)) ∈ WS := inWS (List.mem_of_getElem? (i := 334) (by decide +kernel)) (by decide +kernel)
theorem q289 : (Jvm.Cond.instanceMethod ({ cls := "PaddleRows$Tank", name := "startPaddle", desc := "(I)I" } : Jvm.MethodName)) ∈ WS := inWS (List.mem_of_getElem? (i := 335) (by decide +kernel)) (by decide +kernel)
theorem q290 : (Jvm.Cond.selects "PaddleRows$Tank" ({ cls := "PaddleRows$Tank", name := "startPaddle", desc := "(I)I" } : Jvm.MethodName) ({ cls := "PaddleRows$Tank", name := "startPaddle", desc := "(I)I" } : Jvm.MethodName)) ∈ WS := inWS (List.mem_of_getElem? (i := 336) (by decide +kernel)) (by decide +kernel)
theorem q291 : (Jvm.Cond.code ({ cls := "PaddleRows$Tank", name := "startPaddle", desc := "(I)I" } : Jvm.MethodName) prog_6_method_8_code (4 : Nat) (Option.some Jvm.ClassFile.FieldType.int)) ∈ WS := inWS (List.mem_of_getElem? (i := 337) (by decide +kernel)) (by decide +kernel)
theorem q293 : (Jvm.Cond.static ({ cls := "PaddleRows", name := "asNumber", desc := "(Z)I" } : Jvm.MethodName)) ∈ WS := inWS (List.mem_of_getElem? (i := 339) (by decide +kernel)) (by decide +kernel)
theorem q294 : (Jvm.Cond.code ({ cls := "PaddleRows", name := "asNumber", desc := "(Z)I" } : Jvm.MethodName) prog_1_method_30_code (1 : Nat) (Option.some Jvm.ClassFile.FieldType.int)) ∈ WS := inWS (List.mem_of_getElem? (i := 340) (by decide +kernel)) (by decide +kernel)
theorem q295 : (Jvm.Cond.methodLink "PaddleRowsLaw" (32 : Nat) ({ cls := "PaddleRows", name := "gauge", desc := "(I)I" } : Jvm.MethodName)) ∈ WS := inWS (List.mem_of_getElem? (i := 341) (by decide +kernel)) (by decide +kernel)
theorem q296 : (Jvm.Cond.instanceMethod ({ cls := "PaddleRows", name := "gauge", desc := "(I)I" } : Jvm.MethodName)) ∈ WS := inWS (List.mem_of_getElem? (i := 342) (by decide +kernel)) (by decide +kernel)
theorem q297 : (Jvm.Cond.selects "PaddleRows" ({ cls := "PaddleRows", name := "gauge", desc := "(I)I" } : Jvm.MethodName) ({ cls := "PaddleRows", name := "gauge", desc := "(I)I" } : Jvm.MethodName)) ∈ WS := inWS (List.mem_of_getElem? (i := 343) (by decide +kernel)) (by decide +kernel)
theorem q298 : (Jvm.Cond.code ({ cls := "PaddleRows", name := "gauge", desc := "(I)I" } : Jvm.MethodName) prog_1_method_6_code (2 : Nat) (Option.some Jvm.ClassFile.FieldType.int)) ∈ WS := inWS (List.mem_of_getElem? (i := 344) (by decide +kernel)) (by decide +kernel)
theorem q299 : (Jvm.Cond.methodLink "PaddleRows" (66 : Nat) ({ cls := "PaddleRows$Tank", name := "placeGauge", desc := "(I)I" } : Jvm.MethodName)) ∈ WS := inWS (List.mem_of_getElem? (i := 345) (by decide +kernel)) (by decide +kernel)
theorem q300 : (Jvm.Cond.instanceMethod ({ cls := "PaddleRows$Tank", name := "placeGauge", desc := "(I)I" } : Jvm.MethodName)) ∈ WS := inWS (List.mem_of_getElem? (i := 346) (by decide +kernel)) (by decide +kernel)
theorem q301 : (Jvm.Cond.selects "PaddleRows$Tank" ({ cls := "PaddleRows$Tank", name := "placeGauge", desc := "(I)I" } : Jvm.MethodName) ({ cls := "PaddleRows$Tank", name := "placeGauge", desc := "(I)I" } : Jvm.MethodName)) ∈ WS := inWS (List.mem_of_getElem? (i := 347) (by decide +kernel)) (by decide +kernel)
theorem q302 : (Jvm.Cond.code ({ cls := "PaddleRows$Tank", name := "placeGauge", desc := "(I)I" } : Jvm.MethodName) prog_6_method_9_code (2 : Nat) (Option.some Jvm.ClassFile.FieldType.int)) ∈ WS := inWS (List.mem_of_getElem? (i := 348) (by decide +kernel)) (by decide +kernel)
theorem q303 : (Jvm.Cond.methodLink "PaddleRows$Tank" (110 : Nat) ({ cls := "PaddleRows$Gauge", name := "startIn", desc := "(I)V" } : Jvm.MethodName)) ∈ WS := inWS (List.mem_of_getElem? (i := 349) (by decide +kernel)) (by decide +kernel)
theorem q304 : (Jvm.Cond.instanceMethod ({ cls := "PaddleRows$Gauge", name := "startIn", desc := "(I)V" } : Jvm.MethodName)) ∈ WS := inWS (List.mem_of_getElem? (i := 350) (by decide +kernel)) (by decide +kernel)
theorem q305 : (Jvm.Cond.selects "PaddleRows$Gauge" ({ cls := "PaddleRows$Gauge", name := "startIn", desc := "(I)V" } : Jvm.MethodName) ({ cls := "PaddleRows$Gauge", name := "startIn", desc := "(I)V" } : Jvm.MethodName)) ∈ WS := inWS (List.mem_of_getElem? (i := 351) (by decide +kernel)) (by decide +kernel)
theorem q306 : (Jvm.Cond.code ({ cls := "PaddleRows$Gauge", name := "startIn", desc := "(I)V" } : Jvm.MethodName) prog_2_method_3_code (2 : Nat) (Option.none : Option Jvm.ClassFile.FieldType)) ∈ WS := inWS (List.mem_of_getElem? (i := 352) (by decide +kernel)) (by decide +kernel)
theorem q307 : (Jvm.Cond.methodLink "PaddleRowsLaw" (36 : Nat) ({ cls := "PaddleRows", name := "level", desc := "(II)I" } : Jvm.MethodName)) ∈ WS := inWS (List.mem_of_getElem? (i := 353) (by decide +kernel)) (by decide +kernel)
theorem q308 : (Jvm.Cond.instanceMethod ({ cls := "PaddleRows", name := "level", desc := "(II)I" } : Jvm.MethodName)) ∈ WS := inWS (List.mem_of_getElem? (i := 354) (by decide +kernel)) (by decide +kernel)
theorem q309 : (Jvm.Cond.selects "PaddleRows" ({ cls := "PaddleRows", name := "level", desc := "(II)I" } : Jvm.MethodName) ({ cls := "PaddleRows", name := "level", desc := "(II)I" } : Jvm.MethodName)) ∈ WS := inWS (List.mem_of_getElem? (i := 355) (by decide +kernel)) (by decide +kernel)
theorem q310 : (Jvm.Cond.code ({ cls := "PaddleRows", name := "level", desc := "(II)I" } : Jvm.MethodName) prog_1_method_7_code (3 : Nat) (Option.some Jvm.ClassFile.FieldType.int)) ∈ WS := inWS (List.mem_of_getElem? (i := 356) (by decide +kernel)) (by decide +kernel)
theorem q311 : (Jvm.Cond.methodLink "PaddleRows" (69 : Nat) ({ cls := "PaddleRows$Tank", name := "changeLevel", desc := "(II)I" } : Jvm.MethodName)) ∈ WS := inWS (List.mem_of_getElem? (i := 357) (by decide +kernel)) (by decide +kernel)
theorem q312 : (Jvm.Cond.instanceMethod ({ cls := "PaddleRows$Tank", name := "changeLevel", desc := "(II)I" } : Jvm.MethodName)) ∈ WS := inWS (List.mem_of_getElem? (i := 358) (by decide +kernel)) (by decide +kernel)
theorem q313 : (Jvm.Cond.selects "PaddleRows$Tank" ({ cls := "PaddleRows$Tank", name := "changeLevel", desc := "(II)I" } : Jvm.MethodName) ({ cls := "PaddleRows$Tank", name := "changeLevel", desc := "(II)I" } : Jvm.MethodName)) ∈ WS := inWS (List.mem_of_getElem? (i := 359) (by decide +kernel)) (by decide +kernel)
theorem q314 : (Jvm.Cond.code ({ cls := "PaddleRows$Tank", name := "changeLevel", desc := "(II)I" } : Jvm.MethodName) prog_6_method_10_code (4 : Nat) (Option.some Jvm.ClassFile.FieldType.int)) ∈ WS := inWS (List.mem_of_getElem? (i := 360) (by decide +kernel)) (by decide +kernel)
theorem q315 : (Jvm.Cond.methodLink "PaddleRowsLaw" (40 : Nat) ({ cls := "PaddleRows", name := "pass", desc := "(I)I" } : Jvm.MethodName)) ∈ WS := inWS (List.mem_of_getElem? (i := 361) (by decide +kernel)) (by decide +kernel)
theorem q316 : (Jvm.Cond.instanceMethod ({ cls := "PaddleRows", name := "pass", desc := "(I)I" } : Jvm.MethodName)) ∈ WS := inWS (List.mem_of_getElem? (i := 362) (by decide +kernel)) (by decide +kernel)
theorem q317 : (Jvm.Cond.selects "PaddleRows" ({ cls := "PaddleRows", name := "pass", desc := "(I)I" } : Jvm.MethodName) ({ cls := "PaddleRows", name := "pass", desc := "(I)I" } : Jvm.MethodName)) ∈ WS := inWS (List.mem_of_getElem? (i := 363) (by decide +kernel)) (by decide +kernel)
theorem q318 : (Jvm.Cond.code ({ cls := "PaddleRows", name := "pass", desc := "(I)I" } : Jvm.MethodName) prog_1_method_8_code (2 : Nat) (Option.some Jvm.ClassFile.FieldType.int)) ∈ WS := inWS (List.mem_of_getElem? (i := 364) (by decide +kernel)) (by decide +kernel)
theorem q319 : (Jvm.Cond.methodLink "PaddleRows" (72 : Nat) ({ cls := "PaddleRows$Tank", name := "passSteps", desc := "(I)I" } : Jvm.MethodName)) ∈ WS := inWS (List.mem_of_getElem? (i := 365) (by decide +kernel)) (by decide +kernel)
theorem q320 : (Jvm.Cond.instanceMethod ({ cls := "PaddleRows$Tank", name := "passSteps", desc := "(I)I" } : Jvm.MethodName)) ∈ WS := inWS (List.mem_of_getElem? (i := 366) (by decide +kernel)) (by decide +kernel)
theorem q321 : (Jvm.Cond.selects "PaddleRows$Tank" ({ cls := "PaddleRows$Tank", name := "passSteps", desc := "(I)I" } : Jvm.MethodName) ({ cls := "PaddleRows$Tank", name := "passSteps", desc := "(I)I" } : Jvm.MethodName)) ∈ WS := inWS (List.mem_of_getElem? (i := 367) (by decide +kernel)) (by decide +kernel)
theorem q322 : (Jvm.Cond.code ({ cls := "PaddleRows$Tank", name := "passSteps", desc := "(I)I" } : Jvm.MethodName) prog_6_method_11_code (4 : Nat) (Option.some Jvm.ClassFile.FieldType.int)) ∈ WS := inWS (List.mem_of_getElem? (i := 368) (by decide +kernel)) (by decide +kernel)
theorem q323 : (Jvm.Cond.constant "PaddleRows$Tank" (114 : Nat) (99999 : Int32)) ∈ WS := inWS (List.mem_of_getElem? (i := 369) (by decide +kernel)) (by decide +kernel)
theorem q324 : (Jvm.Cond.methodLink "PaddleRows$Tank" (115 : Nat) ({ cls := "PaddleRows$Tank", name := "step", desc := "()I" } : Jvm.MethodName)) ∈ WS := inWS (List.mem_of_getElem? (i := 370) (by decide +kernel)) (by decide +kernel)
theorem q325 : (Jvm.Cond.instanceMethod ({ cls := "PaddleRows$Tank", name := "step", desc := "()I" } : Jvm.MethodName)) ∈ WS := inWS (List.mem_of_getElem? (i := 371) (by decide +kernel)) (by decide +kernel)
theorem q326 : (Jvm.Cond.selects "PaddleRows$Tank" ({ cls := "PaddleRows$Tank", name := "step", desc := "()I" } : Jvm.MethodName) ({ cls := "PaddleRows$Tank", name := "step", desc := "()I" } : Jvm.MethodName)) ∈ WS := inWS (List.mem_of_getElem? (i := 372) (by decide +kernel)) (by decide +kernel)
theorem q327 : (Jvm.Cond.code ({ cls := "PaddleRows$Tank", name := "step", desc := "()I" } : Jvm.MethodName) prog_6_method_12_code (3 : Nat) (Option.some Jvm.ClassFile.FieldType.int)) ∈ WS := inWS (List.mem_of_getElem? (i := 373) (by decide +kernel)) (by decide +kernel)
theorem q328 : (Jvm.Cond.methodLink "PaddleRows$Tank" (119 : Nat) ({ cls := "PaddleRows$Tank", name := "movePaddles", desc := "()I" } : Jvm.MethodName)) ∈ WS := inWS (List.mem_of_getElem? (i := 374) (by decide +kernel)) (by decide +kernel)
theorem q329 : (Jvm.Cond.instanceMethod ({ cls := "PaddleRows$Tank", name := "movePaddles", desc := "()I" } : Jvm.MethodName)) ∈ WS := inWS (List.mem_of_getElem? (i := 375) (by decide +kernel)) (by decide +kernel)
theorem q330 : (Jvm.Cond.selects "PaddleRows$Tank" ({ cls := "PaddleRows$Tank", name := "movePaddles", desc := "()I" } : Jvm.MethodName) ({ cls := "PaddleRows$Tank", name := "movePaddles", desc := "()I" } : Jvm.MethodName)) ∈ WS := inWS (List.mem_of_getElem? (i := 376) (by decide +kernel)) (by decide +kernel)
theorem q331 : (Jvm.Cond.code ({ cls := "PaddleRows$Tank", name := "movePaddles", desc := "()I" } : Jvm.MethodName) prog_6_method_13_code (4 : Nat) (Option.some Jvm.ClassFile.FieldType.int)) ∈ WS := inWS (List.mem_of_getElem? (i := 377) (by decide +kernel)) (by decide +kernel)
theorem q332 : (Jvm.Cond.methodLink "PaddleRows$Tank" (132 : Nat) ({ cls := "java/lang/Math", name := "abs", desc := "(I)I" } : Jvm.MethodName)) ∈ WS := inWS (List.mem_of_getElem? (i := 378) (by decide +kernel)) (by decide +kernel)
theorem q333 : (Jvm.Cond.static ({ cls := "java/lang/Math", name := "abs", desc := "(I)I" } : Jvm.MethodName)) ∈ WS := inWS (List.mem_of_getElem? (i := 379) (by decide +kernel)) (by decide +kernel)
theorem q334 : (Jvm.Cond.code ({ cls := "java/lang/Math", name := "abs", desc := "(I)I" } : Jvm.MethodName) prog_11_method_59_code (1 : Nat) (Option.some Jvm.ClassFile.FieldType.int)) ∈ WS := inWS (List.mem_of_getElem? (i := 380) (by decide +kernel)) (by decide +kernel)
theorem q335 : (Jvm.Cond.methodLink "PaddleRows$Tank" (137 : Nat) ({ cls := "PaddleRows$Paddle", name := "pushAt", desc := "(I)I" } : Jvm.MethodName)) ∈ WS := inWS (List.mem_of_getElem? (i := 381) (by decide +kernel)) (by decide +kernel)
theorem q336 : (Jvm.Cond.instanceMethod ({ cls := "PaddleRows$Paddle", name := "pushAt", desc := "(I)I" } : Jvm.MethodName)) ∈ WS := inWS (List.mem_of_getElem? (i := 382) (by decide +kernel)) (by decide +kernel)
theorem q337 : (Jvm.Cond.selects "PaddleRows$Paddle" ({ cls := "PaddleRows$Paddle", name := "pushAt", desc := "(I)I" } : Jvm.MethodName) ({ cls := "PaddleRows$Paddle", name := "pushAt", desc := "(I)I" } : Jvm.MethodName)) ∈ WS := inWS (List.mem_of_getElem? (i := 383) (by decide +kernel)) (by decide +kernel)
theorem q338 : (Jvm.Cond.code ({ cls := "PaddleRows$Paddle", name := "pushAt", desc := "(I)I" } : Jvm.MethodName) prog_5_method_4_code (3 : Nat) (Option.some Jvm.ClassFile.FieldType.int)) ∈ WS := inWS (List.mem_of_getElem? (i := 384) (by decide +kernel)) (by decide +kernel)
theorem q339 : (Jvm.Cond.methodLink "PaddleRows$Paddle" (35 : Nat) ({ cls := "java/lang/Math", name := "min", desc := "(II)I" } : Jvm.MethodName)) ∈ WS := inWS (List.mem_of_getElem? (i := 385) (by decide +kernel)) (by decide +kernel)
theorem q340 : (Jvm.Cond.static ({ cls := "java/lang/Math", name := "min", desc := "(II)I" } : Jvm.MethodName)) ∈ WS := inWS (List.mem_of_getElem? (i := 386) (by decide +kernel)) (by decide +kernel)
theorem q341 : (Jvm.Cond.code ({ cls := "java/lang/Math", name := "min", desc := "(II)I" } : Jvm.MethodName) prog_11_method_69_code (2 : Nat) (Option.some Jvm.ClassFile.FieldType.int)) ∈ WS := inWS (List.mem_of_getElem? (i := 387) (by decide +kernel)) (by decide +kernel)
theorem q342 : (Jvm.Cond.methodLink "PaddleRows$Tank" (122 : Nat) ({ cls := "PaddleRows$Tank", name := "moveWater", desc := "()V" } : Jvm.MethodName)) ∈ WS := inWS (List.mem_of_getElem? (i := 388) (by decide +kernel)) (by decide +kernel)
theorem q343 : (Jvm.Cond.instanceMethod ({ cls := "PaddleRows$Tank", name := "moveWater", desc := "()V" } : Jvm.MethodName)) ∈ WS := inWS (List.mem_of_getElem? (i := 389) (by decide +kernel)) (by decide +kernel)
theorem q344 : (Jvm.Cond.selects "PaddleRows$Tank" ({ cls := "PaddleRows$Tank", name := "moveWater", desc := "()V" } : Jvm.MethodName) ({ cls := "PaddleRows$Tank", name := "moveWater", desc := "()V" } : Jvm.MethodName)) ∈ WS := inWS (List.mem_of_getElem? (i := 390) (by decide +kernel)) (by decide +kernel)
theorem q345 : (Jvm.Cond.code ({ cls := "PaddleRows$Tank", name := "moveWater", desc := "()V" } : Jvm.MethodName) prog_6_method_14_code (6 : Nat) (Option.none : Option Jvm.ClassFile.FieldType)) ∈ WS := inWS (List.mem_of_getElem? (i := 391) (by decide +kernel)) (by decide +kernel)
theorem q347 : (Jvm.Cond.static ({ cls := "PaddleRows", name := "withinBounds", desc := "(I)I" } : Jvm.MethodName)) ∈ WS := inWS (List.mem_of_getElem? (i := 393) (by decide +kernel)) (by decide +kernel)
theorem q348 : (Jvm.Cond.code ({ cls := "PaddleRows", name := "withinBounds", desc := "(I)I" } : Jvm.MethodName) prog_1_method_31_code (1 : Nat) (Option.some Jvm.ClassFile.FieldType.int)) ∈ WS := inWS (List.mem_of_getElem? (i := 394) (by decide +kernel)) (by decide +kernel)
theorem q349 : (Jvm.Cond.methodLink "PaddleRows" (251 : Nat) ({ cls := "java/lang/Math", name := "min", desc := "(II)I" } : Jvm.MethodName)) ∈ WS := inWS (List.mem_of_getElem? (i := 395) (by decide +kernel)) (by decide +kernel)
theorem q350 : (Jvm.Cond.methodLink "PaddleRows" (207 : Nat) ({ cls := "java/lang/Math", name := "max", desc := "(II)I" } : Jvm.MethodName)) ∈ WS := inWS (List.mem_of_getElem? (i := 396) (by decide +kernel)) (by decide +kernel)
theorem q351 : (Jvm.Cond.static ({ cls := "java/lang/Math", name := "max", desc := "(II)I" } : Jvm.MethodName)) ∈ WS := inWS (List.mem_of_getElem? (i := 397) (by decide +kernel)) (by decide +kernel)
theorem q352 : (Jvm.Cond.code ({ cls := "java/lang/Math", name := "max", desc := "(II)I" } : Jvm.MethodName) prog_11_method_65_code (2 : Nat) (Option.some Jvm.ClassFile.FieldType.int)) ∈ WS := inWS (List.mem_of_getElem? (i := 398) (by decide +kernel)) (by decide +kernel)
theorem q353 : (Jvm.Cond.methodLink "PaddleRows$Tank" (125 : Nat) ({ cls := "PaddleRows$Tank", name := "calmBeach", desc := "()V" } : Jvm.MethodName)) ∈ WS := inWS (List.mem_of_getElem? (i := 399) (by decide +kernel)) (by decide +kernel)
theorem q354 : (Jvm.Cond.instanceMethod ({ cls := "PaddleRows$Tank", name := "calmBeach", desc := "()V" } : Jvm.MethodName)) ∈ WS := inWS (List.mem_of_getElem? (i := 400) (by decide +kernel)) (by decide +kernel)
theorem q355 : (Jvm.Cond.selects "PaddleRows$Tank" ({ cls := "PaddleRows$Tank", name := "calmBeach", desc := "()V" } : Jvm.MethodName) ({ cls := "PaddleRows$Tank", name := "calmBeach", desc := "()V" } : Jvm.MethodName)) ∈ WS := inWS (List.mem_of_getElem? (i := 401) (by decide +kernel)) (by decide +kernel)
theorem q356 : (Jvm.Cond.code ({ cls := "PaddleRows$Tank", name := "calmBeach", desc := "()V" } : Jvm.MethodName) prog_6_method_15_code (3 : Nat) (Option.none : Option Jvm.ClassFile.FieldType)) ∈ WS := inWS (List.mem_of_getElem? (i := 402) (by decide +kernel)) (by decide +kernel)
theorem q357 : (Jvm.Cond.methodLink "PaddleRows$Tank" (129 : Nat) ({ cls := "PaddleRows$Gauge", name := "note", desc := "(I)V" } : Jvm.MethodName)) ∈ WS := inWS (List.mem_of_getElem? (i := 403) (by decide +kernel)) (by decide +kernel)
theorem q358 : (Jvm.Cond.instanceMethod ({ cls := "PaddleRows$Gauge", name := "note", desc := "(I)V" } : Jvm.MethodName)) ∈ WS := inWS (List.mem_of_getElem? (i := 404) (by decide +kernel)) (by decide +kernel)
theorem q359 : (Jvm.Cond.selects "PaddleRows$Gauge" ({ cls := "PaddleRows$Gauge", name := "note", desc := "(I)V" } : Jvm.MethodName) ({ cls := "PaddleRows$Gauge", name := "note", desc := "(I)V" } : Jvm.MethodName)) ∈ WS := inWS (List.mem_of_getElem? (i := 405) (by decide +kernel)) (by decide +kernel)
theorem q360 : (Jvm.Cond.code ({ cls := "PaddleRows$Gauge", name := "note", desc := "(I)V" } : Jvm.MethodName) prog_2_method_4_code (2 : Nat) (Option.none : Option Jvm.ClassFile.FieldType)) ∈ WS := inWS (List.mem_of_getElem? (i := 406) (by decide +kernel)) (by decide +kernel)
theorem q361 : (Jvm.Cond.methodLink "PaddleRows$Gauge" (31 : Nat) ({ cls := "java/lang/Math", name := "min", desc := "(II)I" } : Jvm.MethodName)) ∈ WS := inWS (List.mem_of_getElem? (i := 407) (by decide +kernel)) (by decide +kernel)
theorem q362 : (Jvm.Cond.methodLink "PaddleRowsLaw" (44 : Nat) ({ cls := "PaddleRows", name := "cell", desc := "(II)I" } : Jvm.MethodName)) ∈ WS := inWS (List.mem_of_getElem? (i := 408) (by decide +kernel)) (by decide +kernel)
theorem q363 : (Jvm.Cond.instanceMethod ({ cls := "PaddleRows", name := "cell", desc := "(II)I" } : Jvm.MethodName)) ∈ WS := inWS (List.mem_of_getElem? (i := 409) (by decide +kernel)) (by decide +kernel)
theorem q364 : (Jvm.Cond.selects "PaddleRows" ({ cls := "PaddleRows", name := "cell", desc := "(II)I" } : Jvm.MethodName) ({ cls := "PaddleRows", name := "cell", desc := "(II)I" } : Jvm.MethodName)) ∈ WS := inWS (List.mem_of_getElem? (i := 410) (by decide +kernel)) (by decide +kernel)
theorem q365 : (Jvm.Cond.code ({ cls := "PaddleRows", name := "cell", desc := "(II)I" } : Jvm.MethodName) prog_1_method_10_code (3 : Nat) (Option.some Jvm.ClassFile.FieldType.int)) ∈ WS := inWS (List.mem_of_getElem? (i := 411) (by decide +kernel)) (by decide +kernel)
theorem q366 : (Jvm.Cond.methodLink "PaddleRows" (78 : Nat) ({ cls := "PaddleRows", name := "isOutside", desc := "(II)Z" } : Jvm.MethodName)) ∈ WS := inWS (List.mem_of_getElem? (i := 412) (by decide +kernel)) (by decide +kernel)
theorem q367 : (Jvm.Cond.methodLink "PaddleRows" (89 : Nat) ({ cls := "PaddleRows$Tank", name := "isCrest", desc := "(I)Z" } : Jvm.MethodName)) ∈ WS := inWS (List.mem_of_getElem? (i := 413) (by decide +kernel)) (by decide +kernel)
theorem q368 : (Jvm.Cond.instanceMethod ({ cls := "PaddleRows$Tank", name := "isCrest", desc := "(I)Z" } : Jvm.MethodName)) ∈ WS := inWS (List.mem_of_getElem? (i := 414) (by decide +kernel)) (by decide +kernel)
theorem q369 : (Jvm.Cond.selects "PaddleRows$Tank" ({ cls := "PaddleRows$Tank", name := "isCrest", desc := "(I)Z" } : Jvm.MethodName) ({ cls := "PaddleRows$Tank", name := "isCrest", desc := "(I)Z" } : Jvm.MethodName)) ∈ WS := inWS (List.mem_of_getElem? (i := 415) (by decide +kernel)) (by decide +kernel)
theorem q370 : (Jvm.Cond.code ({ cls := "PaddleRows$Tank", name := "isCrest", desc := "(I)Z" } : Jvm.MethodName) prog_6_method_16_code (2 : Nat) (Option.some Jvm.ClassFile.FieldType.boolean)) ∈ WS := inWS (List.mem_of_getElem? (i := 416) (by decide +kernel)) (by decide +kernel)
theorem q371 : (Jvm.Cond.methodLink "PaddleRows" (93 : Nat) ({ cls := "PaddleRows", name := "asNumber", desc := "(Z)I" } : Jvm.MethodName)) ∈ WS := inWS (List.mem_of_getElem? (i := 417) (by decide +kernel)) (by decide +kernel)
theorem q372 : (Jvm.Cond.methodLink "PaddleRows" (97 : Nat) ({ cls := "PaddleRows$Tank", name := "isTrough", desc := "(I)Z" } : Jvm.MethodName)) ∈ WS := inWS (List.mem_of_getElem? (i := 418) (by decide +kernel)) (by decide +kernel)
theorem q373 : (Jvm.Cond.instanceMethod ({ cls := "PaddleRows$Tank", name := "isTrough", desc := "(I)Z" } : Jvm.MethodName)) ∈ WS := inWS (List.mem_of_getElem? (i := 419) (by decide +kernel)) (by decide +kernel)
theorem q374 : (Jvm.Cond.selects "PaddleRows$Tank" ({ cls := "PaddleRows$Tank", name := "isTrough", desc := "(I)Z" } : Jvm.MethodName) ({ cls := "PaddleRows$Tank", name := "isTrough", desc := "(I)Z" } : Jvm.MethodName)) ∈ WS := inWS (List.mem_of_getElem? (i := 420) (by decide +kernel)) (by decide +kernel)
theorem q375 : (Jvm.Cond.code ({ cls := "PaddleRows$Tank", name := "isTrough", desc := "(I)Z" } : Jvm.MethodName) prog_6_method_17_code (2 : Nat) (Option.some Jvm.ClassFile.FieldType.boolean)) ∈ WS := inWS (List.mem_of_getElem? (i := 421) (by decide +kernel)) (by decide +kernel)
theorem q376 : (Jvm.Cond.methodLink "PaddleRowsLaw" (48 : Nat) ({ cls := "PaddleRows", name := "ofPaddle", desc := "(II)I" } : Jvm.MethodName)) ∈ WS := inWS (List.mem_of_getElem? (i := 422) (by decide +kernel)) (by decide +kernel)
theorem q377 : (Jvm.Cond.instanceMethod ({ cls := "PaddleRows", name := "ofPaddle", desc := "(II)I" } : Jvm.MethodName)) ∈ WS := inWS (List.mem_of_getElem? (i := 423) (by decide +kernel)) (by decide +kernel)
theorem q378 : (Jvm.Cond.selects "PaddleRows" ({ cls := "PaddleRows", name := "ofPaddle", desc := "(II)I" } : Jvm.MethodName) ({ cls := "PaddleRows", name := "ofPaddle", desc := "(II)I" } : Jvm.MethodName)) ∈ WS := inWS (List.mem_of_getElem? (i := 424) (by decide +kernel)) (by decide +kernel)
theorem q379 : (Jvm.Cond.code ({ cls := "PaddleRows", name := "ofPaddle", desc := "(II)I" } : Jvm.MethodName) prog_1_method_11_code (4 : Nat) (Option.some Jvm.ClassFile.FieldType.int)) ∈ WS := inWS (List.mem_of_getElem? (i := 425) (by decide +kernel)) (by decide +kernel)
theorem q380 : (Jvm.Cond.methodLink "PaddleRows" (132 : Nat) ({ cls := "PaddleRows$Paddle", name := "pushAt", desc := "(I)I" } : Jvm.MethodName)) ∈ WS := inWS (List.mem_of_getElem? (i := 426) (by decide +kernel)) (by decide +kernel)
theorem q381 : (Jvm.Cond.methodLink "PaddleRowsLaw" (52 : Nat) ({ cls := "PaddleRows", name := "ofGauge", desc := "(II)I" } : Jvm.MethodName)) ∈ WS := inWS (List.mem_of_getElem? (i := 427) (by decide +kernel)) (by decide +kernel)
theorem q382 : (Jvm.Cond.instanceMethod ({ cls := "PaddleRows", name := "ofGauge", desc := "(II)I" } : Jvm.MethodName)) ∈ WS := inWS (List.mem_of_getElem? (i := 428) (by decide +kernel)) (by decide +kernel)
theorem q383 : (Jvm.Cond.selects "PaddleRows" ({ cls := "PaddleRows", name := "ofGauge", desc := "(II)I" } : Jvm.MethodName) ({ cls := "PaddleRows", name := "ofGauge", desc := "(II)I" } : Jvm.MethodName)) ∈ WS := inWS (List.mem_of_getElem? (i := 429) (by decide +kernel)) (by decide +kernel)
theorem q384 : (Jvm.Cond.code ({ cls := "PaddleRows", name := "ofGauge", desc := "(II)I" } : Jvm.MethodName) prog_1_method_12_code (4 : Nat) (Option.some Jvm.ClassFile.FieldType.int)) ∈ WS := inWS (List.mem_of_getElem? (i := 430) (by decide +kernel)) (by decide +kernel)
theorem q385 : (Jvm.Cond.methodLink "PaddleRows" (148 : Nat) ({ cls := "PaddleRows$Gauge", name := "greatest", desc := "()I" } : Jvm.MethodName)) ∈ WS := inWS (List.mem_of_getElem? (i := 431) (by decide +kernel)) (by decide +kernel)
theorem q386 : (Jvm.Cond.instanceMethod ({ cls := "PaddleRows$Gauge", name := "greatest", desc := "()I" } : Jvm.MethodName)) ∈ WS := inWS (List.mem_of_getElem? (i := 432) (by decide +kernel)) (by decide +kernel)
theorem q387 : (Jvm.Cond.selects "PaddleRows$Gauge" ({ cls := "PaddleRows$Gauge", name := "greatest", desc := "()I" } : Jvm.MethodName) ({ cls := "PaddleRows$Gauge", name := "greatest", desc := "()I" } : Jvm.MethodName)) ∈ WS := inWS (List.mem_of_getElem? (i := 433) (by decide +kernel)) (by decide +kernel)
theorem q388 : (Jvm.Cond.code ({ cls := "PaddleRows$Gauge", name := "greatest", desc := "()I" } : Jvm.MethodName) prog_2_method_6_code (3 : Nat) (Option.some Jvm.ClassFile.FieldType.int)) ∈ WS := inWS (List.mem_of_getElem? (i := 434) (by decide +kernel)) (by decide +kernel)
theorem q389 : (Jvm.Cond.methodLink "PaddleRows$Gauge" (40 : Nat) ({ cls := "PaddleRows$Gauge", name := "levelAgo", desc := "(I)I" } : Jvm.MethodName)) ∈ WS := inWS (List.mem_of_getElem? (i := 435) (by decide +kernel)) (by decide +kernel)
theorem q390 : (Jvm.Cond.instanceMethod ({ cls := "PaddleRows$Gauge", name := "levelAgo", desc := "(I)I" } : Jvm.MethodName)) ∈ WS := inWS (List.mem_of_getElem? (i := 436) (by decide +kernel)) (by decide +kernel)
theorem q391 : (Jvm.Cond.selects "PaddleRows$Gauge" ({ cls := "PaddleRows$Gauge", name := "levelAgo", desc := "(I)I" } : Jvm.MethodName) ({ cls := "PaddleRows$Gauge", name := "levelAgo", desc := "(I)I" } : Jvm.MethodName)) ∈ WS := inWS (List.mem_of_getElem? (i := 437) (by decide +kernel)) (by decide +kernel)
theorem q392 : (Jvm.Cond.code ({ cls := "PaddleRows$Gauge", name := "levelAgo", desc := "(I)I" } : Jvm.MethodName) prog_2_method_5_code (2 : Nat) (Option.some Jvm.ClassFile.FieldType.int)) ∈ WS := inWS (List.mem_of_getElem? (i := 438) (by decide +kernel)) (by decide +kernel)
theorem q393 : (Jvm.Cond.methodLink "PaddleRows$Gauge" (37 : Nat) ({ cls := "java/lang/Math", name := "floorMod", desc := "(II)I" } : Jvm.MethodName)) ∈ WS := inWS (List.mem_of_getElem? (i := 439) (by decide +kernel)) (by decide +kernel)
theorem q394 : (Jvm.Cond.static ({ cls := "java/lang/Math", name := "floorMod", desc := "(II)I" } : Jvm.MethodName)) ∈ WS := inWS (List.mem_of_getElem? (i := 440) (by decide +kernel)) (by decide +kernel)
theorem q395 : (Jvm.Cond.code ({ cls := "java/lang/Math", name := "floorMod", desc := "(II)I" } : Jvm.MethodName) prog_11_method_50_code (3 : Nat) (Option.some Jvm.ClassFile.FieldType.int)) ∈ WS := inWS (List.mem_of_getElem? (i := 441) (by decide +kernel)) (by decide +kernel)
theorem q396 : (Jvm.Cond.methodLink "PaddleRows$Gauge" (44 : Nat) ({ cls := "java/lang/Math", name := "max", desc := "(II)I" } : Jvm.MethodName)) ∈ WS := inWS (List.mem_of_getElem? (i := 442) (by decide +kernel)) (by decide +kernel)
theorem q397 : (Jvm.Cond.methodLink "PaddleRows" (152 : Nat) ({ cls := "PaddleRows$Gauge", name := "least", desc := "()I" } : Jvm.MethodName)) ∈ WS := inWS (List.mem_of_getElem? (i := 443) (by decide +kernel)) (by decide +kernel)
theorem q398 : (Jvm.Cond.instanceMethod ({ cls := "PaddleRows$Gauge", name := "least", desc := "()I" } : Jvm.MethodName)) ∈ WS := inWS (List.mem_of_getElem? (i := 444) (by decide +kernel)) (by decide +kernel)
theorem q399 : (Jvm.Cond.selects "PaddleRows$Gauge" ({ cls := "PaddleRows$Gauge", name := "least", desc := "()I" } : Jvm.MethodName) ({ cls := "PaddleRows$Gauge", name := "least", desc := "()I" } : Jvm.MethodName)) ∈ WS := inWS (List.mem_of_getElem? (i := 445) (by decide +kernel)) (by decide +kernel)
theorem q400 : (Jvm.Cond.code ({ cls := "PaddleRows$Gauge", name := "least", desc := "()I" } : Jvm.MethodName) prog_2_method_7_code (3 : Nat) (Option.some Jvm.ClassFile.FieldType.int)) ∈ WS := inWS (List.mem_of_getElem? (i := 446) (by decide +kernel)) (by decide +kernel)
theorem q401 : (Jvm.Cond.methodLink "PaddleRows" (155 : Nat) ({ cls := "PaddleRows$Gauge", name := "rises", desc := "()I" } : Jvm.MethodName)) ∈ WS := inWS (List.mem_of_getElem? (i := 447) (by decide +kernel)) (by decide +kernel)
theorem q402 : (Jvm.Cond.instanceMethod ({ cls := "PaddleRows$Gauge", name := "rises", desc := "()I" } : Jvm.MethodName)) ∈ WS := inWS (List.mem_of_getElem? (i := 448) (by decide +kernel)) (by decide +kernel)
theorem q403 : (Jvm.Cond.selects "PaddleRows$Gauge" ({ cls := "PaddleRows$Gauge", name := "rises", desc := "()I" } : Jvm.MethodName) ({ cls := "PaddleRows$Gauge", name := "rises", desc := "()I" } : Jvm.MethodName)) ∈ WS := inWS (List.mem_of_getElem? (i := 449) (by decide +kernel)) (by decide +kernel)
theorem q404 : (Jvm.Cond.code ({ cls := "PaddleRows$Gauge", name := "rises", desc := "()I" } : Jvm.MethodName) prog_2_method_8_code (3 : Nat) (Option.some Jvm.ClassFile.FieldType.int)) ∈ WS := inWS (List.mem_of_getElem? (i := 450) (by decide +kernel)) (by decide +kernel)
theorem q405 : (Jvm.Cond.methodLink "PaddleRowsLaw" (56 : Nat) ({ cls := "PaddleRows", name := "noted", desc := "(II)I" } : Jvm.MethodName)) ∈ WS := inWS (List.mem_of_getElem? (i := 451) (by decide +kernel)) (by decide +kernel)
theorem q406 : (Jvm.Cond.instanceMethod ({ cls := "PaddleRows", name := "noted", desc := "(II)I" } : Jvm.MethodName)) ∈ WS := inWS (List.mem_of_getElem? (i := 452) (by decide +kernel)) (by decide +kernel)
theorem q407 : (Jvm.Cond.selects "PaddleRows" ({ cls := "PaddleRows", name := "noted", desc := "(II)I" } : Jvm.MethodName) ({ cls := "PaddleRows", name := "noted", desc := "(II)I" } : Jvm.MethodName)) ∈ WS := inWS (List.mem_of_getElem? (i := 453) (by decide +kernel)) (by decide +kernel)
theorem q408 : (Jvm.Cond.code ({ cls := "PaddleRows", name := "noted", desc := "(II)I" } : Jvm.MethodName) prog_1_method_13_code (4 : Nat) (Option.some Jvm.ClassFile.FieldType.int)) ∈ WS := inWS (List.mem_of_getElem? (i := 454) (by decide +kernel)) (by decide +kernel)
theorem q409 : (Jvm.Cond.methodLink "PaddleRows" (158 : Nat) ({ cls := "PaddleRows$Gauge", name := "levelAgo", desc := "(I)I" } : Jvm.MethodName)) ∈ WS := inWS (List.mem_of_getElem? (i := 455) (by decide +kernel)) (by decide +kernel)
theorem q410 : (Jvm.Cond.methodLink "PaddleRowsLaw" (60 : Nat) ({ cls := "PaddleRows", name := "places", desc := "(I)J" } : Jvm.MethodName)) ∈ WS := inWS (List.mem_of_getElem? (i := 456) (by decide +kernel)) (by decide +kernel)
theorem q411 : (Jvm.Cond.instanceMethod ({ cls := "PaddleRows", name := "places", desc := "(I)J" } : Jvm.MethodName)) ∈ WS := inWS (List.mem_of_getElem? (i := 457) (by decide +kernel)) (by decide +kernel)
theorem q412 : (Jvm.Cond.selects "PaddleRows" ({ cls := "PaddleRows", name := "places", desc := "(I)J" } : Jvm.MethodName) ({ cls := "PaddleRows", name := "places", desc := "(I)J" } : Jvm.MethodName)) ∈ WS := inWS (List.mem_of_getElem? (i := 458) (by decide +kernel)) (by decide +kernel)
theorem q413 : (Jvm.Cond.code ({ cls := "PaddleRows", name := "places", desc := "(I)J" } : Jvm.MethodName) prog_1_method_14_code (2 : Nat) (Option.some Jvm.ClassFile.FieldType.long)) ∈ WS := inWS (List.mem_of_getElem? (i := 459) (by decide +kernel)) (by decide +kernel)
theorem q414 : (Jvm.Cond.constantLong "PaddleRows" (161 : Nat) (-2 : Int64)) ∈ WS := inWS (List.mem_of_getElem? (i := 460) (by decide +kernel)) (by decide +kernel)
theorem q415 : (Jvm.Cond.methodLink "PaddleRows" (163 : Nat) ({ cls := "PaddleRows$Tank", name := "cellsThatAre", desc := "(I)J" } : Jvm.MethodName)) ∈ WS := inWS (List.mem_of_getElem? (i := 461) (by decide +kernel)) (by decide +kernel)
theorem q416 : (Jvm.Cond.instanceMethod ({ cls := "PaddleRows$Tank", name := "cellsThatAre", desc := "(I)J" } : Jvm.MethodName)) ∈ WS := inWS (List.mem_of_getElem? (i := 462) (by decide +kernel)) (by decide +kernel)
theorem q417 : (Jvm.Cond.selects "PaddleRows$Tank" ({ cls := "PaddleRows$Tank", name := "cellsThatAre", desc := "(I)J" } : Jvm.MethodName) ({ cls := "PaddleRows$Tank", name := "cellsThatAre", desc := "(I)J" } : Jvm.MethodName)) ∈ WS := inWS (List.mem_of_getElem? (i := 463) (by decide +kernel)) (by decide +kernel)
theorem q418 : (Jvm.Cond.code ({ cls := "PaddleRows$Tank", name := "cellsThatAre", desc := "(I)J" } : Jvm.MethodName) prog_6_method_19_code (5 : Nat) (Option.some Jvm.ClassFile.FieldType.long)) ∈ WS := inWS (List.mem_of_getElem? (i := 464) (by decide +kernel)) (by decide +kernel)
theorem q419 : (Jvm.Cond.methodLink "PaddleRows$Tank" (143 : Nat) ({ cls := "PaddleRows$Tank", name := "isPlace", desc := "(II)Z" } : Jvm.MethodName)) ∈ WS := inWS (List.mem_of_getElem? (i := 465) (by decide +kernel)) (by decide +kernel)
theorem q420 : (Jvm.Cond.instanceMethod ({ cls := "PaddleRows$Tank", name := "isPlace", desc := "(II)Z" } : Jvm.MethodName)) ∈ WS := inWS (List.mem_of_getElem? (i := 466) (by decide +kernel)) (by decide +kernel)
theorem q421 : (Jvm.Cond.selects "PaddleRows$Tank" ({ cls := "PaddleRows$Tank", name := "isPlace", desc := "(II)Z" } : Jvm.MethodName) ({ cls := "PaddleRows$Tank", name := "isPlace", desc := "(II)Z" } : Jvm.MethodName)) ∈ WS := inWS (List.mem_of_getElem? (i := 467) (by decide +kernel)) (by decide +kernel)
theorem q422 : (Jvm.Cond.code ({ cls := "PaddleRows$Tank", name := "isPlace", desc := "(II)Z" } : Jvm.MethodName) prog_6_method_20_code (4 : Nat) (Option.some Jvm.ClassFile.FieldType.boolean)) ∈ WS := inWS (List.mem_of_getElem? (i := 468) (by decide +kernel)) (by decide +kernel)
theorem q423 : (Jvm.Cond.methodLink "PaddleRows$Tank" (146 : Nat) ({ cls := "PaddleRows$Tank", name := "isCrest", desc := "(I)Z" } : Jvm.MethodName)) ∈ WS := inWS (List.mem_of_getElem? (i := 469) (by decide +kernel)) (by decide +kernel)
theorem q424 : (Jvm.Cond.methodLink "PaddleRows$Tank" (150 : Nat) ({ cls := "PaddleRows$Tank", name := "isTrough", desc := "(I)Z" } : Jvm.MethodName)) ∈ WS := inWS (List.mem_of_getElem? (i := 470) (by decide +kernel)) (by decide +kernel)
theorem q425 : (Jvm.Cond.methodLink "PaddleRowsLaw" (65 : Nat) ({ cls := "PaddleRows", name := "count", desc := "(I)I" } : Jvm.MethodName)) ∈ WS := inWS (List.mem_of_getElem? (i := 471) (by decide +kernel)) (by decide +kernel)
theorem q426 : (Jvm.Cond.instanceMethod ({ cls := "PaddleRows", name := "count", desc := "(I)I" } : Jvm.MethodName)) ∈ WS := inWS (List.mem_of_getElem? (i := 472) (by decide +kernel)) (by decide +kernel)
theorem q427 : (Jvm.Cond.selects "PaddleRows" ({ cls := "PaddleRows", name := "count", desc := "(I)I" } : Jvm.MethodName) ({ cls := "PaddleRows", name := "count", desc := "(I)I" } : Jvm.MethodName)) ∈ WS := inWS (List.mem_of_getElem? (i := 473) (by decide +kernel)) (by decide +kernel)
theorem q428 : (Jvm.Cond.code ({ cls := "PaddleRows", name := "count", desc := "(I)I" } : Jvm.MethodName) prog_1_method_15_code (2 : Nat) (Option.some Jvm.ClassFile.FieldType.int)) ∈ WS := inWS (List.mem_of_getElem? (i := 474) (by decide +kernel)) (by decide +kernel)
theorem q429 : (Jvm.Cond.methodLink "PaddleRows" (167 : Nat) ({ cls := "java/lang/Long", name := "bitCount", desc := "(J)I" } : Jvm.MethodName)) ∈ WS := inWS (List.mem_of_getElem? (i := 475) (by decide +kernel)) (by decide +kernel)
theorem q430 : (Jvm.Cond.static ({ cls := "java/lang/Long", name := "bitCount", desc := "(J)I" } : Jvm.MethodName)) ∈ WS := inWS (List.mem_of_getElem? (i := 476) (by decide +kernel)) (by decide +kernel)
theorem q431 : (Jvm.Cond.code ({ cls := "java/lang/Long", name := "bitCount", desc := "(J)I" } : Jvm.MethodName) prog_10_method_50_code (2 : Nat) (Option.some Jvm.ClassFile.FieldType.int)) ∈ WS := inWS (List.mem_of_getElem? (i := 477) (by decide +kernel)) (by decide +kernel)
theorem q432 : (Jvm.Cond.constantLong "java/lang/Long" (314 : Nat) (6148914691236517205 : Int64)) ∈ WS := inWS (List.mem_of_getElem? (i := 478) (by decide +kernel)) (by decide +kernel)
theorem q433 : (Jvm.Cond.constantLong "java/lang/Long" (316 : Nat) (3689348814741910323 : Int64)) ∈ WS := inWS (List.mem_of_getElem? (i := 479) (by decide +kernel)) (by decide +kernel)
theorem q434 : (Jvm.Cond.constantLong "java/lang/Long" (318 : Nat) (1085102592571150095 : Int64)) ∈ WS := inWS (List.mem_of_getElem? (i := 480) (by decide +kernel)) (by decide +kernel)
theorem q435 : (Jvm.Cond.methodLink "PaddleRows" (173 : Nat) ({ cls := "PaddleRows$Tank", name := "sumOfLevels", desc := "()I" } : Jvm.MethodName)) ∈ WS := inWS (List.mem_of_getElem? (i := 481) (by decide +kernel)) (by decide +kernel)
theorem q436 : (Jvm.Cond.instanceMethod ({ cls := "PaddleRows$Tank", name := "sumOfLevels", desc := "()I" } : Jvm.MethodName)) ∈ WS := inWS (List.mem_of_getElem? (i := 482) (by decide +kernel)) (by decide +kernel)
theorem q437 : (Jvm.Cond.selects "PaddleRows$Tank" ({ cls := "PaddleRows$Tank", name := "sumOfLevels", desc := "()I" } : Jvm.MethodName) ({ cls := "PaddleRows$Tank", name := "sumOfLevels", desc := "()I" } : Jvm.MethodName)) ∈ WS := inWS (List.mem_of_getElem? (i := 483) (by decide +kernel)) (by decide +kernel)
theorem q438 : (Jvm.Cond.code ({ cls := "PaddleRows$Tank", name := "sumOfLevels", desc := "()I" } : Jvm.MethodName) prog_6_method_21_code (3 : Nat) (Option.some Jvm.ClassFile.FieldType.int)) ∈ WS := inWS (List.mem_of_getElem? (i := 484) (by decide +kernel)) (by decide +kernel)
theorem q439 : (Jvm.Cond.constant "PaddleRows" (176 : Nat) (1000000 : Int32)) ∈ WS := inWS (List.mem_of_getElem? (i := 485) (by decide +kernel)) (by decide +kernel)
theorem q440 : (Jvm.Cond.methodLink "PaddleRows" (177 : Nat) ({ cls := "PaddleRows$Tank", name := "motion", desc := "()I" } : Jvm.MethodName)) ∈ WS := inWS (List.mem_of_getElem? (i := 486) (by decide +kernel)) (by decide +kernel)
theorem q441 : (Jvm.Cond.instanceMethod ({ cls := "PaddleRows$Tank", name := "motion", desc := "()I" } : Jvm.MethodName)) ∈ WS := inWS (List.mem_of_getElem? (i := 487) (by decide +kernel)) (by decide +kernel)
theorem q442 : (Jvm.Cond.selects "PaddleRows$Tank" ({ cls := "PaddleRows$Tank", name := "motion", desc := "()I" } : Jvm.MethodName) ({ cls := "PaddleRows$Tank", name := "motion", desc := "()I" } : Jvm.MethodName)) ∈ WS := inWS (List.mem_of_getElem? (i := 488) (by decide +kernel)) (by decide +kernel)
theorem q443 : (Jvm.Cond.code ({ cls := "PaddleRows$Tank", name := "motion", desc := "()I" } : Jvm.MethodName) prog_6_method_22_code (3 : Nat) (Option.some Jvm.ClassFile.FieldType.int)) ∈ WS := inWS (List.mem_of_getElem? (i := 489) (by decide +kernel)) (by decide +kernel)
theorem q444 : (Jvm.Cond.methodLink "PaddleRows" (180 : Nat) ({ cls := "PaddleRows$Tank", name := "farthestLevel", desc := "()I" } : Jvm.MethodName)) ∈ WS := inWS (List.mem_of_getElem? (i := 490) (by decide +kernel)) (by decide +kernel)
theorem q445 : (Jvm.Cond.instanceMethod ({ cls := "PaddleRows$Tank", name := "farthestLevel", desc := "()I" } : Jvm.MethodName)) ∈ WS := inWS (List.mem_of_getElem? (i := 491) (by decide +kernel)) (by decide +kernel)
theorem q446 : (Jvm.Cond.selects "PaddleRows$Tank" ({ cls := "PaddleRows$Tank", name := "farthestLevel", desc := "()I" } : Jvm.MethodName) ({ cls := "PaddleRows$Tank", name := "farthestLevel", desc := "()I" } : Jvm.MethodName)) ∈ WS := inWS (List.mem_of_getElem? (i := 492) (by decide +kernel)) (by decide +kernel)
theorem q447 : (Jvm.Cond.code ({ cls := "PaddleRows$Tank", name := "farthestLevel", desc := "()I" } : Jvm.MethodName) prog_6_method_23_code (3 : Nat) (Option.some Jvm.ClassFile.FieldType.int)) ∈ WS := inWS (List.mem_of_getElem? (i := 493) (by decide +kernel)) (by decide +kernel)
theorem q448 : (Jvm.Cond.methodLink "PaddleRows$Tank" (153 : Nat) ({ cls := "java/lang/Math", name := "max", desc := "(II)I" } : Jvm.MethodName)) ∈ WS := inWS (List.mem_of_getElem? (i := 494) (by decide +kernel)) (by decide +kernel)
theorem q449 : (Jvm.Cond.methodLink "PaddleRows" (183 : Nat) ({ cls := "PaddleRows$Tank", name := "lastUnevenCell", desc := "()I" } : Jvm.MethodName)) ∈ WS := inWS (List.mem_of_getElem? (i := 495) (by decide +kernel)) (by decide +kernel)
theorem q450 : (Jvm.Cond.instanceMethod ({ cls := "PaddleRows$Tank", name := "lastUnevenCell", desc := "()I" } : Jvm.MethodName)) ∈ WS := inWS (List.mem_of_getElem? (i := 496) (by decide +kernel)) (by decide +kernel)
theorem q451 : (Jvm.Cond.selects "PaddleRows$Tank" ({ cls := "PaddleRows$Tank", name := "lastUnevenCell", desc := "()I" } : Jvm.MethodName) ({ cls := "PaddleRows$Tank", name := "lastUnevenCell", desc := "()I" } : Jvm.MethodName)) ∈ WS := inWS (List.mem_of_getElem? (i := 497) (by decide +kernel)) (by decide +kernel)
theorem q452 : (Jvm.Cond.code ({ cls := "PaddleRows$Tank", name := "lastUnevenCell", desc := "()I" } : Jvm.MethodName) prog_6_method_24_code (2 : Nat) (Option.some Jvm.ClassFile.FieldType.int)) ∈ WS := inWS (List.mem_of_getElem? (i := 498) (by decide +kernel)) (by decide +kernel)
theorem q453 : (Jvm.Cond.methodLink "PaddleRowsLaw" (69 : Nat) ({ cls := "PaddleRows", name := "reaches", desc := "(II)I" } : Jvm.MethodName)) ∈ WS := inWS (List.mem_of_getElem? (i := 499) (by decide +kernel)) (by decide +kernel)
theorem q454 : (Jvm.Cond.instanceMethod ({ cls := "PaddleRows", name := "reaches", desc := "(II)I" } : Jvm.MethodName)) ∈ WS := inWS (List.mem_of_getElem? (i := 500) (by decide +kernel)) (by decide +kernel)
theorem q455 : (Jvm.Cond.selects "PaddleRows" ({ cls := "PaddleRows", name := "reaches", desc := "(II)I" } : Jvm.MethodName) ({ cls := "PaddleRows", name := "reaches", desc := "(II)I" } : Jvm.MethodName)) ∈ WS := inWS (List.mem_of_getElem? (i := 501) (by decide +kernel)) (by decide +kernel)
theorem q456 : (Jvm.Cond.code ({ cls := "PaddleRows", name := "reaches", desc := "(II)I" } : Jvm.MethodName) prog_1_method_16_code (4 : Nat) (Option.some Jvm.ClassFile.FieldType.int)) ∈ WS := inWS (List.mem_of_getElem? (i := 502) (by decide +kernel)) (by decide +kernel)
theorem q457 : (Jvm.Cond.methodLink "PaddleRows" (195 : Nat) ({ cls := "java/lang/Math", name := "abs", desc := "(I)I" } : Jvm.MethodName)) ∈ WS := inWS (List.mem_of_getElem? (i := 503) (by decide +kernel)) (by decide +kernel)
theorem q458 : (Jvm.Cond.methodLink "PaddleRows" (200 : Nat) ({ cls := "PaddleRows$Tank", name := "step", desc := "()I" } : Jvm.MethodName)) ∈ WS := inWS (List.mem_of_getElem? (i := 504) (by decide +kernel)) (by decide +kernel)
theorem q459 : (Jvm.Cond.methodLink "PaddleRowsLaw" (73 : Nat) ({ cls := "PaddleRows", name := "bestPeriod", desc := "(IIII)I" } : Jvm.MethodName)) ∈ WS := inWS (List.mem_of_getElem? (i := 505) (by decide +kernel)) (by decide +kernel)
theorem q460 : (Jvm.Cond.instanceMethod ({ cls := "PaddleRows", name := "bestPeriod", desc := "(IIII)I" } : Jvm.MethodName)) ∈ WS := inWS (List.mem_of_getElem? (i := 506) (by decide +kernel)) (by decide +kernel)
theorem q461 : (Jvm.Cond.selects "PaddleRows" ({ cls := "PaddleRows", name := "bestPeriod", desc := "(IIII)I" } : Jvm.MethodName) ({ cls := "PaddleRows", name := "bestPeriod", desc := "(IIII)I" } : Jvm.MethodName)) ∈ WS := inWS (List.mem_of_getElem? (i := 507) (by decide +kernel)) (by decide +kernel)
theorem q462 : (Jvm.Cond.code ({ cls := "PaddleRows", name := "bestPeriod", desc := "(IIII)I" } : Jvm.MethodName) prog_1_method_17_code (9 : Nat) (Option.some Jvm.ClassFile.FieldType.int)) ∈ WS := inWS (List.mem_of_getElem? (i := 508) (by decide +kernel)) (by decide +kernel)
theorem q463 : (Jvm.Cond.methodLink "PaddleRows" (203 : Nat) ({ cls := "PaddleRows", name := "peakWithPeriod", desc := "(IIII)I" } : Jvm.MethodName)) ∈ WS := inWS (List.mem_of_getElem? (i := 509) (by decide +kernel)) (by decide +kernel)
theorem q465 : (Jvm.Cond.instanceMethod ({ cls := "PaddleRows", name := "peakWithPeriod", desc := "(IIII)I" } : Jvm.MethodName)) ∈ WS := inWS (List.mem_of_getElem? (i := 511) (by decide +kernel)) (by decide +kernel)
theorem q466 : (Jvm.Cond.code ({ cls := "PaddleRows", name := "peakWithPeriod", desc := "(IIII)I" } : Jvm.MethodName) prog_1_method_18_code (7 : Nat) (Option.some Jvm.ClassFile.FieldType.int)) ∈ WS := inWS (List.mem_of_getElem? (i := 512) (by decide +kernel)) (by decide +kernel)
theorem q467 : (Jvm.Cond.methodLink "PaddleRowsLaw" (78 : Nat) ({ cls := "PaddleRows", name := "calmIn", desc := "()I" } : Jvm.MethodName)) ∈ WS := inWS (List.mem_of_getElem? (i := 513) (by decide +kernel)) (by decide +kernel)
theorem q468 : (Jvm.Cond.instanceMethod ({ cls := "PaddleRows", name := "calmIn", desc := "()I" } : Jvm.MethodName)) ∈ WS := inWS (List.mem_of_getElem? (i := 514) (by decide +kernel)) (by decide +kernel)
theorem q469 : (Jvm.Cond.selects "PaddleRows" ({ cls := "PaddleRows", name := "calmIn", desc := "()I" } : Jvm.MethodName) ({ cls := "PaddleRows", name := "calmIn", desc := "()I" } : Jvm.MethodName)) ∈ WS := inWS (List.mem_of_getElem? (i := 515) (by decide +kernel)) (by decide +kernel)
theorem q470 : (Jvm.Cond.code ({ cls := "PaddleRows", name := "calmIn", desc := "()I" } : Jvm.MethodName) prog_1_method_19_code (2 : Nat) (Option.some Jvm.ClassFile.FieldType.int)) ∈ WS := inWS (List.mem_of_getElem? (i := 516) (by decide +kernel)) (by decide +kernel)
theorem q471 : (Jvm.Cond.methodLink "PaddleRows" (210 : Nat) ({ cls := "PaddleRows$Tank", name := "isCalm", desc := "()Z" } : Jvm.MethodName)) ∈ WS := inWS (List.mem_of_getElem? (i := 517) (by decide +kernel)) (by decide +kernel)
theorem q472 : (Jvm.Cond.instanceMethod ({ cls := "PaddleRows$Tank", name := "isCalm", desc := "()Z" } : Jvm.MethodName)) ∈ WS := inWS (List.mem_of_getElem? (i := 518) (by decide +kernel)) (by decide +kernel)
theorem q473 : (Jvm.Cond.selects "PaddleRows$Tank" ({ cls := "PaddleRows$Tank", name := "isCalm", desc := "()Z" } : Jvm.MethodName) ({ cls := "PaddleRows$Tank", name := "isCalm", desc := "()Z" } : Jvm.MethodName)) ∈ WS := inWS (List.mem_of_getElem? (i := 519) (by decide +kernel)) (by decide +kernel)
theorem q474 : (Jvm.Cond.code ({ cls := "PaddleRows$Tank", name := "isCalm", desc := "()Z" } : Jvm.MethodName) prog_6_method_18_code (2 : Nat) (Option.some Jvm.ClassFile.FieldType.boolean)) ∈ WS := inWS (List.mem_of_getElem? (i := 520) (by decide +kernel)) (by decide +kernel)
theorem q475 : (Jvm.Cond.methodLink "PaddleRowsLaw" (85 : Nat) ({ cls := "PaddleRows", name := "put", desc := "(J)I" } : Jvm.MethodName)) ∈ WS := inWS (List.mem_of_getElem? (i := 521) (by decide +kernel)) (by decide +kernel)
theorem q476 : (Jvm.Cond.instanceMethod ({ cls := "PaddleRows", name := "put", desc := "(J)I" } : Jvm.MethodName)) ∈ WS := inWS (List.mem_of_getElem? (i := 522) (by decide +kernel)) (by decide +kernel)
theorem q477 : (Jvm.Cond.selects "PaddleRows" ({ cls := "PaddleRows", name := "put", desc := "(J)I" } : Jvm.MethodName) ({ cls := "PaddleRows", name := "put", desc := "(J)I" } : Jvm.MethodName)) ∈ WS := inWS (List.mem_of_getElem? (i := 523) (by decide +kernel)) (by decide +kernel)
theorem q478 : (Jvm.Cond.code ({ cls := "PaddleRows", name := "put", desc := "(J)I" } : Jvm.MethodName) prog_1_method_20_code (3 : Nat) (Option.some Jvm.ClassFile.FieldType.int)) ∈ WS := inWS (List.mem_of_getElem? (i := 524) (by decide +kernel)) (by decide +kernel)
theorem q479 : (Jvm.Cond.methodLink "PaddleRows" (214 : Nat) ({ cls := "PaddleRows$Pad", name := "append", desc := "(J)I" } : Jvm.MethodName)) ∈ WS := inWS (List.mem_of_getElem? (i := 525) (by decide +kernel)) (by decide +kernel)
theorem q480 : (Jvm.Cond.instanceMethod ({ cls := "PaddleRows$Pad", name := "append", desc := "(J)I" } : Jvm.MethodName)) ∈ WS := inWS (List.mem_of_getElem? (i := 526) (by decide +kernel)) (by decide +kernel)
theorem q481 : (Jvm.Cond.selects "PaddleRows$Pad" ({ cls := "PaddleRows$Pad", name := "append", desc := "(J)I" } : Jvm.MethodName) ({ cls := "PaddleRows$Pad", name := "append", desc := "(J)I" } : Jvm.MethodName)) ∈ WS := inWS (List.mem_of_getElem? (i := 527) (by decide +kernel)) (by decide +kernel)
theorem q482 : (Jvm.Cond.code ({ cls := "PaddleRows$Pad", name := "append", desc := "(J)I" } : Jvm.MethodName) prog_4_method_2_code (7 : Nat) (Option.some Jvm.ClassFile.FieldType.int)) ∈ WS := inWS (List.mem_of_getElem? (i := 528) (by decide +kernel)) (by decide +kernel)
theorem q483 : (Jvm.Cond.methodLink "PaddleRows$Pad" (15 : Nat) ({ cls := "PaddleRows$Pad", name := "countOf", desc := "(J)I" } : Jvm.MethodName)) ∈ WS := inWS (List.mem_of_getElem? (i := 529) (by decide +kernel)) (by decide +kernel)
theorem q484 : (Jvm.Cond.static ({ cls := "PaddleRows$Pad", name := "countOf", desc := "(J)I" } : Jvm.MethodName)) ∈ WS := inWS (List.mem_of_getElem? (i := 530) (by decide +kernel)) (by decide +kernel)
theorem q485 : (Jvm.Cond.code ({ cls := "PaddleRows$Pad", name := "countOf", desc := "(J)I" } : Jvm.MethodName) prog_4_method_3_code (6 : Nat) (Option.some Jvm.ClassFile.FieldType.int)) ∈ WS := inWS (List.mem_of_getElem? (i := 531) (by decide +kernel)) (by decide +kernel)
theorem q486 : (Jvm.Cond.constantLong "PaddleRows$Pad" (23 : Nat) (255 : Int64)) ∈ WS := inWS (List.mem_of_getElem? (i := 532) (by decide +kernel)) (by decide +kernel)
theorem q487 : (Jvm.Cond.methodLink "PaddleRowsLaw" (90 : Nat) ({ cls := "PaddleRows", name := "wipe", desc := "()I" } : Jvm.MethodName)) ∈ WS := inWS (List.mem_of_getElem? (i := 533) (by decide +kernel)) (by decide +kernel)
theorem q488 : (Jvm.Cond.instanceMethod ({ cls := "PaddleRows", name := "wipe", desc := "()I" } : Jvm.MethodName)) ∈ WS := inWS (List.mem_of_getElem? (i := 534) (by decide +kernel)) (by decide +kernel)
theorem q489 : (Jvm.Cond.selects "PaddleRows" ({ cls := "PaddleRows", name := "wipe", desc := "()I" } : Jvm.MethodName) ({ cls := "PaddleRows", name := "wipe", desc := "()I" } : Jvm.MethodName)) ∈ WS := inWS (List.mem_of_getElem? (i := 535) (by decide +kernel)) (by decide +kernel)
theorem q490 : (Jvm.Cond.code ({ cls := "PaddleRows", name := "wipe", desc := "()I" } : Jvm.MethodName) prog_1_method_21_code (2 : Nat) (Option.some Jvm.ClassFile.FieldType.int)) ∈ WS := inWS (List.mem_of_getElem? (i := 536) (by decide +kernel)) (by decide +kernel)
theorem q491 : (Jvm.Cond.methodLink "PaddleRowsLaw" (94 : Nat) ({ cls := "PaddleRows", name := "fault", desc := "()I" } : Jvm.MethodName)) ∈ WS := inWS (List.mem_of_getElem? (i := 537) (by decide +kernel)) (by decide +kernel)
theorem q492 : (Jvm.Cond.instanceMethod ({ cls := "PaddleRows", name := "fault", desc := "()I" } : Jvm.MethodName)) ∈ WS := inWS (List.mem_of_getElem? (i := 538) (by decide +kernel)) (by decide +kernel)
theorem q493 : (Jvm.Cond.selects "PaddleRows" ({ cls := "PaddleRows", name := "fault", desc := "()I" } : Jvm.MethodName) ({ cls := "PaddleRows", name := "fault", desc := "()I" } : Jvm.MethodName)) ∈ WS := inWS (List.mem_of_getElem? (i := 539) (by decide +kernel)) (by decide +kernel)
theorem q494 : (Jvm.Cond.code ({ cls := "PaddleRows", name := "fault", desc := "()I" } : Jvm.MethodName) prog_1_method_22_code (1 : Nat) (Option.some Jvm.ClassFile.FieldType.int)) ∈ WS := inWS (List.mem_of_getElem? (i := 540) (by decide +kernel)) (by decide +kernel)
theorem q495 : (Jvm.Cond.methodLink "PaddleRows" (217 : Nat) ({ cls := "PaddleRows$Pad", name := "findFault", desc := "()I" } : Jvm.MethodName)) ∈ WS := inWS (List.mem_of_getElem? (i := 541) (by decide +kernel)) (by decide +kernel)
theorem q496 : (Jvm.Cond.instanceMethod ({ cls := "PaddleRows$Pad", name := "findFault", desc := "()I" } : Jvm.MethodName)) ∈ WS := inWS (List.mem_of_getElem? (i := 542) (by decide +kernel)) (by decide +kernel)
theorem q497 : (Jvm.Cond.selects "PaddleRows$Pad" ({ cls := "PaddleRows$Pad", name := "findFault", desc := "()I" } : Jvm.MethodName) ({ cls := "PaddleRows$Pad", name := "findFault", desc := "()I" } : Jvm.MethodName)) ∈ WS := inWS (List.mem_of_getElem? (i := 543) (by decide +kernel)) (by decide +kernel)
theorem q498 : (Jvm.Cond.code ({ cls := "PaddleRows$Pad", name := "findFault", desc := "()I" } : Jvm.MethodName) prog_4_method_4_code (2 : Nat) (Option.some Jvm.ClassFile.FieldType.int)) ∈ WS := inWS (List.mem_of_getElem? (i := 544) (by decide +kernel)) (by decide +kernel)
theorem q499 : (Jvm.Cond.methodLink "PaddleRows$Pad" (28 : Nat) ({ cls := "PaddleRows$Pad", name := "readOrder", desc := "()Z" } : Jvm.MethodName)) ∈ WS := inWS (List.mem_of_getElem? (i := 545) (by decide +kernel)) (by decide +kernel)
theorem q500 : (Jvm.Cond.instanceMethod ({ cls := "PaddleRows$Pad", name := "readOrder", desc := "()Z" } : Jvm.MethodName)) ∈ WS := inWS (List.mem_of_getElem? (i := 546) (by decide +kernel)) (by decide +kernel)
theorem q501 : (Jvm.Cond.selects "PaddleRows$Pad" ({ cls := "PaddleRows$Pad", name := "readOrder", desc := "()Z" } : Jvm.MethodName) ({ cls := "PaddleRows$Pad", name := "readOrder", desc := "()Z" } : Jvm.MethodName)) ∈ WS := inWS (List.mem_of_getElem? (i := 547) (by decide +kernel)) (by decide +kernel)
theorem q502 : (Jvm.Cond.code ({ cls := "PaddleRows$Pad", name := "readOrder", desc := "()Z" } : Jvm.MethodName) prog_4_method_5_code (1 : Nat) (Option.some Jvm.ClassFile.FieldType.boolean)) ∈ WS := inWS (List.mem_of_getElem? (i := 548) (by decide +kernel)) (by decide +kernel)
theorem q503 : (Jvm.Cond.methodLink "PaddleRows$Pad" (36 : Nat) ({ cls := "PaddleRows$Pad", name := "signHere", desc := "()I" } : Jvm.MethodName)) ∈ WS := inWS (List.mem_of_getElem? (i := 549) (by decide +kernel)) (by decide +kernel)
theorem q504 : (Jvm.Cond.instanceMethod ({ cls := "PaddleRows$Pad", name := "signHere", desc := "()I" } : Jvm.MethodName)) ∈ WS := inWS (List.mem_of_getElem? (i := 550) (by decide +kernel)) (by decide +kernel)
theorem q505 : (Jvm.Cond.selects "PaddleRows$Pad" ({ cls := "PaddleRows$Pad", name := "signHere", desc := "()I" } : Jvm.MethodName) ({ cls := "PaddleRows$Pad", name := "signHere", desc := "()I" } : Jvm.MethodName)) ∈ WS := inWS (List.mem_of_getElem? (i := 551) (by decide +kernel)) (by decide +kernel)
theorem q506 : (Jvm.Cond.code ({ cls := "PaddleRows$Pad", name := "signHere", desc := "()I" } : Jvm.MethodName) prog_4_method_13_code (1 : Nat) (Option.some Jvm.ClassFile.FieldType.int)) ∈ WS := inWS (List.mem_of_getElem? (i := 552) (by decide +kernel)) (by decide +kernel)
theorem q507 : (Jvm.Cond.methodLink "PaddleRows$Pad" (43 : Nat) ({ cls := "PaddleRows$Pad", name := "readPaddle", desc := "()Z" } : Jvm.MethodName)) ∈ WS := inWS (List.mem_of_getElem? (i := 553) (by decide +kernel)) (by decide +kernel)
theorem q508 : (Jvm.Cond.instanceMethod ({ cls := "PaddleRows$Pad", name := "readPaddle", desc := "()Z" } : Jvm.MethodName)) ∈ WS := inWS (List.mem_of_getElem? (i := 554) (by decide +kernel)) (by decide +kernel)
theorem q509 : (Jvm.Cond.selects "PaddleRows$Pad" ({ cls := "PaddleRows$Pad", name := "readPaddle", desc := "()Z" } : Jvm.MethodName) ({ cls := "PaddleRows$Pad", name := "readPaddle", desc := "()Z" } : Jvm.MethodName)) ∈ WS := inWS (List.mem_of_getElem? (i := 555) (by decide +kernel)) (by decide +kernel)
theorem q510 : (Jvm.Cond.code ({ cls := "PaddleRows$Pad", name := "readPaddle", desc := "()Z" } : Jvm.MethodName) prog_4_method_6_code (1 : Nat) (Option.some Jvm.ClassFile.FieldType.boolean)) ∈ WS := inWS (List.mem_of_getElem? (i := 556) (by decide +kernel)) (by decide +kernel)
theorem q511 : (Jvm.Cond.methodLink "PaddleRows$Pad" (46 : Nat) ({ cls := "PaddleRows$Pad", name := "readTarget", desc := "()Z" } : Jvm.MethodName)) ∈ WS := inWS (List.mem_of_getElem? (i := 557) (by decide +kernel)) (by decide +kernel)
theorem q512 : (Jvm.Cond.instanceMethod ({ cls := "PaddleRows$Pad", name := "readTarget", desc := "()Z" } : Jvm.MethodName)) ∈ WS := inWS (List.mem_of_getElem? (i := 558) (by decide +kernel)) (by decide +kernel)
theorem q513 : (Jvm.Cond.selects "PaddleRows$Pad" ({ cls := "PaddleRows$Pad", name := "readTarget", desc := "()Z" } : Jvm.MethodName) ({ cls := "PaddleRows$Pad", name := "readTarget", desc := "()Z" } : Jvm.MethodName)) ∈ WS := inWS (List.mem_of_getElem? (i := 559) (by decide +kernel)) (by decide +kernel)
theorem q514 : (Jvm.Cond.code ({ cls := "PaddleRows$Pad", name := "readTarget", desc := "()Z" } : Jvm.MethodName) prog_4_method_7_code (1 : Nat) (Option.some Jvm.ClassFile.FieldType.boolean)) ∈ WS := inWS (List.mem_of_getElem? (i := 560) (by decide +kernel)) (by decide +kernel)
theorem q515 : (Jvm.Cond.methodLink "PaddleRows$Pad" (55 : Nat) ({ cls := "PaddleRows$Pad", name := "readNumber", desc := "()I" } : Jvm.MethodName)) ∈ WS := inWS (List.mem_of_getElem? (i := 561) (by decide +kernel)) (by decide +kernel)
theorem q516 : (Jvm.Cond.instanceMethod ({ cls := "PaddleRows$Pad", name := "readNumber", desc := "()I" } : Jvm.MethodName)) ∈ WS := inWS (List.mem_of_getElem? (i := 562) (by decide +kernel)) (by decide +kernel)
theorem q517 : (Jvm.Cond.selects "PaddleRows$Pad" ({ cls := "PaddleRows$Pad", name := "readNumber", desc := "()I" } : Jvm.MethodName) ({ cls := "PaddleRows$Pad", name := "readNumber", desc := "()I" } : Jvm.MethodName)) ∈ WS := inWS (List.mem_of_getElem? (i := 563) (by decide +kernel)) (by decide +kernel)
theorem q518 : (Jvm.Cond.code ({ cls := "PaddleRows$Pad", name := "readNumber", desc := "()I" } : Jvm.MethodName) prog_4_method_10_code (3 : Nat) (Option.some Jvm.ClassFile.FieldType.int)) ∈ WS := inWS (List.mem_of_getElem? (i := 564) (by decide +kernel)) (by decide +kernel)
theorem q519 : (Jvm.Cond.methodLink "PaddleRows$Pad" (73 : Nat) ({ cls := "PaddleRows$Pad", name := "isDigitHere", desc := "()Z" } : Jvm.MethodName)) ∈ WS := inWS (List.mem_of_getElem? (i := 565) (by decide +kernel)) (by decide +kernel)
theorem q520 : (Jvm.Cond.instanceMethod ({ cls := "PaddleRows$Pad", name := "isDigitHere", desc := "()Z" } : Jvm.MethodName)) ∈ WS := inWS (List.mem_of_getElem? (i := 566) (by decide +kernel)) (by decide +kernel)
theorem q521 : (Jvm.Cond.selects "PaddleRows$Pad" ({ cls := "PaddleRows$Pad", name := "isDigitHere", desc := "()Z" } : Jvm.MethodName) ({ cls := "PaddleRows$Pad", name := "isDigitHere", desc := "()Z" } : Jvm.MethodName)) ∈ WS := inWS (List.mem_of_getElem? (i := 567) (by decide +kernel)) (by decide +kernel)
theorem q522 : (Jvm.Cond.code ({ cls := "PaddleRows$Pad", name := "isDigitHere", desc := "()Z" } : Jvm.MethodName) prog_4_method_11_code (1 : Nat) (Option.some Jvm.ClassFile.FieldType.boolean)) ∈ WS := inWS (List.mem_of_getElem? (i := 568) (by decide +kernel)) (by decide +kernel)
theorem q523 : (Jvm.Cond.methodLink "PaddleRows$Pad" (52 : Nat) ({ cls := "PaddleRows$Pad", name := "readSort", desc := "()Z" } : Jvm.MethodName)) ∈ WS := inWS (List.mem_of_getElem? (i := 569) (by decide +kernel)) (by decide +kernel)
theorem q524 : (Jvm.Cond.instanceMethod ({ cls := "PaddleRows$Pad", name := "readSort", desc := "()Z" } : Jvm.MethodName)) ∈ WS := inWS (List.mem_of_getElem? (i := 570) (by decide +kernel)) (by decide +kernel)
theorem q525 : (Jvm.Cond.selects "PaddleRows$Pad" ({ cls := "PaddleRows$Pad", name := "readSort", desc := "()Z" } : Jvm.MethodName) ({ cls := "PaddleRows$Pad", name := "readSort", desc := "()Z" } : Jvm.MethodName)) ∈ WS := inWS (List.mem_of_getElem? (i := 571) (by decide +kernel)) (by decide +kernel)
theorem q526 : (Jvm.Cond.code ({ cls := "PaddleRows$Pad", name := "readSort", desc := "()Z" } : Jvm.MethodName) prog_4_method_8_code (1 : Nat) (Option.some Jvm.ClassFile.FieldType.boolean)) ∈ WS := inWS (List.mem_of_getElem? (i := 572) (by decide +kernel)) (by decide +kernel)
theorem q527 : (Jvm.Cond.methodLink "PaddleRows$Pad" (49 : Nat) ({ cls := "PaddleRows$Pad", name := "readValue", desc := "()Z" } : Jvm.MethodName)) ∈ WS := inWS (List.mem_of_getElem? (i := 573) (by decide +kernel)) (by decide +kernel)
theorem q528 : (Jvm.Cond.instanceMethod ({ cls := "PaddleRows$Pad", name := "readValue", desc := "()Z" } : Jvm.MethodName)) ∈ WS := inWS (List.mem_of_getElem? (i := 574) (by decide +kernel)) (by decide +kernel)
theorem q529 : (Jvm.Cond.selects "PaddleRows$Pad" ({ cls := "PaddleRows$Pad", name := "readValue", desc := "()Z" } : Jvm.MethodName) ({ cls := "PaddleRows$Pad", name := "readValue", desc := "()Z" } : Jvm.MethodName)) ∈ WS := inWS (List.mem_of_getElem? (i := 575) (by decide +kernel)) (by decide +kernel)
theorem q530 : (Jvm.Cond.code ({ cls := "PaddleRows$Pad", name := "readValue", desc := "()Z" } : Jvm.MethodName) prog_4_method_9_code (3 : Nat) (Option.some Jvm.ClassFile.FieldType.boolean)) ∈ WS := inWS (List.mem_of_getElem? (i := 576) (by decide +kernel)) (by decide +kernel)
theorem q531 : (Jvm.Cond.methodLink "PaddleRows$Pad" (32 : Nat) ({ cls := "PaddleRows$Pad", name := "accept", desc := "(C)Z" } : Jvm.MethodName)) ∈ WS := inWS (List.mem_of_getElem? (i := 577) (by decide +kernel)) (by decide +kernel)
theorem q532 : (Jvm.Cond.instanceMethod ({ cls := "PaddleRows$Pad", name := "accept", desc := "(C)Z" } : Jvm.MethodName)) ∈ WS := inWS (List.mem_of_getElem? (i := 578) (by decide +kernel)) (by decide +kernel)
theorem q533 : (Jvm.Cond.selects "PaddleRows$Pad" ({ cls := "PaddleRows$Pad", name := "accept", desc := "(C)Z" } : Jvm.MethodName) ({ cls := "PaddleRows$Pad", name := "accept", desc := "(C)Z" } : Jvm.MethodName)) ∈ WS := inWS (List.mem_of_getElem? (i := 579) (by decide +kernel)) (by decide +kernel)
theorem q534 : (Jvm.Cond.code ({ cls := "PaddleRows$Pad", name := "accept", desc := "(C)Z" } : Jvm.MethodName) prog_4_method_12_code (2 : Nat) (Option.some Jvm.ClassFile.FieldType.boolean)) ∈ WS := inWS (List.mem_of_getElem? (i := 580) (by decide +kernel)) (by decide +kernel)
theorem q535 : (Jvm.Cond.methodLink "PaddleRowsLaw" (98 : Nat) ({ cls := "PaddleRows", name := "carryOut", desc := "()I" } : Jvm.MethodName)) ∈ WS := inWS (List.mem_of_getElem? (i := 581) (by decide +kernel)) (by decide +kernel)
theorem q536 : (Jvm.Cond.instanceMethod ({ cls := "PaddleRows", name := "carryOut", desc := "()I" } : Jvm.MethodName)) ∈ WS := inWS (List.mem_of_getElem? (i := 582) (by decide +kernel)) (by decide +kernel)
theorem q537 : (Jvm.Cond.selects "PaddleRows" ({ cls := "PaddleRows", name := "carryOut", desc := "()I" } : Jvm.MethodName) ({ cls := "PaddleRows", name := "carryOut", desc := "()I" } : Jvm.MethodName)) ∈ WS := inWS (List.mem_of_getElem? (i := 583) (by decide +kernel)) (by decide +kernel)
theorem q538 : (Jvm.Cond.code ({ cls := "PaddleRows", name := "carryOut", desc := "()I" } : Jvm.MethodName) prog_1_method_23_code (2 : Nat) (Option.some Jvm.ClassFile.FieldType.int)) ∈ WS := inWS (List.mem_of_getElem? (i := 584) (by decide +kernel)) (by decide +kernel)
theorem q539 : (Jvm.Cond.methodLink "PaddleRows" (220 : Nat) ({ cls := "PaddleRows", name := "carryOrders", desc := "()I" } : Jvm.MethodName)) ∈ WS := inWS (List.mem_of_getElem? (i := 585) (by decide +kernel)) (by decide +kernel)
theorem q541 : (Jvm.Cond.instanceMethod ({ cls := "PaddleRows", name := "carryOrders", desc := "()I" } : Jvm.MethodName)) ∈ WS := inWS (List.mem_of_getElem? (i := 587) (by decide +kernel)) (by decide +kernel)
theorem q542 : (Jvm.Cond.code ({ cls := "PaddleRows", name := "carryOrders", desc := "()I" } : Jvm.MethodName) prog_1_method_24_code (2 : Nat) (Option.some Jvm.ClassFile.FieldType.int)) ∈ WS := inWS (List.mem_of_getElem? (i := 588) (by decide +kernel)) (by decide +kernel)
theorem q543 : (Jvm.Cond.methodLink "PaddleRows" (226 : Nat) ({ cls := "PaddleRows$Pad", name := "readOrder", desc := "()Z" } : Jvm.MethodName)) ∈ WS := inWS (List.mem_of_getElem? (i := 589) (by decide +kernel)) (by decide +kernel)
theorem q544 : (Jvm.Cond.methodLink "PaddleRows" (229 : Nat) ({ cls := "PaddleRows", name := "carryOneOrder", desc := "()I" } : Jvm.MethodName)) ∈ WS := inWS (List.mem_of_getElem? (i := 590) (by decide +kernel)) (by decide +kernel)
theorem q546 : (Jvm.Cond.instanceMethod ({ cls := "PaddleRows", name := "carryOneOrder", desc := "()I" } : Jvm.MethodName)) ∈ WS := inWS (List.mem_of_getElem? (i := 592) (by decide +kernel)) (by decide +kernel)
theorem q547 : (Jvm.Cond.code ({ cls := "PaddleRows", name := "carryOneOrder", desc := "()I" } : Jvm.MethodName) prog_1_method_25_code (1 : Nat) (Option.some Jvm.ClassFile.FieldType.int)) ∈ WS := inWS (List.mem_of_getElem? (i := 593) (by decide +kernel)) (by decide +kernel)
theorem q548 : (Jvm.Cond.methodLink "PaddleRows" (232 : Nat) ({ cls := "PaddleRows$Pad", name := "accept", desc := "(C)Z" } : Jvm.MethodName)) ∈ WS := inWS (List.mem_of_getElem? (i := 594) (by decide +kernel)) (by decide +kernel)
theorem q549 : (Jvm.Cond.methodLink "PaddleRowsLaw" (102 : Nat) ({ cls := "PaddleRows", name := "undo", desc := "()I" } : Jvm.MethodName)) ∈ WS := inWS (List.mem_of_getElem? (i := 595) (by decide +kernel)) (by decide +kernel)
theorem q550 : (Jvm.Cond.instanceMethod ({ cls := "PaddleRows", name := "undo", desc := "()I" } : Jvm.MethodName)) ∈ WS := inWS (List.mem_of_getElem? (i := 596) (by decide +kernel)) (by decide +kernel)
theorem q551 : (Jvm.Cond.selects "PaddleRows" ({ cls := "PaddleRows", name := "undo", desc := "()I" } : Jvm.MethodName) ({ cls := "PaddleRows", name := "undo", desc := "()I" } : Jvm.MethodName)) ∈ WS := inWS (List.mem_of_getElem? (i := 597) (by decide +kernel)) (by decide +kernel)
theorem q552 : (Jvm.Cond.code ({ cls := "PaddleRows", name := "undo", desc := "()I" } : Jvm.MethodName) prog_1_method_26_code (1 : Nat) (Option.some Jvm.ClassFile.FieldType.int)) ∈ WS := inWS (List.mem_of_getElem? (i := 598) (by decide +kernel)) (by decide +kernel)
theorem q553 : (Jvm.Cond.methodLink "PaddleRows" (248 : Nat) ({ cls := "PaddleRows$History", name := "popInto", desc := "(LPaddleRows$Tank;)V" } : Jvm.MethodName)) ∈ WS := inWS (List.mem_of_getElem? (i := 599) (by decide +kernel)) (by decide +kernel)
theorem q554 : (Jvm.Cond.instanceMethod ({ cls := "PaddleRows$History", name := "popInto", desc := "(LPaddleRows$Tank;)V" } : Jvm.MethodName)) ∈ WS := inWS (List.mem_of_getElem? (i := 600) (by decide +kernel)) (by decide +kernel)
theorem q555 : (Jvm.Cond.selects "PaddleRows$History" ({ cls := "PaddleRows$History", name := "popInto", desc := "(LPaddleRows$Tank;)V" } : Jvm.MethodName) ({ cls := "PaddleRows$History", name := "popInto", desc := "(LPaddleRows$Tank;)V" } : Jvm.MethodName)) ∈ WS := inWS (List.mem_of_getElem? (i := 601) (by decide +kernel)) (by decide +kernel)
theorem q556 : (Jvm.Cond.code ({ cls := "PaddleRows$History", name := "popInto", desc := "(LPaddleRows$Tank;)V" } : Jvm.MethodName) prog_3_method_4_code (2 : Nat) (Option.none : Option Jvm.ClassFile.FieldType)) ∈ WS := inWS (List.mem_of_getElem? (i := 602) (by decide +kernel)) (by decide +kernel)
theorem q557 : (Jvm.Cond.methodLink "PaddleRowsLaw" (106 : Nat) ({ cls := "PaddleRows", name := "save", desc := "(I)I" } : Jvm.MethodName)) ∈ WS := inWS (List.mem_of_getElem? (i := 603) (by decide +kernel)) (by decide +kernel)
theorem q558 : (Jvm.Cond.instanceMethod ({ cls := "PaddleRows", name := "save", desc := "(I)I" } : Jvm.MethodName)) ∈ WS := inWS (List.mem_of_getElem? (i := 604) (by decide +kernel)) (by decide +kernel)
theorem q559 : (Jvm.Cond.selects "PaddleRows" ({ cls := "PaddleRows", name := "save", desc := "(I)I" } : Jvm.MethodName) ({ cls := "PaddleRows", name := "save", desc := "(I)I" } : Jvm.MethodName)) ∈ WS := inWS (List.mem_of_getElem? (i := 605) (by decide +kernel)) (by decide +kernel)
theorem q560 : (Jvm.Cond.code ({ cls := "PaddleRows", name := "save", desc := "(I)I" } : Jvm.MethodName) prog_1_method_27_code (2 : Nat) (Option.some Jvm.ClassFile.FieldType.int)) ∈ WS := inWS (List.mem_of_getElem? (i := 606) (by decide +kernel)) (by decide +kernel)
theorem q561 : (Jvm.Cond.methodLink "PaddleRowsLaw" (110 : Nat) ({ cls := "PaddleRows", name := "restore", desc := "(I)I" } : Jvm.MethodName)) ∈ WS := inWS (List.mem_of_getElem? (i := 607) (by decide +kernel)) (by decide +kernel)
theorem q562 : (Jvm.Cond.instanceMethod ({ cls := "PaddleRows", name := "restore", desc := "(I)I" } : Jvm.MethodName)) ∈ WS := inWS (List.mem_of_getElem? (i := 608) (by decide +kernel)) (by decide +kernel)
theorem q563 : (Jvm.Cond.selects "PaddleRows" ({ cls := "PaddleRows", name := "restore", desc := "(I)I" } : Jvm.MethodName) ({ cls := "PaddleRows", name := "restore", desc := "(I)I" } : Jvm.MethodName)) ∈ WS := inWS (List.mem_of_getElem? (i := 609) (by decide +kernel)) (by decide +kernel)
theorem q564 : (Jvm.Cond.code ({ cls := "PaddleRows", name := "restore", desc := "(I)I" } : Jvm.MethodName) prog_1_method_28_code (2 : Nat) (Option.some Jvm.ClassFile.FieldType.int)) ∈ WS := inWS (List.mem_of_getElem? (i := 610) (by decide +kernel)) (by decide +kernel)
theorem q565 : (Jvm.Cond.classLink "PaddleRowsLaw" (10 : Nat) "PaddleRowsModel") ∈ WS := inWS (List.mem_of_getElem? (i := 611) (by decide +kernel)) (by decide +kernel)
theorem q566 : (Jvm.Cond.instantiable "PaddleRowsModel" (13 : Nat)) ∈ WS := inWS (List.mem_of_getElem? (i := 612) (by decide +kernel)) (by decide +kernel)
theorem q567 : (Jvm.Cond.methodLink "PaddleRowsLaw" (12 : Nat) ({ cls := "PaddleRowsModel", name := "<init>", desc := "()V" } : Jvm.MethodName)) ∈ WS := inWS (List.mem_of_getElem? (i := 613) (by decide +kernel)) (by decide +kernel)
theorem q568 : (Jvm.Cond.instanceMethod ({ cls := "PaddleRowsModel", name := "<init>", desc := "()V" } : Jvm.MethodName)) ∈ WS := inWS (List.mem_of_getElem? (i := 614) (by decide +kernel)) (by decide +kernel)
theorem q569 : (Jvm.Cond.code ({ cls := "PaddleRowsModel", name := "<init>", desc := "()V" } : Jvm.MethodName) prog_8_method_1_code (1 : Nat) (Option.none : Option Jvm.ClassFile.FieldType)) ∈ WS := inWS (List.mem_of_getElem? (i := 615) (by decide +kernel)) (by decide +kernel)
theorem q570 : (Jvm.Cond.methodLink "PaddleRowsModel" (1 : Nat) ({ cls := "java/lang/Object", name := "<init>", desc := "()V" } : Jvm.MethodName)) ∈ WS := inWS (List.mem_of_getElem? (i := 616) (by decide +kernel)) (by decide +kernel)
theorem q571 : (Jvm.Cond.fieldLink "PaddleRowsModel" (7 : Nat) "PaddleRowsModel" "state" "[I") ∈ WS := inWS (List.mem_of_getElem? (i := 617) (by decide +kernel)) (by decide +kernel)
theorem q572 : (Jvm.Cond.fieldLink "PaddleRowsModel" (13 : Nat) "PaddleRowsModel" "kept" "[I") ∈ WS := inWS (List.mem_of_getElem? (i := 618) (by decide +kernel)) (by decide +kernel)
theorem q573 : (Jvm.Cond.fieldLink "PaddleRowsModel" (16 : Nat) "PaddleRowsModel" "history" "[I") ∈ WS := inWS (List.mem_of_getElem? (i := 619) (by decide +kernel)) (by decide +kernel)
theorem q574 : (Jvm.Cond.fieldLink "PaddleRowsModel" (31 : Nat) "PaddleRowsModel" "recorded" "I") ∈ WS := inWS (List.mem_of_getElem? (i := 620) (by decide +kernel)) (by decide +kernel)
theorem q575 : (Jvm.Cond.fieldLink "PaddleRowsModel" (19 : Nat) "PaddleRowsModel" "slots" "[I") ∈ WS := inWS (List.mem_of_getElem? (i := 621) (by decide +kernel)) (by decide +kernel)
theorem q576 : (Jvm.Cond.fieldLink "PaddleRowsModel" (22 : Nat) "PaddleRowsModel" "isSaved" "[I") ∈ WS := inWS (List.mem_of_getElem? (i := 622) (by decide +kernel)) (by decide +kernel)
theorem q577 : (Jvm.Cond.fieldLink "PaddleRowsModel" (25 : Nat) "PaddleRowsModel" "pad" "[I") ∈ WS := inWS (List.mem_of_getElem? (i := 623) (by decide +kernel)) (by decide +kernel)
theorem q578 : (Jvm.Cond.fieldLink "PaddleRowsModel" (162 : Nat) "PaddleRowsModel" "padLength" "I") ∈ WS := inWS (List.mem_of_getElem? (i := 624) (by decide +kernel)) (by decide +kernel)
theorem q579 : (Jvm.Cond.fieldLink "PaddleRowsModel" (167 : Nat) "PaddleRowsModel" "at" "I") ∈ WS := inWS (List.mem_of_getElem? (i := 625) (by decide +kernel)) (by decide +kernel)
theorem q580 : (Jvm.Cond.fieldLink "PaddleRowsModel" (195 : Nat) "PaddleRowsModel" "letter" "I") ∈ WS := inWS (List.mem_of_getElem? (i := 626) (by decide +kernel)) (by decide +kernel)
theorem q581 : (Jvm.Cond.fieldLink "PaddleRowsModel" (186 : Nat) "PaddleRowsModel" "sortTold" "I") ∈ WS := inWS (List.mem_of_getElem? (i := 627) (by decide +kernel)) (by decide +kernel)
theorem q582 : (Jvm.Cond.fieldLink "PaddleRowsModel" (28 : Nat) "PaddleRowsModel" "numbers" "[I") ∈ WS := inWS (List.mem_of_getElem? (i := 628) (by decide +kernel)) (by decide +kernel)
theorem q583 : (Jvm.Cond.fieldLink "PaddleRowsModel" (177 : Nat) "PaddleRowsModel" "numbersMany" "I") ∈ WS := inWS (List.mem_of_getElem? (i := 629) (by decide +kernel)) (by decide +kernel)
theorem q584 : (Jvm.Cond.laysFinal "PaddleRowsModel" "PaddleRowsModel" "state" "[I") ∈ WS := inWS (List.mem_of_getElem? (i := 630) (by decide +kernel)) (by decide +kernel)
theorem q586 : (Jvm.Cond.laysFinal "PaddleRowsModel" "PaddleRowsModel" "kept" "[I") ∈ WS := inWS (List.mem_of_getElem? (i := 632) (by decide +kernel)) (by decide +kernel)
theorem q588 : (Jvm.Cond.laysFinal "PaddleRowsModel" "PaddleRowsModel" "history" "[I") ∈ WS := inWS (List.mem_of_getElem? (i := 634) (by decide +kernel)) (by decide +kernel)
theorem q590 : (Jvm.Cond.lays "PaddleRowsModel" "PaddleRowsModel" "recorded" "I") ∈ WS := inWS (List.mem_of_getElem? (i := 636) (by decide +kernel)) (by decide +kernel)
theorem q592 : (Jvm.Cond.laysFinal "PaddleRowsModel" "PaddleRowsModel" "slots" "[I") ∈ WS := inWS (List.mem_of_getElem? (i := 638) (by decide +kernel)) (by decide +kernel)
theorem q594 : (Jvm.Cond.laysFinal "PaddleRowsModel" "PaddleRowsModel" "isSaved" "[I") ∈ WS := inWS (List.mem_of_getElem? (i := 640) (by decide +kernel)) (by decide +kernel)
theorem q596 : (Jvm.Cond.laysFinal "PaddleRowsModel" "PaddleRowsModel" "pad" "[I") ∈ WS := inWS (List.mem_of_getElem? (i := 642) (by decide +kernel)) (by decide +kernel)
theorem q598 : (Jvm.Cond.lays "PaddleRowsModel" "PaddleRowsModel" "padLength" "I") ∈ WS := inWS (List.mem_of_getElem? (i := 644) (by decide +kernel)) (by decide +kernel)
theorem q600 : (Jvm.Cond.lays "PaddleRowsModel" "PaddleRowsModel" "at" "I") ∈ WS := inWS (List.mem_of_getElem? (i := 646) (by decide +kernel)) (by decide +kernel)
theorem q602 : (Jvm.Cond.lays "PaddleRowsModel" "PaddleRowsModel" "letter" "I") ∈ WS := inWS (List.mem_of_getElem? (i := 648) (by decide +kernel)) (by decide +kernel)
theorem q604 : (Jvm.Cond.lays "PaddleRowsModel" "PaddleRowsModel" "sortTold" "I") ∈ WS := inWS (List.mem_of_getElem? (i := 650) (by decide +kernel)) (by decide +kernel)
theorem q606 : (Jvm.Cond.laysFinal "PaddleRowsModel" "PaddleRowsModel" "numbers" "[I") ∈ WS := inWS (List.mem_of_getElem? (i := 652) (by decide +kernel)) (by decide +kernel)
theorem q608 : (Jvm.Cond.lays "PaddleRowsModel" "PaddleRowsModel" "numbersMany" "I") ∈ WS := inWS (List.mem_of_getElem? (i := 654) (by decide +kernel)) (by decide +kernel)
theorem q611 : (Jvm.Cond.methodLink "PaddleRowsLaw" (17 : Nat) ({ cls := "PaddleRowsModel", name := "set", desc := "(II)I" } : Jvm.MethodName)) ∈ WS := inWS (List.mem_of_getElem? (i := 657) (by decide +kernel)) (by decide +kernel)
theorem q612 : (Jvm.Cond.instanceMethod ({ cls := "PaddleRowsModel", name := "set", desc := "(II)I" } : Jvm.MethodName)) ∈ WS := inWS (List.mem_of_getElem? (i := 658) (by decide +kernel)) (by decide +kernel)
theorem q613 : (Jvm.Cond.selects "PaddleRowsModel" ({ cls := "PaddleRowsModel", name := "set", desc := "(II)I" } : Jvm.MethodName) ({ cls := "PaddleRowsModel", name := "set", desc := "(II)I" } : Jvm.MethodName)) ∈ WS := inWS (List.mem_of_getElem? (i := 659) (by decide +kernel)) (by decide +kernel)
theorem q614 : (Jvm.Cond.code ({ cls := "PaddleRowsModel", name := "set", desc := "(II)I" } : Jvm.MethodName) prog_8_method_22_code (4 : Nat) (Option.some Jvm.ClassFile.FieldType.int)) ∈ WS := inWS (List.mem_of_getElem? (i := 660) (by decide +kernel)) (by decide +kernel)
theorem q615 : (Jvm.Cond.methodLink "PaddleRowsModel" (80 : Nat) ({ cls := "PaddleRowsModel", name := "isValue", desc := "(II)Z" } : Jvm.MethodName)) ∈ WS := inWS (List.mem_of_getElem? (i := 661) (by decide +kernel)) (by decide +kernel)
theorem q616 : (Jvm.Cond.static ({ cls := "PaddleRowsModel", name := "isValue", desc := "(II)Z" } : Jvm.MethodName)) ∈ WS := inWS (List.mem_of_getElem? (i := 662) (by decide +kernel)) (by decide +kernel)
theorem q617 : (Jvm.Cond.code ({ cls := "PaddleRowsModel", name := "isValue", desc := "(II)Z" } : Jvm.MethodName) prog_8_method_21_code (2 : Nat) (Option.some Jvm.ClassFile.FieldType.boolean)) ∈ WS := inWS (List.mem_of_getElem? (i := 663) (by decide +kernel)) (by decide +kernel)
theorem q618 : (Jvm.Cond.methodLink "PaddleRowsModel" (39 : Nat) ({ cls := "PaddleRowsModel", name := "within", desc := "(III)Z" } : Jvm.MethodName)) ∈ WS := inWS (List.mem_of_getElem? (i := 664) (by decide +kernel)) (by decide +kernel)
theorem q619 : (Jvm.Cond.static ({ cls := "PaddleRowsModel", name := "within", desc := "(III)Z" } : Jvm.MethodName)) ∈ WS := inWS (List.mem_of_getElem? (i := 665) (by decide +kernel)) (by decide +kernel)
theorem q620 : (Jvm.Cond.code ({ cls := "PaddleRowsModel", name := "within", desc := "(III)Z" } : Jvm.MethodName) prog_8_method_4_code (3 : Nat) (Option.some Jvm.ClassFile.FieldType.boolean)) ∈ WS := inWS (List.mem_of_getElem? (i := 666) (by decide +kernel)) (by decide +kernel)
theorem q621 : (Jvm.Cond.methodLink "PaddleRowsModel" (84 : Nat) ({ cls := "PaddleRowsModel", name := "record", desc := "()V" } : Jvm.MethodName)) ∈ WS := inWS (List.mem_of_getElem? (i := 667) (by decide +kernel)) (by decide +kernel)
theorem q623 : (Jvm.Cond.instanceMethod ({ cls := "PaddleRowsModel", name := "record", desc := "()V" } : Jvm.MethodName)) ∈ WS := inWS (List.mem_of_getElem? (i := 669) (by decide +kernel)) (by decide +kernel)
theorem q624 : (Jvm.Cond.code ({ cls := "PaddleRowsModel", name := "record", desc := "()V" } : Jvm.MethodName) prog_8_method_7_code (2 : Nat) (Option.none : Option Jvm.ClassFile.FieldType)) ∈ WS := inWS (List.mem_of_getElem? (i := 670) (by decide +kernel)) (by decide +kernel)
theorem q625 : (Jvm.Cond.methodLink "PaddleRowsModel" (35 : Nat) ({ cls := "PaddleRowsModel", name := "moves", desc := "([II[II)V" } : Jvm.MethodName)) ∈ WS := inWS (List.mem_of_getElem? (i := 671) (by decide +kernel)) (by decide +kernel)
theorem q626 : (Jvm.Cond.static ({ cls := "PaddleRowsModel", name := "moves", desc := "([II[II)V" } : Jvm.MethodName)) ∈ WS := inWS (List.mem_of_getElem? (i := 672) (by decide +kernel)) (by decide +kernel)
theorem q627 : (Jvm.Cond.code ({ cls := "PaddleRowsModel", name := "moves", desc := "([II[II)V" } : Jvm.MethodName) prog_8_method_3_code (5 : Nat) (Option.none : Option Jvm.ClassFile.FieldType)) ∈ WS := inWS (List.mem_of_getElem? (i := 673) (by decide +kernel)) (by decide +kernel)
theorem q628 : (Jvm.Cond.methodLink "PaddleRowsLaw" (22 : Nat) ({ cls := "PaddleRowsModel", name := "paddle", desc := "(IIIII)I" } : Jvm.MethodName)) ∈ WS := inWS (List.mem_of_getElem? (i := 674) (by decide +kernel)) (by decide +kernel)
theorem q629 : (Jvm.Cond.instanceMethod ({ cls := "PaddleRowsModel", name := "paddle", desc := "(IIIII)I" } : Jvm.MethodName)) ∈ WS := inWS (List.mem_of_getElem? (i := 675) (by decide +kernel)) (by decide +kernel)
theorem q630 : (Jvm.Cond.selects "PaddleRowsModel" ({ cls := "PaddleRowsModel", name := "paddle", desc := "(IIIII)I" } : Jvm.MethodName) ({ cls := "PaddleRowsModel", name := "paddle", desc := "(IIIII)I" } : Jvm.MethodName)) ∈ WS := inWS (List.mem_of_getElem? (i := 676) (by decide +kernel)) (by decide +kernel)
theorem q631 : (Jvm.Cond.code ({ cls := "PaddleRowsModel", name := "paddle", desc := "(IIIII)I" } : Jvm.MethodName) prog_8_method_26_code (7 : Nat) (Option.some Jvm.ClassFile.FieldType.int)) ∈ WS := inWS (List.mem_of_getElem? (i := 677) (by decide +kernel)) (by decide +kernel)
theorem q632 : (Jvm.Cond.methodLink "PaddleRowsModel" (94 : Nat) ({ cls := "PaddleRowsModel", name := "whyNoPaddle", desc := "(IIIII)I" } : Jvm.MethodName)) ∈ WS := inWS (List.mem_of_getElem? (i := 678) (by decide +kernel)) (by decide +kernel)
theorem q634 : (Jvm.Cond.instanceMethod ({ cls := "PaddleRowsModel", name := "whyNoPaddle", desc := "(IIIII)I" } : Jvm.MethodName)) ∈ WS := inWS (List.mem_of_getElem? (i := 680) (by decide +kernel)) (by decide +kernel)
theorem q635 : (Jvm.Cond.code ({ cls := "PaddleRowsModel", name := "whyNoPaddle", desc := "(IIIII)I" } : Jvm.MethodName) prog_8_method_23_code (6 : Nat) (Option.some Jvm.ClassFile.FieldType.int)) ∈ WS := inWS (List.mem_of_getElem? (i := 681) (by decide +kernel)) (by decide +kernel)
theorem q636 : (Jvm.Cond.methodLink "PaddleRowsModel" (87 : Nat) ({ cls := "PaddleRowsModel", name := "rankIn", desc := "(I)I" } : Jvm.MethodName)) ∈ WS := inWS (List.mem_of_getElem? (i := 682) (by decide +kernel)) (by decide +kernel)
theorem q638 : (Jvm.Cond.instanceMethod ({ cls := "PaddleRowsModel", name := "rankIn", desc := "(I)I" } : Jvm.MethodName)) ∈ WS := inWS (List.mem_of_getElem? (i := 684) (by decide +kernel)) (by decide +kernel)
theorem q639 : (Jvm.Cond.code ({ cls := "PaddleRowsModel", name := "rankIn", desc := "(I)I" } : Jvm.MethodName) prog_8_method_12_code (4 : Nat) (Option.some Jvm.ClassFile.FieldType.int)) ∈ WS := inWS (List.mem_of_getElem? (i := 685) (by decide +kernel)) (by decide +kernel)
theorem q640 : (Jvm.Cond.methodLink "PaddleRowsModel" (43 : Nat) ({ cls := "PaddleRowsModel", name := "paddlePart", desc := "(II)I" } : Jvm.MethodName)) ∈ WS := inWS (List.mem_of_getElem? (i := 686) (by decide +kernel)) (by decide +kernel)
theorem q642 : (Jvm.Cond.instanceMethod ({ cls := "PaddleRowsModel", name := "paddlePart", desc := "(II)I" } : Jvm.MethodName)) ∈ WS := inWS (List.mem_of_getElem? (i := 688) (by decide +kernel)) (by decide +kernel)
theorem q643 : (Jvm.Cond.code ({ cls := "PaddleRowsModel", name := "paddlePart", desc := "(II)I" } : Jvm.MethodName) prog_8_method_10_code (3 : Nat) (Option.some Jvm.ClassFile.FieldType.int)) ∈ WS := inWS (List.mem_of_getElem? (i := 689) (by decide +kernel)) (by decide +kernel)
theorem q644 : (Jvm.Cond.methodLink "PaddleRowsModel" (98 : Nat) ({ cls := "PaddleRowsModel", name := "puts", desc := "(IIIII)V" } : Jvm.MethodName)) ∈ WS := inWS (List.mem_of_getElem? (i := 690) (by decide +kernel)) (by decide +kernel)
theorem q646 : (Jvm.Cond.instanceMethod ({ cls := "PaddleRowsModel", name := "puts", desc := "(IIIII)V" } : Jvm.MethodName)) ∈ WS := inWS (List.mem_of_getElem? (i := 692) (by decide +kernel)) (by decide +kernel)
theorem q647 : (Jvm.Cond.code ({ cls := "PaddleRowsModel", name := "puts", desc := "(IIIII)V" } : Jvm.MethodName) prog_8_method_25_code (8 : Nat) (Option.none : Option Jvm.ClassFile.FieldType)) ∈ WS := inWS (List.mem_of_getElem? (i := 693) (by decide +kernel)) (by decide +kernel)
theorem q648 : (Jvm.Cond.methodLink "PaddleRowsModel" (90 : Nat) ({ cls := "PaddleRowsModel", name := "lifts", desc := "(I)V" } : Jvm.MethodName)) ∈ WS := inWS (List.mem_of_getElem? (i := 694) (by decide +kernel)) (by decide +kernel)
theorem q650 : (Jvm.Cond.instanceMethod ({ cls := "PaddleRowsModel", name := "lifts", desc := "(I)V" } : Jvm.MethodName)) ∈ WS := inWS (List.mem_of_getElem? (i := 696) (by decide +kernel)) (by decide +kernel)
theorem q651 : (Jvm.Cond.code ({ cls := "PaddleRowsModel", name := "lifts", desc := "(I)V" } : Jvm.MethodName) prog_8_method_24_code (3 : Nat) (Option.none : Option Jvm.ClassFile.FieldType)) ∈ WS := inWS (List.mem_of_getElem? (i := 697) (by decide +kernel)) (by decide +kernel)
theorem q652 : (Jvm.Cond.methodLink "PaddleRowsModel" (54 : Nat) ({ cls := "PaddleRowsModel", name := "setPaddle", desc := "(III)V" } : Jvm.MethodName)) ∈ WS := inWS (List.mem_of_getElem? (i := 698) (by decide +kernel)) (by decide +kernel)
theorem q654 : (Jvm.Cond.instanceMethod ({ cls := "PaddleRowsModel", name := "setPaddle", desc := "(III)V" } : Jvm.MethodName)) ∈ WS := inWS (List.mem_of_getElem? (i := 700) (by decide +kernel)) (by decide +kernel)
theorem q655 : (Jvm.Cond.code ({ cls := "PaddleRowsModel", name := "setPaddle", desc := "(III)V" } : Jvm.MethodName) prog_8_method_11_code (4 : Nat) (Option.none : Option Jvm.ClassFile.FieldType)) ∈ WS := inWS (List.mem_of_getElem? (i := 701) (by decide +kernel)) (by decide +kernel)
theorem q656 : (Jvm.Cond.methodLink "PaddleRowsLaw" (27 : Nat) ({ cls := "PaddleRowsModel", name := "lift", desc := "(I)I" } : Jvm.MethodName)) ∈ WS := inWS (List.mem_of_getElem? (i := 702) (by decide +kernel)) (by decide +kernel)
theorem q657 : (Jvm.Cond.instanceMethod ({ cls := "PaddleRowsModel", name := "lift", desc := "(I)I" } : Jvm.MethodName)) ∈ WS := inWS (List.mem_of_getElem? (i := 703) (by decide +kernel)) (by decide +kernel)
theorem q658 : (Jvm.Cond.selects "PaddleRowsModel" ({ cls := "PaddleRowsModel", name := "lift", desc := "(I)I" } : Jvm.MethodName) ({ cls := "PaddleRowsModel", name := "lift", desc := "(I)I" } : Jvm.MethodName)) ∈ WS := inWS (List.mem_of_getElem? (i := 704) (by decide +kernel)) (by decide +kernel)
theorem q659 : (Jvm.Cond.code ({ cls := "PaddleRowsModel", name := "lift", desc := "(I)I" } : Jvm.MethodName) prog_8_method_27_code (2 : Nat) (Option.some Jvm.ClassFile.FieldType.int)) ∈ WS := inWS (List.mem_of_getElem? (i := 705) (by decide +kernel)) (by decide +kernel)
theorem q660 : (Jvm.Cond.methodLink "PaddleRowsLaw" (31 : Nat) ({ cls := "PaddleRowsModel", name := "again", desc := "(I)I" } : Jvm.MethodName)) ∈ WS := inWS (List.mem_of_getElem? (i := 706) (by decide +kernel)) (by decide +kernel)
theorem q661 : (Jvm.Cond.instanceMethod ({ cls := "PaddleRowsModel", name := "again", desc := "(I)I" } : Jvm.MethodName)) ∈ WS := inWS (List.mem_of_getElem? (i := 707) (by decide +kernel)) (by decide +kernel)
theorem q662 : (Jvm.Cond.selects "PaddleRowsModel" ({ cls := "PaddleRowsModel", name := "again", desc := "(I)I" } : Jvm.MethodName) ({ cls := "PaddleRowsModel", name := "again", desc := "(I)I" } : Jvm.MethodName)) ∈ WS := inWS (List.mem_of_getElem? (i := 708) (by decide +kernel)) (by decide +kernel)
theorem q663 : (Jvm.Cond.code ({ cls := "PaddleRowsModel", name := "again", desc := "(I)I" } : Jvm.MethodName) prog_8_method_28_code (4 : Nat) (Option.some Jvm.ClassFile.FieldType.int)) ∈ WS := inWS (List.mem_of_getElem? (i := 709) (by decide +kernel)) (by decide +kernel)
theorem q664 : (Jvm.Cond.methodLink "PaddleRowsLaw" (35 : Nat) ({ cls := "PaddleRowsModel", name := "gauge", desc := "(I)I" } : Jvm.MethodName)) ∈ WS := inWS (List.mem_of_getElem? (i := 710) (by decide +kernel)) (by decide +kernel)
theorem q665 : (Jvm.Cond.instanceMethod ({ cls := "PaddleRowsModel", name := "gauge", desc := "(I)I" } : Jvm.MethodName)) ∈ WS := inWS (List.mem_of_getElem? (i := 711) (by decide +kernel)) (by decide +kernel)
theorem q666 : (Jvm.Cond.selects "PaddleRowsModel" ({ cls := "PaddleRowsModel", name := "gauge", desc := "(I)I" } : Jvm.MethodName) ({ cls := "PaddleRowsModel", name := "gauge", desc := "(I)I" } : Jvm.MethodName)) ∈ WS := inWS (List.mem_of_getElem? (i := 712) (by decide +kernel)) (by decide +kernel)
theorem q667 : (Jvm.Cond.code ({ cls := "PaddleRowsModel", name := "gauge", desc := "(I)I" } : Jvm.MethodName) prog_8_method_31_code (3 : Nat) (Option.some Jvm.ClassFile.FieldType.int)) ∈ WS := inWS (List.mem_of_getElem? (i := 713) (by decide +kernel)) (by decide +kernel)
theorem q668 : (Jvm.Cond.methodLink "PaddleRowsModel" (106 : Nat) ({ cls := "PaddleRowsModel", name := "whyNoGauge", desc := "(I)I" } : Jvm.MethodName)) ∈ WS := inWS (List.mem_of_getElem? (i := 714) (by decide +kernel)) (by decide +kernel)
theorem q670 : (Jvm.Cond.instanceMethod ({ cls := "PaddleRowsModel", name := "whyNoGauge", desc := "(I)I" } : Jvm.MethodName)) ∈ WS := inWS (List.mem_of_getElem? (i := 716) (by decide +kernel)) (by decide +kernel)
theorem q671 : (Jvm.Cond.code ({ cls := "PaddleRowsModel", name := "whyNoGauge", desc := "(I)I" } : Jvm.MethodName) prog_8_method_29_code (2 : Nat) (Option.some Jvm.ClassFile.FieldType.int)) ∈ WS := inWS (List.mem_of_getElem? (i := 717) (by decide +kernel)) (by decide +kernel)
theorem q672 : (Jvm.Cond.methodLink "PaddleRowsModel" (102 : Nat) ({ cls := "PaddleRowsModel", name := "isCell", desc := "(I)Z" } : Jvm.MethodName)) ∈ WS := inWS (List.mem_of_getElem? (i := 718) (by decide +kernel)) (by decide +kernel)
theorem q673 : (Jvm.Cond.static ({ cls := "PaddleRowsModel", name := "isCell", desc := "(I)Z" } : Jvm.MethodName)) ∈ WS := inWS (List.mem_of_getElem? (i := 719) (by decide +kernel)) (by decide +kernel)
theorem q674 : (Jvm.Cond.code ({ cls := "PaddleRowsModel", name := "isCell", desc := "(I)Z" } : Jvm.MethodName) prog_8_method_8_code (1 : Nat) (Option.some Jvm.ClassFile.FieldType.boolean)) ∈ WS := inWS (List.mem_of_getElem? (i := 720) (by decide +kernel)) (by decide +kernel)
theorem q675 : (Jvm.Cond.methodLink "PaddleRowsModel" (109 : Nat) ({ cls := "PaddleRowsModel", name := "comesGauge", desc := "(I)I" } : Jvm.MethodName)) ∈ WS := inWS (List.mem_of_getElem? (i := 721) (by decide +kernel)) (by decide +kernel)
theorem q677 : (Jvm.Cond.instanceMethod ({ cls := "PaddleRowsModel", name := "comesGauge", desc := "(I)I" } : Jvm.MethodName)) ∈ WS := inWS (List.mem_of_getElem? (i := 723) (by decide +kernel)) (by decide +kernel)
theorem q678 : (Jvm.Cond.code ({ cls := "PaddleRowsModel", name := "comesGauge", desc := "(I)I" } : Jvm.MethodName) prog_8_method_30_code (4 : Nat) (Option.some Jvm.ClassFile.FieldType.int)) ∈ WS := inWS (List.mem_of_getElem? (i := 724) (by decide +kernel)) (by decide +kernel)
theorem q679 : (Jvm.Cond.methodLink "PaddleRowsLaw" (39 : Nat) ({ cls := "PaddleRowsModel", name := "level", desc := "(II)I" } : Jvm.MethodName)) ∈ WS := inWS (List.mem_of_getElem? (i := 725) (by decide +kernel)) (by decide +kernel)
theorem q680 : (Jvm.Cond.instanceMethod ({ cls := "PaddleRowsModel", name := "level", desc := "(II)I" } : Jvm.MethodName)) ∈ WS := inWS (List.mem_of_getElem? (i := 726) (by decide +kernel)) (by decide +kernel)
theorem q681 : (Jvm.Cond.selects "PaddleRowsModel" ({ cls := "PaddleRowsModel", name := "level", desc := "(II)I" } : Jvm.MethodName) ({ cls := "PaddleRowsModel", name := "level", desc := "(II)I" } : Jvm.MethodName)) ∈ WS := inWS (List.mem_of_getElem? (i := 727) (by decide +kernel)) (by decide +kernel)
theorem q682 : (Jvm.Cond.code ({ cls := "PaddleRowsModel", name := "level", desc := "(II)I" } : Jvm.MethodName) prog_8_method_32_code (4 : Nat) (Option.some Jvm.ClassFile.FieldType.int)) ∈ WS := inWS (List.mem_of_getElem? (i := 728) (by decide +kernel)) (by decide +kernel)
theorem q683 : (Jvm.Cond.methodLink "PaddleRowsModel" (47 : Nat) ({ cls := "PaddleRowsModel", name := "levelOf", desc := "(I)I" } : Jvm.MethodName)) ∈ WS := inWS (List.mem_of_getElem? (i := 729) (by decide +kernel)) (by decide +kernel)
theorem q685 : (Jvm.Cond.instanceMethod ({ cls := "PaddleRowsModel", name := "levelOf", desc := "(I)I" } : Jvm.MethodName)) ∈ WS := inWS (List.mem_of_getElem? (i := 731) (by decide +kernel)) (by decide +kernel)
theorem q686 : (Jvm.Cond.code ({ cls := "PaddleRowsModel", name := "levelOf", desc := "(I)I" } : Jvm.MethodName) prog_8_method_9_code (2 : Nat) (Option.some Jvm.ClassFile.FieldType.int)) ∈ WS := inWS (List.mem_of_getElem? (i := 732) (by decide +kernel)) (by decide +kernel)
theorem q687 : (Jvm.Cond.methodLink "PaddleRowsLaw" (43 : Nat) ({ cls := "PaddleRowsModel", name := "pass", desc := "(I)I" } : Jvm.MethodName)) ∈ WS := inWS (List.mem_of_getElem? (i := 733) (by decide +kernel)) (by decide +kernel)
theorem q688 : (Jvm.Cond.instanceMethod ({ cls := "PaddleRowsModel", name := "pass", desc := "(I)I" } : Jvm.MethodName)) ∈ WS := inWS (List.mem_of_getElem? (i := 734) (by decide +kernel)) (by decide +kernel)
theorem q689 : (Jvm.Cond.selects "PaddleRowsModel" ({ cls := "PaddleRowsModel", name := "pass", desc := "(I)I" } : Jvm.MethodName) ({ cls := "PaddleRowsModel", name := "pass", desc := "(I)I" } : Jvm.MethodName)) ∈ WS := inWS (List.mem_of_getElem? (i := 735) (by decide +kernel)) (by decide +kernel)
theorem q690 : (Jvm.Cond.code ({ cls := "PaddleRowsModel", name := "pass", desc := "(I)I" } : Jvm.MethodName) prog_8_method_34_code (3 : Nat) (Option.some Jvm.ClassFile.FieldType.int)) ∈ WS := inWS (List.mem_of_getElem? (i := 736) (by decide +kernel)) (by decide +kernel)
theorem q691 : (Jvm.Cond.methodLink "PaddleRowsModel" (113 : Nat) ({ cls := "PaddleRowsModel", name := "whyNotPassed", desc := "(I)I" } : Jvm.MethodName)) ∈ WS := inWS (List.mem_of_getElem? (i := 737) (by decide +kernel)) (by decide +kernel)
theorem q693 : (Jvm.Cond.instanceMethod ({ cls := "PaddleRowsModel", name := "whyNotPassed", desc := "(I)I" } : Jvm.MethodName)) ∈ WS := inWS (List.mem_of_getElem? (i := 739) (by decide +kernel)) (by decide +kernel)
theorem q694 : (Jvm.Cond.code ({ cls := "PaddleRowsModel", name := "whyNotPassed", desc := "(I)I" } : Jvm.MethodName) prog_8_method_33_code (2 : Nat) (Option.some Jvm.ClassFile.FieldType.int)) ∈ WS := inWS (List.mem_of_getElem? (i := 740) (by decide +kernel)) (by decide +kernel)
theorem q695 : (Jvm.Cond.constant "PaddleRowsModel" (112 : Nat) (99999 : Int32)) ∈ WS := inWS (List.mem_of_getElem? (i := 741) (by decide +kernel)) (by decide +kernel)
theorem q696 : (Jvm.Cond.methodLink "PaddleRowsModel" (116 : Nat) ({ cls := "PaddleRowsModel", name := "passes", desc := "(I)I" } : Jvm.MethodName)) ∈ WS := inWS (List.mem_of_getElem? (i := 742) (by decide +kernel)) (by decide +kernel)
theorem q698 : (Jvm.Cond.instanceMethod ({ cls := "PaddleRowsModel", name := "passes", desc := "(I)I" } : Jvm.MethodName)) ∈ WS := inWS (List.mem_of_getElem? (i := 744) (by decide +kernel)) (by decide +kernel)
theorem q699 : (Jvm.Cond.code ({ cls := "PaddleRowsModel", name := "passes", desc := "(I)I" } : Jvm.MethodName) prog_8_method_20_code (4 : Nat) (Option.some Jvm.ClassFile.FieldType.int)) ∈ WS := inWS (List.mem_of_getElem? (i := 745) (by decide +kernel)) (by decide +kernel)
theorem q700 : (Jvm.Cond.methodLink "PaddleRowsModel" (77 : Nat) ({ cls := "PaddleRowsModel", name := "step", desc := "()I" } : Jvm.MethodName)) ∈ WS := inWS (List.mem_of_getElem? (i := 746) (by decide +kernel)) (by decide +kernel)
theorem q702 : (Jvm.Cond.instanceMethod ({ cls := "PaddleRowsModel", name := "step", desc := "()I" } : Jvm.MethodName)) ∈ WS := inWS (List.mem_of_getElem? (i := 748) (by decide +kernel)) (by decide +kernel)
theorem q703 : (Jvm.Cond.code ({ cls := "PaddleRowsModel", name := "step", desc := "()I" } : Jvm.MethodName) prog_8_method_19_code (2 : Nat) (Option.some Jvm.ClassFile.FieldType.int)) ∈ WS := inWS (List.mem_of_getElem? (i := 749) (by decide +kernel)) (by decide +kernel)
theorem q704 : (Jvm.Cond.methodLink "PaddleRowsModel" (64 : Nat) ({ cls := "PaddleRowsModel", name := "pushAll", desc := "()I" } : Jvm.MethodName)) ∈ WS := inWS (List.mem_of_getElem? (i := 750) (by decide +kernel)) (by decide +kernel)
theorem q706 : (Jvm.Cond.instanceMethod ({ cls := "PaddleRowsModel", name := "pushAll", desc := "()I" } : Jvm.MethodName)) ∈ WS := inWS (List.mem_of_getElem? (i := 752) (by decide +kernel)) (by decide +kernel)
theorem q707 : (Jvm.Cond.code ({ cls := "PaddleRowsModel", name := "pushAll", desc := "()I" } : Jvm.MethodName) prog_8_method_15_code (5 : Nat) (Option.some Jvm.ClassFile.FieldType.int)) ∈ WS := inWS (List.mem_of_getElem? (i := 753) (by decide +kernel)) (by decide +kernel)
theorem q708 : (Jvm.Cond.methodLink "PaddleRowsModel" (51 : Nat) ({ cls := "PaddleRowsModel", name := "size", desc := "(I)I" } : Jvm.MethodName)) ∈ WS := inWS (List.mem_of_getElem? (i := 754) (by decide +kernel)) (by decide +kernel)
theorem q709 : (Jvm.Cond.static ({ cls := "PaddleRowsModel", name := "size", desc := "(I)I" } : Jvm.MethodName)) ∈ WS := inWS (List.mem_of_getElem? (i := 755) (by decide +kernel)) (by decide +kernel)
theorem q710 : (Jvm.Cond.code ({ cls := "PaddleRowsModel", name := "size", desc := "(I)I" } : Jvm.MethodName) prog_8_method_5_code (1 : Nat) (Option.some Jvm.ClassFile.FieldType.int)) ∈ WS := inWS (List.mem_of_getElem? (i := 756) (by decide +kernel)) (by decide +kernel)
theorem q711 : (Jvm.Cond.methodLink "PaddleRowsModel" (58 : Nat) ({ cls := "PaddleRowsModel", name := "push", desc := "(I)I" } : Jvm.MethodName)) ∈ WS := inWS (List.mem_of_getElem? (i := 757) (by decide +kernel)) (by decide +kernel)
theorem q713 : (Jvm.Cond.instanceMethod ({ cls := "PaddleRowsModel", name := "push", desc := "(I)I" } : Jvm.MethodName)) ∈ WS := inWS (List.mem_of_getElem? (i := 759) (by decide +kernel)) (by decide +kernel)
theorem q714 : (Jvm.Cond.code ({ cls := "PaddleRowsModel", name := "push", desc := "(I)I" } : Jvm.MethodName) prog_8_method_14_code (6 : Nat) (Option.some Jvm.ClassFile.FieldType.int)) ∈ WS := inWS (List.mem_of_getElem? (i := 760) (by decide +kernel)) (by decide +kernel)
theorem q715 : (Jvm.Cond.methodLink "PaddleRowsModel" (68 : Nat) ({ cls := "PaddleRowsModel", name := "swing", desc := "()V" } : Jvm.MethodName)) ∈ WS := inWS (List.mem_of_getElem? (i := 761) (by decide +kernel)) (by decide +kernel)
theorem q717 : (Jvm.Cond.instanceMethod ({ cls := "PaddleRowsModel", name := "swing", desc := "()V" } : Jvm.MethodName)) ∈ WS := inWS (List.mem_of_getElem? (i := 763) (by decide +kernel)) (by decide +kernel)
theorem q718 : (Jvm.Cond.code ({ cls := "PaddleRowsModel", name := "swing", desc := "()V" } : Jvm.MethodName) prog_8_method_16_code (5 : Nat) (Option.none : Option Jvm.ClassFile.FieldType)) ∈ WS := inWS (List.mem_of_getElem? (i := 764) (by decide +kernel)) (by decide +kernel)
theorem q719 : (Jvm.Cond.methodLink "PaddleRowsModel" (61 : Nat) ({ cls := "PaddleRowsModel", name := "bounded", desc := "(I)I" } : Jvm.MethodName)) ∈ WS := inWS (List.mem_of_getElem? (i := 765) (by decide +kernel)) (by decide +kernel)
theorem q720 : (Jvm.Cond.static ({ cls := "PaddleRowsModel", name := "bounded", desc := "(I)I" } : Jvm.MethodName)) ∈ WS := inWS (List.mem_of_getElem? (i := 766) (by decide +kernel)) (by decide +kernel)
theorem q721 : (Jvm.Cond.code ({ cls := "PaddleRowsModel", name := "bounded", desc := "(I)I" } : Jvm.MethodName) prog_8_method_6_code (1 : Nat) (Option.some Jvm.ClassFile.FieldType.int)) ∈ WS := inWS (List.mem_of_getElem? (i := 767) (by decide +kernel)) (by decide +kernel)
theorem q722 : (Jvm.Cond.methodLink "PaddleRowsModel" (71 : Nat) ({ cls := "PaddleRowsModel", name := "beach", desc := "()V" } : Jvm.MethodName)) ∈ WS := inWS (List.mem_of_getElem? (i := 768) (by decide +kernel)) (by decide +kernel)
theorem q724 : (Jvm.Cond.instanceMethod ({ cls := "PaddleRowsModel", name := "beach", desc := "()V" } : Jvm.MethodName)) ∈ WS := inWS (List.mem_of_getElem? (i := 770) (by decide +kernel)) (by decide +kernel)
theorem q725 : (Jvm.Cond.code ({ cls := "PaddleRowsModel", name := "beach", desc := "()V" } : Jvm.MethodName) prog_8_method_17_code (3 : Nat) (Option.none : Option Jvm.ClassFile.FieldType)) ∈ WS := inWS (List.mem_of_getElem? (i := 771) (by decide +kernel)) (by decide +kernel)
theorem q726 : (Jvm.Cond.methodLink "PaddleRowsModel" (74 : Nat) ({ cls := "PaddleRowsModel", name := "note", desc := "()V" } : Jvm.MethodName)) ∈ WS := inWS (List.mem_of_getElem? (i := 772) (by decide +kernel)) (by decide +kernel)
theorem q728 : (Jvm.Cond.instanceMethod ({ cls := "PaddleRowsModel", name := "note", desc := "()V" } : Jvm.MethodName)) ∈ WS := inWS (List.mem_of_getElem? (i := 774) (by decide +kernel)) (by decide +kernel)
theorem q729 : (Jvm.Cond.code ({ cls := "PaddleRowsModel", name := "note", desc := "()V" } : Jvm.MethodName) prog_8_method_18_code (4 : Nat) (Option.none : Option Jvm.ClassFile.FieldType)) ∈ WS := inWS (List.mem_of_getElem? (i := 775) (by decide +kernel)) (by decide +kernel)
theorem q730 : (Jvm.Cond.methodLink "PaddleRowsLaw" (47 : Nat) ({ cls := "PaddleRowsModel", name := "cell", desc := "(II)I" } : Jvm.MethodName)) ∈ WS := inWS (List.mem_of_getElem? (i := 776) (by decide +kernel)) (by decide +kernel)
theorem q731 : (Jvm.Cond.instanceMethod ({ cls := "PaddleRowsModel", name := "cell", desc := "(II)I" } : Jvm.MethodName)) ∈ WS := inWS (List.mem_of_getElem? (i := 777) (by decide +kernel)) (by decide +kernel)
theorem q732 : (Jvm.Cond.selects "PaddleRowsModel" ({ cls := "PaddleRowsModel", name := "cell", desc := "(II)I" } : Jvm.MethodName) ({ cls := "PaddleRowsModel", name := "cell", desc := "(II)I" } : Jvm.MethodName)) ∈ WS := inWS (List.mem_of_getElem? (i := 778) (by decide +kernel)) (by decide +kernel)
theorem q733 : (Jvm.Cond.code ({ cls := "PaddleRowsModel", name := "cell", desc := "(II)I" } : Jvm.MethodName) prog_8_method_37_code (3 : Nat) (Option.some Jvm.ClassFile.FieldType.int)) ∈ WS := inWS (List.mem_of_getElem? (i := 779) (by decide +kernel)) (by decide +kernel)
theorem q734 : (Jvm.Cond.methodLink "PaddleRowsModel" (119 : Nat) ({ cls := "PaddleRowsModel", name := "isCrest", desc := "(I)Z" } : Jvm.MethodName)) ∈ WS := inWS (List.mem_of_getElem? (i := 780) (by decide +kernel)) (by decide +kernel)
theorem q736 : (Jvm.Cond.instanceMethod ({ cls := "PaddleRowsModel", name := "isCrest", desc := "(I)Z" } : Jvm.MethodName)) ∈ WS := inWS (List.mem_of_getElem? (i := 782) (by decide +kernel)) (by decide +kernel)
theorem q737 : (Jvm.Cond.code ({ cls := "PaddleRowsModel", name := "isCrest", desc := "(I)Z" } : Jvm.MethodName) prog_8_method_35_code (2 : Nat) (Option.some Jvm.ClassFile.FieldType.boolean)) ∈ WS := inWS (List.mem_of_getElem? (i := 783) (by decide +kernel)) (by decide +kernel)
theorem q738 : (Jvm.Cond.methodLink "PaddleRowsModel" (122 : Nat) ({ cls := "PaddleRowsModel", name := "isTrough", desc := "(I)Z" } : Jvm.MethodName)) ∈ WS := inWS (List.mem_of_getElem? (i := 784) (by decide +kernel)) (by decide +kernel)
theorem q740 : (Jvm.Cond.instanceMethod ({ cls := "PaddleRowsModel", name := "isTrough", desc := "(I)Z" } : Jvm.MethodName)) ∈ WS := inWS (List.mem_of_getElem? (i := 786) (by decide +kernel)) (by decide +kernel)
theorem q741 : (Jvm.Cond.code ({ cls := "PaddleRowsModel", name := "isTrough", desc := "(I)Z" } : Jvm.MethodName) prog_8_method_36_code (2 : Nat) (Option.some Jvm.ClassFile.FieldType.boolean)) ∈ WS := inWS (List.mem_of_getElem? (i := 787) (by decide +kernel)) (by decide +kernel)
theorem q742 : (Jvm.Cond.methodLink "PaddleRowsLaw" (51 : Nat) ({ cls := "PaddleRowsModel", name := "ofPaddle", desc := "(II)I" } : Jvm.MethodName)) ∈ WS := inWS (List.mem_of_getElem? (i := 788) (by decide +kernel)) (by decide +kernel)
theorem q743 : (Jvm.Cond.instanceMethod ({ cls := "PaddleRowsModel", name := "ofPaddle", desc := "(II)I" } : Jvm.MethodName)) ∈ WS := inWS (List.mem_of_getElem? (i := 789) (by decide +kernel)) (by decide +kernel)
theorem q744 : (Jvm.Cond.selects "PaddleRowsModel" ({ cls := "PaddleRowsModel", name := "ofPaddle", desc := "(II)I" } : Jvm.MethodName) ({ cls := "PaddleRowsModel", name := "ofPaddle", desc := "(II)I" } : Jvm.MethodName)) ∈ WS := inWS (List.mem_of_getElem? (i := 790) (by decide +kernel)) (by decide +kernel)
theorem q745 : (Jvm.Cond.code ({ cls := "PaddleRowsModel", name := "ofPaddle", desc := "(II)I" } : Jvm.MethodName) prog_8_method_39_code (3 : Nat) (Option.some Jvm.ClassFile.FieldType.int)) ∈ WS := inWS (List.mem_of_getElem? (i := 791) (by decide +kernel)) (by decide +kernel)
theorem q746 : (Jvm.Cond.methodLink "PaddleRowsModel" (125 : Nat) ({ cls := "PaddleRowsModel", name := "isRank", desc := "(I)Z" } : Jvm.MethodName)) ∈ WS := inWS (List.mem_of_getElem? (i := 792) (by decide +kernel)) (by decide +kernel)
theorem q748 : (Jvm.Cond.instanceMethod ({ cls := "PaddleRowsModel", name := "isRank", desc := "(I)Z" } : Jvm.MethodName)) ∈ WS := inWS (List.mem_of_getElem? (i := 794) (by decide +kernel)) (by decide +kernel)
theorem q749 : (Jvm.Cond.code ({ cls := "PaddleRowsModel", name := "isRank", desc := "(I)Z" } : Jvm.MethodName) prog_8_method_38_code (2 : Nat) (Option.some Jvm.ClassFile.FieldType.boolean)) ∈ WS := inWS (List.mem_of_getElem? (i := 795) (by decide +kernel)) (by decide +kernel)
theorem q750 : (Jvm.Cond.methodLink "PaddleRowsLaw" (55 : Nat) ({ cls := "PaddleRowsModel", name := "ofGauge", desc := "(II)I" } : Jvm.MethodName)) ∈ WS := inWS (List.mem_of_getElem? (i := 796) (by decide +kernel)) (by decide +kernel)
theorem q751 : (Jvm.Cond.instanceMethod ({ cls := "PaddleRowsModel", name := "ofGauge", desc := "(II)I" } : Jvm.MethodName)) ∈ WS := inWS (List.mem_of_getElem? (i := 797) (by decide +kernel)) (by decide +kernel)
theorem q752 : (Jvm.Cond.selects "PaddleRowsModel" ({ cls := "PaddleRowsModel", name := "ofGauge", desc := "(II)I" } : Jvm.MethodName) ({ cls := "PaddleRowsModel", name := "ofGauge", desc := "(II)I" } : Jvm.MethodName)) ∈ WS := inWS (List.mem_of_getElem? (i := 798) (by decide +kernel)) (by decide +kernel)
theorem q753 : (Jvm.Cond.code ({ cls := "PaddleRowsModel", name := "ofGauge", desc := "(II)I" } : Jvm.MethodName) prog_8_method_43_code (3 : Nat) (Option.some Jvm.ClassFile.FieldType.int)) ∈ WS := inWS (List.mem_of_getElem? (i := 799) (by decide +kernel)) (by decide +kernel)
theorem q754 : (Jvm.Cond.methodLink "PaddleRowsModel" (131 : Nat) ({ cls := "PaddleRowsModel", name := "isGauge", desc := "(I)Z" } : Jvm.MethodName)) ∈ WS := inWS (List.mem_of_getElem? (i := 800) (by decide +kernel)) (by decide +kernel)
theorem q756 : (Jvm.Cond.instanceMethod ({ cls := "PaddleRowsModel", name := "isGauge", desc := "(I)Z" } : Jvm.MethodName)) ∈ WS := inWS (List.mem_of_getElem? (i := 802) (by decide +kernel)) (by decide +kernel)
theorem q757 : (Jvm.Cond.code ({ cls := "PaddleRowsModel", name := "isGauge", desc := "(I)Z" } : Jvm.MethodName) prog_8_method_42_code (2 : Nat) (Option.some Jvm.ClassFile.FieldType.boolean)) ∈ WS := inWS (List.mem_of_getElem? (i := 803) (by decide +kernel)) (by decide +kernel)
theorem q758 : (Jvm.Cond.methodLink "PaddleRowsModel" (128 : Nat) ({ cls := "PaddleRowsModel", name := "gaugePart", desc := "(II)I" } : Jvm.MethodName)) ∈ WS := inWS (List.mem_of_getElem? (i := 804) (by decide +kernel)) (by decide +kernel)
theorem q760 : (Jvm.Cond.instanceMethod ({ cls := "PaddleRowsModel", name := "gaugePart", desc := "(II)I" } : Jvm.MethodName)) ∈ WS := inWS (List.mem_of_getElem? (i := 806) (by decide +kernel)) (by decide +kernel)
theorem q761 : (Jvm.Cond.code ({ cls := "PaddleRowsModel", name := "gaugePart", desc := "(II)I" } : Jvm.MethodName) prog_8_method_13_code (3 : Nat) (Option.some Jvm.ClassFile.FieldType.int)) ∈ WS := inWS (List.mem_of_getElem? (i := 807) (by decide +kernel)) (by decide +kernel)
theorem q762 : (Jvm.Cond.methodLink "PaddleRowsModel" (134 : Nat) ({ cls := "PaddleRowsModel", name := "extreme", desc := "(IZ)I" } : Jvm.MethodName)) ∈ WS := inWS (List.mem_of_getElem? (i := 808) (by decide +kernel)) (by decide +kernel)
theorem q764 : (Jvm.Cond.instanceMethod ({ cls := "PaddleRowsModel", name := "extreme", desc := "(IZ)I" } : Jvm.MethodName)) ∈ WS := inWS (List.mem_of_getElem? (i := 810) (by decide +kernel)) (by decide +kernel)
theorem q765 : (Jvm.Cond.code ({ cls := "PaddleRowsModel", name := "extreme", desc := "(IZ)I" } : Jvm.MethodName) prog_8_method_40_code (7 : Nat) (Option.some Jvm.ClassFile.FieldType.int)) ∈ WS := inWS (List.mem_of_getElem? (i := 811) (by decide +kernel)) (by decide +kernel)
theorem q766 : (Jvm.Cond.methodLink "PaddleRowsModel" (138 : Nat) ({ cls := "PaddleRowsModel", name := "risings", desc := "(I)I" } : Jvm.MethodName)) ∈ WS := inWS (List.mem_of_getElem? (i := 812) (by decide +kernel)) (by decide +kernel)
theorem q768 : (Jvm.Cond.instanceMethod ({ cls := "PaddleRowsModel", name := "risings", desc := "(I)I" } : Jvm.MethodName)) ∈ WS := inWS (List.mem_of_getElem? (i := 814) (by decide +kernel)) (by decide +kernel)
theorem q769 : (Jvm.Cond.code ({ cls := "PaddleRowsModel", name := "risings", desc := "(I)I" } : Jvm.MethodName) prog_8_method_41_code (4 : Nat) (Option.some Jvm.ClassFile.FieldType.int)) ∈ WS := inWS (List.mem_of_getElem? (i := 815) (by decide +kernel)) (by decide +kernel)
theorem q770 : (Jvm.Cond.methodLink "PaddleRowsLaw" (59 : Nat) ({ cls := "PaddleRowsModel", name := "noted", desc := "(II)I" } : Jvm.MethodName)) ∈ WS := inWS (List.mem_of_getElem? (i := 816) (by decide +kernel)) (by decide +kernel)
theorem q771 : (Jvm.Cond.instanceMethod ({ cls := "PaddleRowsModel", name := "noted", desc := "(II)I" } : Jvm.MethodName)) ∈ WS := inWS (List.mem_of_getElem? (i := 817) (by decide +kernel)) (by decide +kernel)
theorem q772 : (Jvm.Cond.selects "PaddleRowsModel" ({ cls := "PaddleRowsModel", name := "noted", desc := "(II)I" } : Jvm.MethodName) ({ cls := "PaddleRowsModel", name := "noted", desc := "(II)I" } : Jvm.MethodName)) ∈ WS := inWS (List.mem_of_getElem? (i := 818) (by decide +kernel)) (by decide +kernel)
theorem q773 : (Jvm.Cond.code ({ cls := "PaddleRowsModel", name := "noted", desc := "(II)I" } : Jvm.MethodName) prog_8_method_44_code (3 : Nat) (Option.some Jvm.ClassFile.FieldType.int)) ∈ WS := inWS (List.mem_of_getElem? (i := 819) (by decide +kernel)) (by decide +kernel)
theorem q774 : (Jvm.Cond.methodLink "PaddleRowsLaw" (64 : Nat) ({ cls := "PaddleRowsModel", name := "places", desc := "(I)J" } : Jvm.MethodName)) ∈ WS := inWS (List.mem_of_getElem? (i := 820) (by decide +kernel)) (by decide +kernel)
theorem q775 : (Jvm.Cond.instanceMethod ({ cls := "PaddleRowsModel", name := "places", desc := "(I)J" } : Jvm.MethodName)) ∈ WS := inWS (List.mem_of_getElem? (i := 821) (by decide +kernel)) (by decide +kernel)
theorem q776 : (Jvm.Cond.selects "PaddleRowsModel" ({ cls := "PaddleRowsModel", name := "places", desc := "(I)J" } : Jvm.MethodName) ({ cls := "PaddleRowsModel", name := "places", desc := "(I)J" } : Jvm.MethodName)) ∈ WS := inWS (List.mem_of_getElem? (i := 822) (by decide +kernel)) (by decide +kernel)
theorem q777 : (Jvm.Cond.code ({ cls := "PaddleRowsModel", name := "places", desc := "(I)J" } : Jvm.MethodName) prog_8_method_46_code (5 : Nat) (Option.some Jvm.ClassFile.FieldType.long)) ∈ WS := inWS (List.mem_of_getElem? (i := 823) (by decide +kernel)) (by decide +kernel)
theorem q778 : (Jvm.Cond.constantLong "PaddleRowsModel" (141 : Nat) (-2 : Int64)) ∈ WS := inWS (List.mem_of_getElem? (i := 824) (by decide +kernel)) (by decide +kernel)
theorem q779 : (Jvm.Cond.methodLink "PaddleRowsModel" (143 : Nat) ({ cls := "PaddleRowsModel", name := "isPlace", desc := "(II)Z" } : Jvm.MethodName)) ∈ WS := inWS (List.mem_of_getElem? (i := 825) (by decide +kernel)) (by decide +kernel)
theorem q781 : (Jvm.Cond.instanceMethod ({ cls := "PaddleRowsModel", name := "isPlace", desc := "(II)Z" } : Jvm.MethodName)) ∈ WS := inWS (List.mem_of_getElem? (i := 827) (by decide +kernel)) (by decide +kernel)
theorem q782 : (Jvm.Cond.code ({ cls := "PaddleRowsModel", name := "isPlace", desc := "(II)Z" } : Jvm.MethodName) prog_8_method_45_code (4 : Nat) (Option.some Jvm.ClassFile.FieldType.boolean)) ∈ WS := inWS (List.mem_of_getElem? (i := 828) (by decide +kernel)) (by decide +kernel)
theorem q783 : (Jvm.Cond.methodLink "PaddleRowsLaw" (68 : Nat) ({ cls := "PaddleRowsModel", name := "count", desc := "(I)I" } : Jvm.MethodName)) ∈ WS := inWS (List.mem_of_getElem? (i := 829) (by decide +kernel)) (by decide +kernel)
theorem q784 : (Jvm.Cond.instanceMethod ({ cls := "PaddleRowsModel", name := "count", desc := "(I)I" } : Jvm.MethodName)) ∈ WS := inWS (List.mem_of_getElem? (i := 830) (by decide +kernel)) (by decide +kernel)
theorem q785 : (Jvm.Cond.selects "PaddleRowsModel" ({ cls := "PaddleRowsModel", name := "count", desc := "(I)I" } : Jvm.MethodName) ({ cls := "PaddleRowsModel", name := "count", desc := "(I)I" } : Jvm.MethodName)) ∈ WS := inWS (List.mem_of_getElem? (i := 831) (by decide +kernel)) (by decide +kernel)
theorem q786 : (Jvm.Cond.code ({ cls := "PaddleRowsModel", name := "count", desc := "(I)I" } : Jvm.MethodName) prog_8_method_52_code (2 : Nat) (Option.some Jvm.ClassFile.FieldType.int)) ∈ WS := inWS (List.mem_of_getElem? (i := 832) (by decide +kernel)) (by decide +kernel)
theorem q787 : (Jvm.Cond.methodLink "PaddleRowsModel" (146 : Nat) ({ cls := "PaddleRowsModel", name := "stopped", desc := "()I" } : Jvm.MethodName)) ∈ WS := inWS (List.mem_of_getElem? (i := 833) (by decide +kernel)) (by decide +kernel)
theorem q789 : (Jvm.Cond.instanceMethod ({ cls := "PaddleRowsModel", name := "stopped", desc := "()I" } : Jvm.MethodName)) ∈ WS := inWS (List.mem_of_getElem? (i := 835) (by decide +kernel)) (by decide +kernel)
theorem q790 : (Jvm.Cond.code ({ cls := "PaddleRowsModel", name := "stopped", desc := "()I" } : Jvm.MethodName) prog_8_method_47_code (3 : Nat) (Option.some Jvm.ClassFile.FieldType.int)) ∈ WS := inWS (List.mem_of_getElem? (i := 836) (by decide +kernel)) (by decide +kernel)
theorem q791 : (Jvm.Cond.methodLink "PaddleRowsModel" (149 : Nat) ({ cls := "PaddleRowsModel", name := "sumOfLevels", desc := "()I" } : Jvm.MethodName)) ∈ WS := inWS (List.mem_of_getElem? (i := 837) (by decide +kernel)) (by decide +kernel)
theorem q793 : (Jvm.Cond.instanceMethod ({ cls := "PaddleRowsModel", name := "sumOfLevels", desc := "()I" } : Jvm.MethodName)) ∈ WS := inWS (List.mem_of_getElem? (i := 839) (by decide +kernel)) (by decide +kernel)
theorem q794 : (Jvm.Cond.code ({ cls := "PaddleRowsModel", name := "sumOfLevels", desc := "()I" } : Jvm.MethodName) prog_8_method_48_code (3 : Nat) (Option.some Jvm.ClassFile.FieldType.int)) ∈ WS := inWS (List.mem_of_getElem? (i := 840) (by decide +kernel)) (by decide +kernel)
theorem q795 : (Jvm.Cond.constant "PaddleRowsModel" (152 : Nat) (1000000 : Int32)) ∈ WS := inWS (List.mem_of_getElem? (i := 841) (by decide +kernel)) (by decide +kernel)
theorem q796 : (Jvm.Cond.methodLink "PaddleRowsModel" (153 : Nat) ({ cls := "PaddleRowsModel", name := "swings", desc := "()I" } : Jvm.MethodName)) ∈ WS := inWS (List.mem_of_getElem? (i := 842) (by decide +kernel)) (by decide +kernel)
theorem q798 : (Jvm.Cond.instanceMethod ({ cls := "PaddleRowsModel", name := "swings", desc := "()I" } : Jvm.MethodName)) ∈ WS := inWS (List.mem_of_getElem? (i := 844) (by decide +kernel)) (by decide +kernel)
theorem q799 : (Jvm.Cond.code ({ cls := "PaddleRowsModel", name := "swings", desc := "()I" } : Jvm.MethodName) prog_8_method_49_code (3 : Nat) (Option.some Jvm.ClassFile.FieldType.int)) ∈ WS := inWS (List.mem_of_getElem? (i := 845) (by decide +kernel)) (by decide +kernel)
theorem q800 : (Jvm.Cond.methodLink "PaddleRowsModel" (156 : Nat) ({ cls := "PaddleRowsModel", name := "greatest", desc := "()I" } : Jvm.MethodName)) ∈ WS := inWS (List.mem_of_getElem? (i := 846) (by decide +kernel)) (by decide +kernel)
theorem q802 : (Jvm.Cond.instanceMethod ({ cls := "PaddleRowsModel", name := "greatest", desc := "()I" } : Jvm.MethodName)) ∈ WS := inWS (List.mem_of_getElem? (i := 848) (by decide +kernel)) (by decide +kernel)
theorem q803 : (Jvm.Cond.code ({ cls := "PaddleRowsModel", name := "greatest", desc := "()I" } : Jvm.MethodName) prog_8_method_50_code (3 : Nat) (Option.some Jvm.ClassFile.FieldType.int)) ∈ WS := inWS (List.mem_of_getElem? (i := 849) (by decide +kernel)) (by decide +kernel)
theorem q804 : (Jvm.Cond.methodLink "PaddleRowsModel" (159 : Nat) ({ cls := "PaddleRowsModel", name := "lastSwung", desc := "()I" } : Jvm.MethodName)) ∈ WS := inWS (List.mem_of_getElem? (i := 850) (by decide +kernel)) (by decide +kernel)
theorem q806 : (Jvm.Cond.instanceMethod ({ cls := "PaddleRowsModel", name := "lastSwung", desc := "()I" } : Jvm.MethodName)) ∈ WS := inWS (List.mem_of_getElem? (i := 852) (by decide +kernel)) (by decide +kernel)
theorem q807 : (Jvm.Cond.code ({ cls := "PaddleRowsModel", name := "lastSwung", desc := "()I" } : Jvm.MethodName) prog_8_method_51_code (3 : Nat) (Option.some Jvm.ClassFile.FieldType.int)) ∈ WS := inWS (List.mem_of_getElem? (i := 853) (by decide +kernel)) (by decide +kernel)
theorem q808 : (Jvm.Cond.methodLink "PaddleRowsLaw" (72 : Nat) ({ cls := "PaddleRowsModel", name := "reaches", desc := "(II)I" } : Jvm.MethodName)) ∈ WS := inWS (List.mem_of_getElem? (i := 854) (by decide +kernel)) (by decide +kernel)
theorem q809 : (Jvm.Cond.instanceMethod ({ cls := "PaddleRowsModel", name := "reaches", desc := "(II)I" } : Jvm.MethodName)) ∈ WS := inWS (List.mem_of_getElem? (i := 855) (by decide +kernel)) (by decide +kernel)
theorem q810 : (Jvm.Cond.selects "PaddleRowsModel" ({ cls := "PaddleRowsModel", name := "reaches", desc := "(II)I" } : Jvm.MethodName) ({ cls := "PaddleRowsModel", name := "reaches", desc := "(II)I" } : Jvm.MethodName)) ∈ WS := inWS (List.mem_of_getElem? (i := 856) (by decide +kernel)) (by decide +kernel)
theorem q811 : (Jvm.Cond.code ({ cls := "PaddleRowsModel", name := "reaches", desc := "(II)I" } : Jvm.MethodName) prog_8_method_53_code (5 : Nat) (Option.some Jvm.ClassFile.FieldType.int)) ∈ WS := inWS (List.mem_of_getElem? (i := 857) (by decide +kernel)) (by decide +kernel)
theorem q812 : (Jvm.Cond.methodLink "PaddleRowsLaw" (77 : Nat) ({ cls := "PaddleRowsModel", name := "bestPeriod", desc := "(IIII)I" } : Jvm.MethodName)) ∈ WS := inWS (List.mem_of_getElem? (i := 858) (by decide +kernel)) (by decide +kernel)
theorem q813 : (Jvm.Cond.instanceMethod ({ cls := "PaddleRowsModel", name := "bestPeriod", desc := "(IIII)I" } : Jvm.MethodName)) ∈ WS := inWS (List.mem_of_getElem? (i := 859) (by decide +kernel)) (by decide +kernel)
theorem q814 : (Jvm.Cond.selects "PaddleRowsModel" ({ cls := "PaddleRowsModel", name := "bestPeriod", desc := "(IIII)I" } : Jvm.MethodName) ({ cls := "PaddleRowsModel", name := "bestPeriod", desc := "(IIII)I" } : Jvm.MethodName)) ∈ WS := inWS (List.mem_of_getElem? (i := 860) (by decide +kernel)) (by decide +kernel)
theorem q815 : (Jvm.Cond.code ({ cls := "PaddleRowsModel", name := "bestPeriod", desc := "(IIII)I" } : Jvm.MethodName) prog_8_method_54_code (10 : Nat) (Option.some Jvm.ClassFile.FieldType.int)) ∈ WS := inWS (List.mem_of_getElem? (i := 861) (by decide +kernel)) (by decide +kernel)
theorem q816 : (Jvm.Cond.methodLink "PaddleRowsLaw" (82 : Nat) ({ cls := "PaddleRowsModel", name := "calmIn", desc := "()I" } : Jvm.MethodName)) ∈ WS := inWS (List.mem_of_getElem? (i := 862) (by decide +kernel)) (by decide +kernel)
theorem q817 : (Jvm.Cond.instanceMethod ({ cls := "PaddleRowsModel", name := "calmIn", desc := "()I" } : Jvm.MethodName)) ∈ WS := inWS (List.mem_of_getElem? (i := 863) (by decide +kernel)) (by decide +kernel)
theorem q818 : (Jvm.Cond.selects "PaddleRowsModel" ({ cls := "PaddleRowsModel", name := "calmIn", desc := "()I" } : Jvm.MethodName) ({ cls := "PaddleRowsModel", name := "calmIn", desc := "()I" } : Jvm.MethodName)) ∈ WS := inWS (List.mem_of_getElem? (i := 864) (by decide +kernel)) (by decide +kernel)
theorem q819 : (Jvm.Cond.code ({ cls := "PaddleRowsModel", name := "calmIn", desc := "()I" } : Jvm.MethodName) prog_8_method_55_code (3 : Nat) (Option.some Jvm.ClassFile.FieldType.int)) ∈ WS := inWS (List.mem_of_getElem? (i := 865) (by decide +kernel)) (by decide +kernel)
theorem q820 : (Jvm.Cond.methodLink "PaddleRowsLaw" (89 : Nat) ({ cls := "PaddleRowsModel", name := "put", desc := "(J)I" } : Jvm.MethodName)) ∈ WS := inWS (List.mem_of_getElem? (i := 866) (by decide +kernel)) (by decide +kernel)
theorem q821 : (Jvm.Cond.instanceMethod ({ cls := "PaddleRowsModel", name := "put", desc := "(J)I" } : Jvm.MethodName)) ∈ WS := inWS (List.mem_of_getElem? (i := 867) (by decide +kernel)) (by decide +kernel)
theorem q822 : (Jvm.Cond.selects "PaddleRowsModel" ({ cls := "PaddleRowsModel", name := "put", desc := "(J)I" } : Jvm.MethodName) ({ cls := "PaddleRowsModel", name := "put", desc := "(J)I" } : Jvm.MethodName)) ∈ WS := inWS (List.mem_of_getElem? (i := 868) (by decide +kernel)) (by decide +kernel)
theorem q823 : (Jvm.Cond.code ({ cls := "PaddleRowsModel", name := "put", desc := "(J)I" } : Jvm.MethodName) prog_8_method_56_code (8 : Nat) (Option.some Jvm.ClassFile.FieldType.int)) ∈ WS := inWS (List.mem_of_getElem? (i := 869) (by decide +kernel)) (by decide +kernel)
theorem q824 : (Jvm.Cond.constantLong "PaddleRowsModel" (165 : Nat) (255 : Int64)) ∈ WS := inWS (List.mem_of_getElem? (i := 870) (by decide +kernel)) (by decide +kernel)
theorem q825 : (Jvm.Cond.methodLink "PaddleRowsLaw" (93 : Nat) ({ cls := "PaddleRowsModel", name := "wipe", desc := "()I" } : Jvm.MethodName)) ∈ WS := inWS (List.mem_of_getElem? (i := 871) (by decide +kernel)) (by decide +kernel)
theorem q826 : (Jvm.Cond.instanceMethod ({ cls := "PaddleRowsModel", name := "wipe", desc := "()I" } : Jvm.MethodName)) ∈ WS := inWS (List.mem_of_getElem? (i := 872) (by decide +kernel)) (by decide +kernel)
theorem q827 : (Jvm.Cond.selects "PaddleRowsModel" ({ cls := "PaddleRowsModel", name := "wipe", desc := "()I" } : Jvm.MethodName) ({ cls := "PaddleRowsModel", name := "wipe", desc := "()I" } : Jvm.MethodName)) ∈ WS := inWS (List.mem_of_getElem? (i := 873) (by decide +kernel)) (by decide +kernel)
theorem q828 : (Jvm.Cond.code ({ cls := "PaddleRowsModel", name := "wipe", desc := "()I" } : Jvm.MethodName) prog_8_method_57_code (2 : Nat) (Option.some Jvm.ClassFile.FieldType.int)) ∈ WS := inWS (List.mem_of_getElem? (i := 874) (by decide +kernel)) (by decide +kernel)
theorem q829 : (Jvm.Cond.methodLink "PaddleRowsLaw" (97 : Nat) ({ cls := "PaddleRowsModel", name := "fault", desc := "()I" } : Jvm.MethodName)) ∈ WS := inWS (List.mem_of_getElem? (i := 875) (by decide +kernel)) (by decide +kernel)
theorem q830 : (Jvm.Cond.instanceMethod ({ cls := "PaddleRowsModel", name := "fault", desc := "()I" } : Jvm.MethodName)) ∈ WS := inWS (List.mem_of_getElem? (i := 876) (by decide +kernel)) (by decide +kernel)
theorem q831 : (Jvm.Cond.selects "PaddleRowsModel" ({ cls := "PaddleRowsModel", name := "fault", desc := "()I" } : Jvm.MethodName) ({ cls := "PaddleRowsModel", name := "fault", desc := "()I" } : Jvm.MethodName)) ∈ WS := inWS (List.mem_of_getElem? (i := 877) (by decide +kernel)) (by decide +kernel)
theorem q832 : (Jvm.Cond.code ({ cls := "PaddleRowsModel", name := "fault", desc := "()I" } : Jvm.MethodName) prog_8_method_67_code (1 : Nat) (Option.some Jvm.ClassFile.FieldType.int)) ∈ WS := inWS (List.mem_of_getElem? (i := 878) (by decide +kernel)) (by decide +kernel)
theorem q833 : (Jvm.Cond.methodLink "PaddleRowsModel" (204 : Nat) ({ cls := "PaddleRowsModel", name := "findFault", desc := "()I" } : Jvm.MethodName)) ∈ WS := inWS (List.mem_of_getElem? (i := 879) (by decide +kernel)) (by decide +kernel)
theorem q835 : (Jvm.Cond.instanceMethod ({ cls := "PaddleRowsModel", name := "findFault", desc := "()I" } : Jvm.MethodName)) ∈ WS := inWS (List.mem_of_getElem? (i := 881) (by decide +kernel)) (by decide +kernel)
theorem q836 : (Jvm.Cond.code ({ cls := "PaddleRowsModel", name := "findFault", desc := "()I" } : Jvm.MethodName) prog_8_method_66_code (1 : Nat) (Option.some Jvm.ClassFile.FieldType.int)) ∈ WS := inWS (List.mem_of_getElem? (i := 882) (by decide +kernel)) (by decide +kernel)
theorem q837 : (Jvm.Cond.methodLink "PaddleRowsModel" (201 : Nat) ({ cls := "PaddleRowsModel", name := "readsOrder", desc := "()Z" } : Jvm.MethodName)) ∈ WS := inWS (List.mem_of_getElem? (i := 883) (by decide +kernel)) (by decide +kernel)
theorem q839 : (Jvm.Cond.instanceMethod ({ cls := "PaddleRowsModel", name := "readsOrder", desc := "()Z" } : Jvm.MethodName)) ∈ WS := inWS (List.mem_of_getElem? (i := 885) (by decide +kernel)) (by decide +kernel)
theorem q840 : (Jvm.Cond.code ({ cls := "PaddleRowsModel", name := "readsOrder", desc := "()Z" } : Jvm.MethodName) prog_8_method_65_code (1 : Nat) (Option.some Jvm.ClassFile.FieldType.boolean)) ∈ WS := inWS (List.mem_of_getElem? (i := 886) (by decide +kernel)) (by decide +kernel)
theorem q841 : (Jvm.Cond.methodLink "PaddleRowsModel" (170 : Nat) ({ cls := "PaddleRowsModel", name := "character", desc := "(I)I" } : Jvm.MethodName)) ∈ WS := inWS (List.mem_of_getElem? (i := 887) (by decide +kernel)) (by decide +kernel)
theorem q843 : (Jvm.Cond.instanceMethod ({ cls := "PaddleRowsModel", name := "character", desc := "(I)I" } : Jvm.MethodName)) ∈ WS := inWS (List.mem_of_getElem? (i := 889) (by decide +kernel)) (by decide +kernel)
theorem q844 : (Jvm.Cond.code ({ cls := "PaddleRowsModel", name := "character", desc := "(I)I" } : Jvm.MethodName) prog_8_method_58_code (2 : Nat) (Option.some Jvm.ClassFile.FieldType.int)) ∈ WS := inWS (List.mem_of_getElem? (i := 890) (by decide +kernel)) (by decide +kernel)
theorem q845 : (Jvm.Cond.methodLink "PaddleRowsModel" (198 : Nat) ({ cls := "PaddleRowsModel", name := "takesRecipe", desc := "()Z" } : Jvm.MethodName)) ∈ WS := inWS (List.mem_of_getElem? (i := 891) (by decide +kernel)) (by decide +kernel)
theorem q847 : (Jvm.Cond.instanceMethod ({ cls := "PaddleRowsModel", name := "takesRecipe", desc := "()Z" } : Jvm.MethodName)) ∈ WS := inWS (List.mem_of_getElem? (i := 893) (by decide +kernel)) (by decide +kernel)
theorem q848 : (Jvm.Cond.code ({ cls := "PaddleRowsModel", name := "takesRecipe", desc := "()Z" } : Jvm.MethodName) prog_8_method_64_code (2 : Nat) (Option.some Jvm.ClassFile.FieldType.boolean)) ∈ WS := inWS (List.mem_of_getElem? (i := 894) (by decide +kernel)) (by decide +kernel)
theorem q849 : (Jvm.Cond.methodLink "PaddleRowsModel" (183 : Nat) ({ cls := "PaddleRowsModel", name := "takesNumber", desc := "(I)Z" } : Jvm.MethodName)) ∈ WS := inWS (List.mem_of_getElem? (i := 895) (by decide +kernel)) (by decide +kernel)
theorem q851 : (Jvm.Cond.instanceMethod ({ cls := "PaddleRowsModel", name := "takesNumber", desc := "(I)Z" } : Jvm.MethodName)) ∈ WS := inWS (List.mem_of_getElem? (i := 897) (by decide +kernel)) (by decide +kernel)
theorem q852 : (Jvm.Cond.code ({ cls := "PaddleRowsModel", name := "takesNumber", desc := "(I)Z" } : Jvm.MethodName) prog_8_method_61_code (3 : Nat) (Option.some Jvm.ClassFile.FieldType.boolean)) ∈ WS := inWS (List.mem_of_getElem? (i := 898) (by decide +kernel)) (by decide +kernel)
theorem q853 : (Jvm.Cond.methodLink "PaddleRowsModel" (173 : Nat) ({ cls := "PaddleRowsModel", name := "isDigit", desc := "()Z" } : Jvm.MethodName)) ∈ WS := inWS (List.mem_of_getElem? (i := 899) (by decide +kernel)) (by decide +kernel)
theorem q855 : (Jvm.Cond.instanceMethod ({ cls := "PaddleRowsModel", name := "isDigit", desc := "()Z" } : Jvm.MethodName)) ∈ WS := inWS (List.mem_of_getElem? (i := 901) (by decide +kernel)) (by decide +kernel)
theorem q856 : (Jvm.Cond.code ({ cls := "PaddleRowsModel", name := "isDigit", desc := "()Z" } : Jvm.MethodName) prog_8_method_60_code (1 : Nat) (Option.some Jvm.ClassFile.FieldType.boolean)) ∈ WS := inWS (List.mem_of_getElem? (i := 902) (by decide +kernel)) (by decide +kernel)
theorem q857 : (Jvm.Cond.methodLink "PaddleRowsModel" (189 : Nat) ({ cls := "PaddleRowsModel", name := "takesSort", desc := "()Z" } : Jvm.MethodName)) ∈ WS := inWS (List.mem_of_getElem? (i := 903) (by decide +kernel)) (by decide +kernel)
theorem q859 : (Jvm.Cond.instanceMethod ({ cls := "PaddleRowsModel", name := "takesSort", desc := "()Z" } : Jvm.MethodName)) ∈ WS := inWS (List.mem_of_getElem? (i := 905) (by decide +kernel)) (by decide +kernel)
theorem q860 : (Jvm.Cond.code ({ cls := "PaddleRowsModel", name := "takesSort", desc := "()Z" } : Jvm.MethodName) prog_8_method_63_code (2 : Nat) (Option.some Jvm.ClassFile.FieldType.boolean)) ∈ WS := inWS (List.mem_of_getElem? (i := 906) (by decide +kernel)) (by decide +kernel)
theorem q861 : (Jvm.Cond.methodLink "PaddleRowsModel" (192 : Nat) ({ cls := "PaddleRowsModel", name := "takesValue", desc := "()Z" } : Jvm.MethodName)) ∈ WS := inWS (List.mem_of_getElem? (i := 907) (by decide +kernel)) (by decide +kernel)
theorem q863 : (Jvm.Cond.instanceMethod ({ cls := "PaddleRowsModel", name := "takesValue", desc := "()Z" } : Jvm.MethodName)) ∈ WS := inWS (List.mem_of_getElem? (i := 909) (by decide +kernel)) (by decide +kernel)
theorem q864 : (Jvm.Cond.code ({ cls := "PaddleRowsModel", name := "takesValue", desc := "()Z" } : Jvm.MethodName) prog_8_method_62_code (1 : Nat) (Option.some Jvm.ClassFile.FieldType.boolean)) ∈ WS := inWS (List.mem_of_getElem? (i := 910) (by decide +kernel)) (by decide +kernel)
theorem q865 : (Jvm.Cond.methodLink "PaddleRowsModel" (180 : Nat) ({ cls := "PaddleRowsModel", name := "isNext", desc := "(I)Z" } : Jvm.MethodName)) ∈ WS := inWS (List.mem_of_getElem? (i := 911) (by decide +kernel)) (by decide +kernel)
theorem q867 : (Jvm.Cond.instanceMethod ({ cls := "PaddleRowsModel", name := "isNext", desc := "(I)Z" } : Jvm.MethodName)) ∈ WS := inWS (List.mem_of_getElem? (i := 913) (by decide +kernel)) (by decide +kernel)
theorem q868 : (Jvm.Cond.code ({ cls := "PaddleRowsModel", name := "isNext", desc := "(I)Z" } : Jvm.MethodName) prog_8_method_59_code (3 : Nat) (Option.some Jvm.ClassFile.FieldType.boolean)) ∈ WS := inWS (List.mem_of_getElem? (i := 914) (by decide +kernel)) (by decide +kernel)
theorem q869 : (Jvm.Cond.methodLink "PaddleRowsLaw" (101 : Nat) ({ cls := "PaddleRowsModel", name := "carryOut", desc := "()I" } : Jvm.MethodName)) ∈ WS := inWS (List.mem_of_getElem? (i := 915) (by decide +kernel)) (by decide +kernel)
theorem q870 : (Jvm.Cond.instanceMethod ({ cls := "PaddleRowsModel", name := "carryOut", desc := "()I" } : Jvm.MethodName)) ∈ WS := inWS (List.mem_of_getElem? (i := 916) (by decide +kernel)) (by decide +kernel)
theorem q871 : (Jvm.Cond.selects "PaddleRowsModel" ({ cls := "PaddleRowsModel", name := "carryOut", desc := "()I" } : Jvm.MethodName) ({ cls := "PaddleRowsModel", name := "carryOut", desc := "()I" } : Jvm.MethodName)) ∈ WS := inWS (List.mem_of_getElem? (i := 917) (by decide +kernel)) (by decide +kernel)
theorem q872 : (Jvm.Cond.code ({ cls := "PaddleRowsModel", name := "carryOut", desc := "()I" } : Jvm.MethodName) prog_8_method_70_code (3 : Nat) (Option.some Jvm.ClassFile.FieldType.int)) ∈ WS := inWS (List.mem_of_getElem? (i := 918) (by decide +kernel)) (by decide +kernel)
theorem q873 : (Jvm.Cond.methodLink "PaddleRowsModel" (207 : Nat) ({ cls := "PaddleRowsModel", name := "canDo", desc := "()Z" } : Jvm.MethodName)) ∈ WS := inWS (List.mem_of_getElem? (i := 919) (by decide +kernel)) (by decide +kernel)
theorem q875 : (Jvm.Cond.instanceMethod ({ cls := "PaddleRowsModel", name := "canDo", desc := "()Z" } : Jvm.MethodName)) ∈ WS := inWS (List.mem_of_getElem? (i := 921) (by decide +kernel)) (by decide +kernel)
theorem q876 : (Jvm.Cond.code ({ cls := "PaddleRowsModel", name := "canDo", desc := "()Z" } : Jvm.MethodName) prog_8_method_68_code (1 : Nat) (Option.some Jvm.ClassFile.FieldType.boolean)) ∈ WS := inWS (List.mem_of_getElem? (i := 922) (by decide +kernel)) (by decide +kernel)
theorem q877 : (Jvm.Cond.methodLink "PaddleRowsModel" (210 : Nat) ({ cls := "PaddleRowsModel", name := "does", desc := "()V" } : Jvm.MethodName)) ∈ WS := inWS (List.mem_of_getElem? (i := 923) (by decide +kernel)) (by decide +kernel)
theorem q879 : (Jvm.Cond.instanceMethod ({ cls := "PaddleRowsModel", name := "does", desc := "()V" } : Jvm.MethodName)) ∈ WS := inWS (List.mem_of_getElem? (i := 925) (by decide +kernel)) (by decide +kernel)
theorem q880 : (Jvm.Cond.code ({ cls := "PaddleRowsModel", name := "does", desc := "()V" } : Jvm.MethodName) prog_8_method_69_code (1 : Nat) (Option.none : Option Jvm.ClassFile.FieldType)) ∈ WS := inWS (List.mem_of_getElem? (i := 926) (by decide +kernel)) (by decide +kernel)
theorem q881 : (Jvm.Cond.methodLink "PaddleRowsLaw" (105 : Nat) ({ cls := "PaddleRowsModel", name := "undo", desc := "()I" } : Jvm.MethodName)) ∈ WS := inWS (List.mem_of_getElem? (i := 927) (by decide +kernel)) (by decide +kernel)
theorem q882 : (Jvm.Cond.instanceMethod ({ cls := "PaddleRowsModel", name := "undo", desc := "()I" } : Jvm.MethodName)) ∈ WS := inWS (List.mem_of_getElem? (i := 928) (by decide +kernel)) (by decide +kernel)
theorem q883 : (Jvm.Cond.selects "PaddleRowsModel" ({ cls := "PaddleRowsModel", name := "undo", desc := "()I" } : Jvm.MethodName) ({ cls := "PaddleRowsModel", name := "undo", desc := "()I" } : Jvm.MethodName)) ∈ WS := inWS (List.mem_of_getElem? (i := 929) (by decide +kernel)) (by decide +kernel)
theorem q884 : (Jvm.Cond.code ({ cls := "PaddleRowsModel", name := "undo", desc := "()I" } : Jvm.MethodName) prog_8_method_71_code (1 : Nat) (Option.some Jvm.ClassFile.FieldType.int)) ∈ WS := inWS (List.mem_of_getElem? (i := 930) (by decide +kernel)) (by decide +kernel)
theorem q885 : (Jvm.Cond.methodLink "PaddleRowsLaw" (109 : Nat) ({ cls := "PaddleRowsModel", name := "save", desc := "(I)I" } : Jvm.MethodName)) ∈ WS := inWS (List.mem_of_getElem? (i := 931) (by decide +kernel)) (by decide +kernel)
theorem q886 : (Jvm.Cond.instanceMethod ({ cls := "PaddleRowsModel", name := "save", desc := "(I)I" } : Jvm.MethodName)) ∈ WS := inWS (List.mem_of_getElem? (i := 932) (by decide +kernel)) (by decide +kernel)
theorem q887 : (Jvm.Cond.selects "PaddleRowsModel" ({ cls := "PaddleRowsModel", name := "save", desc := "(I)I" } : Jvm.MethodName) ({ cls := "PaddleRowsModel", name := "save", desc := "(I)I" } : Jvm.MethodName)) ∈ WS := inWS (List.mem_of_getElem? (i := 933) (by decide +kernel)) (by decide +kernel)
theorem q888 : (Jvm.Cond.code ({ cls := "PaddleRowsModel", name := "save", desc := "(I)I" } : Jvm.MethodName) prog_8_method_72_code (2 : Nat) (Option.some Jvm.ClassFile.FieldType.int)) ∈ WS := inWS (List.mem_of_getElem? (i := 934) (by decide +kernel)) (by decide +kernel)
theorem q889 : (Jvm.Cond.methodLink "PaddleRowsLaw" (113 : Nat) ({ cls := "PaddleRowsModel", name := "restore", desc := "(I)I" } : Jvm.MethodName)) ∈ WS := inWS (List.mem_of_getElem? (i := 935) (by decide +kernel)) (by decide +kernel)
theorem q890 : (Jvm.Cond.instanceMethod ({ cls := "PaddleRowsModel", name := "restore", desc := "(I)I" } : Jvm.MethodName)) ∈ WS := inWS (List.mem_of_getElem? (i := 936) (by decide +kernel)) (by decide +kernel)
theorem q891 : (Jvm.Cond.selects "PaddleRowsModel" ({ cls := "PaddleRowsModel", name := "restore", desc := "(I)I" } : Jvm.MethodName) ({ cls := "PaddleRowsModel", name := "restore", desc := "(I)I" } : Jvm.MethodName)) ∈ WS := inWS (List.mem_of_getElem? (i := 937) (by decide +kernel)) (by decide +kernel)
theorem q892 : (Jvm.Cond.code ({ cls := "PaddleRowsModel", name := "restore", desc := "(I)I" } : Jvm.MethodName) prog_8_method_73_code (2 : Nat) (Option.some Jvm.ClassFile.FieldType.int)) ∈ WS := inWS (List.mem_of_getElem? (i := 938) (by decide +kernel)) (by decide +kernel)
theorem q893 : (Jvm.Cond.constantLong "PaddleRowsLaw" (83 : Nat) (4294967295 : Int64)) ∈ WS := inWS (List.mem_of_getElem? (i := 939) (by decide +kernel)) (by decide +kernel)
end
section
/-! SHAPES AND CLASSES -/
def cn (t : Nat) : Nat := if t = 0 then 4 else if t = 1 then 2 else if t = 2 then 9 else if t = 3 then 6 else if t = 4 then 8 else if t = 5 then 7 else 13
theorem tg_big {a : Nat} (h : 243 ≤ a) : tg a = 99 := by
  unfold tg Sh
  rw [List.getD_eq_getElem?_getD, List.getElem?_eq_none (by have : shL.length = 243 := by decide +kernel
                                                            omega)]
  rfl
theorem sh_dec : (List.range 243).all (fun a => decide (tg a < 8 → 8 ≤ a ∧ tg a < 7 ∧ ln a = cn (tg a)) && decide (11 ≤ tg a → tg a < 16 → 8 ≤ a) && decide (ln a ≤ 2220)) = true := by decide +kernel
theorem sh_at {a : Nat} (h : a < 243) : (tg a < 8 → 8 ≤ a ∧ tg a < 7 ∧ ln a = cn (tg a)) ∧ (11 ≤ tg a → tg a < 16 → 8 ≤ a) ∧ ln a ≤ 2220 := by
  have h1 := List.all_eq_true.mp sh_dec a (List.mem_range.mpr h)
  simp only [Bool.and_eq_true, decide_eq_true_eq] at h1
  exact ⟨h1.1.1, h1.1.2, h1.2⟩
theorem tg_lt {a : Nat} (h : tg a < 16) : a < 243 := by
  rcases Nat.lt_or_ge a 243 with h1 | h1
  · exact h1
  · rw [tg_big h1] at h
    omega
theorem tg_obj {a : Nat} (h : tg a < 8) : 8 ≤ a ∧ tg a < 7 ∧ ln a = cn (tg a) := (sh_at (tg_lt (by omega))).1 h
theorem ln_le (a : Nat) : ln a ≤ 2220 := by
  rcases Nat.lt_or_ge a 243 with h1 | h1
  · exact (sh_at h1).2.2
  · unfold ln Sh
    rw [List.getD_eq_getElem?_getD, List.getElem?_eq_none (by have : shL.length = 243 := by decide +kernel
                                                              omega)]
    exact Nat.zero_le _
/-- what the rows ask of a class -/
def ClsOk (ci : Nat) (q : vw_C) : Prop := q.2.2 = cn ci ∧ (∀ w ∈ u_ws q.1 q.2.1 q.2.2, w ∈ WS) ∧ (∃ ty : Nat → FieldType, (∀ k, k < q.2.2 → parseFieldDescriptor (q.2.1 k).2.2.1 = some (ty k)) ∧ ∀ k, k < q.2.2 → defaultValue (ty k) = if isR ci k then .null else .int 0) ∧ (∀ a, a < q.2.2 → ∀ b, b < q.2.2 → a ≠ b → (q.2.1 a).2.1 ≠ (q.2.1 b).2.1) ∧ Cond.instantiable q.1 q.2.2 ∈ WS ∧ Cond.initialized q.1 ∈ WS
--CLASSES--
theorem clsw0 : ∀ w ∈ [u_lay RX0 TX0 0, u_lay RX0 TX0 1, u_lay RX0 TX0 2, u_lay RX0 TX0 3], w ∈ WS := (List.forall_mem_cons.mpr ⟨q87, (List.forall_mem_cons.mpr ⟨q89, (List.forall_mem_cons.mpr ⟨q91, (List.forall_mem_cons.mpr ⟨q93, (fun _ h => absurd h List.not_mem_nil)⟩)⟩)⟩)⟩)
theorem cls0 : ClsOk 0 (RX0, TX0, 4) := ⟨by decide +kernel, clsw0, ⟨tyX0, tyX0_ok, by decide +kernel⟩, nmX0, q75, q4⟩
theorem clsw1 : ∀ w ∈ [u_lay RX1 TX1 0, u_lay RX1 TX1 1], w ∈ WS := (List.forall_mem_cons.mpr ⟨q184, (List.forall_mem_cons.mpr ⟨q186, (fun _ h => absurd h List.not_mem_nil)⟩)⟩)
theorem cls1 : ClsOk 1 (RX1, TX1, 2) := ⟨by decide +kernel, clsw1, ⟨tyX1, tyX1_ok, by decide +kernel⟩, nmX1, q173, q6⟩
theorem clsw2 : ∀ w ∈ [u_lay RX2 TX2 0, u_lay RX2 TX2 1, u_lay RX2 TX2 2, u_lay RX2 TX2 3, u_lay RX2 TX2 4, u_lay RX2 TX2 5, u_lay RX2 TX2 6, u_lay RX2 TX2 7, u_lay RX2 TX2 8], w ∈ WS := (List.forall_mem_cons.mpr ⟨q152, (List.forall_mem_cons.mpr ⟨q154, (List.forall_mem_cons.mpr ⟨q156, (List.forall_mem_cons.mpr ⟨q158, (List.forall_mem_cons.mpr ⟨q160, (List.forall_mem_cons.mpr ⟨q162, (List.forall_mem_cons.mpr ⟨q164, (List.forall_mem_cons.mpr ⟨q166, (List.forall_mem_cons.mpr ⟨q168, (fun _ h => absurd h List.not_mem_nil)⟩)⟩)⟩)⟩)⟩)⟩)⟩)⟩)⟩)
theorem cls2 : ClsOk 2 (RX2, TX2, 9) := ⟨by decide +kernel, clsw2, ⟨tyX2, tyX2_ok, by decide +kernel⟩, nmX2, q130, q5⟩
theorem clsw3 : ∀ w ∈ [u_lay RX3 TX3 0, u_lay RX3 TX3 1, u_lay RX3 TX3 2, u_lay RX3 TX3 3, u_lay RX3 TX3 4, u_lay RX3 TX3 5], w ∈ WS := (List.forall_mem_cons.mpr ⟨q61, (List.forall_mem_cons.mpr ⟨q63, (List.forall_mem_cons.mpr ⟨q65, (List.forall_mem_cons.mpr ⟨q67, (List.forall_mem_cons.mpr ⟨q69, (List.forall_mem_cons.mpr ⟨q71, (fun _ h => absurd h List.not_mem_nil)⟩)⟩)⟩)⟩)⟩)⟩)
theorem cls3 : ClsOk 3 (RX3, TX3, 6) := ⟨by decide +kernel, clsw3, ⟨tyX3, tyX3_ok, by decide +kernel⟩, nmX3, q38, q3⟩
theorem clsw4 : ∀ w ∈ [u_lay RX4 TX4 0, u_lay RX4 TX4 1, u_lay RX4 TX4 2, u_lay RX4 TX4 3, u_lay RX4 TX4 4, u_lay RX4 TX4 5, u_lay RX4 TX4 6, u_lay RX4 TX4 7], w ∈ WS := (List.forall_mem_cons.mpr ⟨q112, (List.forall_mem_cons.mpr ⟨q114, (List.forall_mem_cons.mpr ⟨q116, (List.forall_mem_cons.mpr ⟨q118, (List.forall_mem_cons.mpr ⟨q120, (List.forall_mem_cons.mpr ⟨q122, (List.forall_mem_cons.mpr ⟨q124, (List.forall_mem_cons.mpr ⟨q126, (fun _ h => absurd h List.not_mem_nil)⟩)⟩)⟩)⟩)⟩)⟩)⟩)⟩)
theorem cls4 : ClsOk 4 (RX4, TX4, 8) := ⟨by decide +kernel, clsw4, ⟨tyX4, tyX4_ok, by decide +kernel⟩, nmX4, q20, q2⟩
theorem clsw5 : ∀ w ∈ [u_lay RX5 TX5 0, u_lay RX5 TX5 1, u_lay RX5 TX5 2, u_lay RX5 TX5 3, u_lay RX5 TX5 4, u_lay RX5 TX5 5, u_lay RX5 TX5 6], w ∈ WS := (List.forall_mem_cons.mpr ⟨q196, (List.forall_mem_cons.mpr ⟨q198, (List.forall_mem_cons.mpr ⟨q200, (List.forall_mem_cons.mpr ⟨q202, (List.forall_mem_cons.mpr ⟨q204, (List.forall_mem_cons.mpr ⟨q206, (List.forall_mem_cons.mpr ⟨q208, (fun _ h => absurd h List.not_mem_nil)⟩)⟩)⟩)⟩)⟩)⟩)⟩)
theorem cls5 : ClsOk 5 (RX5, TX5, 7) := ⟨by decide +kernel, clsw5, ⟨tyX5, tyX5_ok, by decide +kernel⟩, nmX5, q12, q1⟩
theorem clsw6 : ∀ w ∈ [u_lay RX6 TX6 0, u_lay RX6 TX6 1, u_lay RX6 TX6 2, u_lay RX6 TX6 3, u_lay RX6 TX6 4, u_lay RX6 TX6 5, u_lay RX6 TX6 6, u_lay RX6 TX6 7, u_lay RX6 TX6 8, u_lay RX6 TX6 9, u_lay RX6 TX6 10, u_lay RX6 TX6 11, u_lay RX6 TX6 12], w ∈ WS := (List.forall_mem_cons.mpr ⟨q584, (List.forall_mem_cons.mpr ⟨q586, (List.forall_mem_cons.mpr ⟨q588, (List.forall_mem_cons.mpr ⟨q590, (List.forall_mem_cons.mpr ⟨q592, (List.forall_mem_cons.mpr ⟨q594, (List.forall_mem_cons.mpr ⟨q596, (List.forall_mem_cons.mpr ⟨q598, (List.forall_mem_cons.mpr ⟨q600, (List.forall_mem_cons.mpr ⟨q602, (List.forall_mem_cons.mpr ⟨q604, (List.forall_mem_cons.mpr ⟨q606, (List.forall_mem_cons.mpr ⟨q608, (fun _ h => absurd h List.not_mem_nil)⟩)⟩)⟩)⟩)⟩)⟩)⟩)⟩)⟩)⟩)⟩)⟩)⟩)
theorem cls6 : ClsOk 6 (RX6, TX6, 13) := ⟨by decide +kernel, clsw6, ⟨tyX6, tyX6_ok, by decide +kernel⟩, nmX6, q566, q7⟩
theorem qw_native : Cond.native arraycopyName ∈ WS := q222
theorem qw_static : Cond.static arraycopyName ∈ WS := q221
theorem qw_system : Cond.initialized "java/lang/System" ∈ WS := q8
theorem cls_ok {ci : Nat} {q : vw_C} (h : vwCl[ci]? = some q) : ClsOk ci q := by
  match ci, h with
  | 0, h => cases h; exact cls0
  | 1, h => cases h; exact cls1
  | 2, h => cases h; exact cls2
  | 3, h => cases h; exact cls3
  | 4, h => cases h; exact cls4
  | 5, h => cases h; exact cls5
  | 6, h => cases h; exact cls6
  | k + 7, h => simp at h
/-- a field that an instruction reads: class ci, slot k -/
def Fl (own : String) (idx ci k : Nat) : Prop := ∃ q : vw_C, vwCl[ci]? = some q ∧ k < cn ci ∧ Cond.fieldLink own idx (q.2.1 k).1 (q.2.1 k).2.1 (q.2.1 k).2.2.1 ∈ WS
/-- a field that an instruction writes -/
def Fp (own : String) (idx ci k : Nat) (ty : FieldType) (fin : Bool) : Prop := ∃ q : vw_C, vwCl[ci]? = some q ∧ k < cn ci ∧ Cond.fieldLink own idx (q.2.1 k).1 (q.2.1 k).2.1 (q.2.1 k).2.2.1 ∈ WS ∧ (q.2.1 k).2.2.2 = fin ∧ parseFieldDescriptor (q.2.1 k).2.2.1 = some ty ∧ (fin = true → (q.2.1 k).1 = own)
section HROWS
variable {γ : Gm} {l : Launch} {y : Mt} {d nE nX pc n : Nat} {L : List (Option Value)} {S : List Value} {M : Mm} {R : Rm} {K : Option Value → Nat → Mm → Rm → Prop}
theorem wl_obj {a ci : Nat} (ht : tg a = ci) (h7 : ci < 7) (ha : a < n) : (wl γ n M R)[a - 8]? = some (ph γ a, .inr (ci, (List.range (cn ci)).map (fv γ M R a))) := by
  obtain ⟨h8, -, hl⟩ := tg_obj (a := a) (by omega)
  rw [wl_get h8 ha, ce_o (by omega), hl, ht]
theorem cl_lt {ci : Nat} {q : vw_C} (h : vwCl[ci]? = some q) : ci < 7 := (List.getElem?_eq_some_iff.mp h).1
theorem wp_getI {a ci k idx : Nat} (hF : Fl y.1.cls idx ci k) (ht : tg a = ci) (hr : isR ci k = false) (ha : a < n) (hd : decode y.2.1 pc = .ok (.getfield idx, 3)) (kk : WP γ l y d nE nX (pc + 3) L (.int (M a k) :: S) n M R K) : WP γ l y d nE nX pc L (.ref a :: S) n M R K := by
  obtain ⟨⟨C, T, N⟩, hq, hk, hlink⟩ := hF
  obtain ⟨hN, hin, -⟩ := cls_ok hq
  intro p e R0 s m args below meth c Q H locs ls C0 hret hW h1 h2 hl
  refine va_get C0.1 C0.2.1 C0.2.2.2.2.1 hin C0.2.2.2.1 C0.2.2.2.2.2.1.1 hW.1 (a - 8) (wl_obj ht (cl_lt hq) ha) hq k (by omega) (C0.2.2.2.2.1 _ hlink) (fun _ h => h) (v := .int (M a k)) ?_ hd (kk p e R0 s m args below meth c Q H locs ls C0 hret hW h1 h2 hl)
  rw [List.getElem?_map, List.getElem?_range hk, Option.map_some, fv, ht, hr]
  rfl
theorem wp_getR {a ci k idx : Nat} (hF : Fl y.1.cls idx ci k) (ht : tg a = ci) (hr : isR ci k = true) (h0 : R a k ≠ 0) (ha : a < n) (hd : decode y.2.1 pc = .ok (.getfield idx, 3)) (kk : WP γ l y d nE nX (pc + 3) L (.ref (R a k) :: S) n M R K) : WP γ l y d nE nX pc L (.ref a :: S) n M R K := by
  obtain ⟨⟨C, T, N⟩, hq, hk, hlink⟩ := hF
  obtain ⟨hN, hin, -⟩ := cls_ok hq
  intro p e R0 s m args below meth c Q H locs ls C0 hret hW h1 h2 hl
  refine va_get C0.1 C0.2.1 C0.2.2.2.2.1 hin C0.2.2.2.1 C0.2.2.2.2.2.1.1 hW.1 (a - 8) (wl_obj ht (cl_lt hq) ha) hq k (by omega) (C0.2.2.2.2.1 _ hlink) (fun _ h => h) (v := .ref (ph γ (R a k))) ?_ hd (kk p e R0 s m args below meth c Q H locs ls C0 hret hW h1 h2 hl)
  rw [List.getElem?_map, List.getElem?_range hk, Option.map_some, fv, ht, hr, if_pos rfl, rv, if_neg h0]
theorem wl_putI {a ci k : Nat} {x : Int32} (ht : tg a = ci) (h7 : ci < 7) (ha : a < n) (hr : isR ci k = false) : (wl γ n M R).set (a - 8) (ph γ a, .inr (ci, ((List.range (cn ci)).map (fv γ M R a)).set k (.int x))) = wl γ n (u2 M a k x) R := by
  obtain ⟨h8, -, hl⟩ := tg_obj (a := a) (by omega)
  refine wl_set h8 ha ?_ (fun j hj => ce_congr (u2_n _ _ _ hj) rfl)
  rw [ce_o (by omega), hl, ht, range_set, fv_setI (by rw [ht]; exact hr)]
theorem wl_putR {a ci k r : Nat} (ht : tg a = ci) (h7 : ci < 7) (ha : a < n) (hr : isR ci k = true) (h0 : r ≠ 0) : (wl γ n M R).set (a - 8) (ph γ a, .inr (ci, ((List.range (cn ci)).map (fv γ M R a)).set k (.ref (ph γ r)))) = wl γ n M (u2 R a k r) := by
  obtain ⟨h8, -, hl⟩ := tg_obj (a := a) (by omega)
  refine wl_set h8 ha ?_ (fun j hj => ce_congr rfl (u2_n _ _ _ hj))
  rw [ce_o (by omega), hl, ht, range_set, fv_setR (by rw [ht]; exact hr) h0]
theorem wp_putI {a ci k idx : Nat} {x : Int32} {ty : FieldType} (hF : Fp y.1.cls idx ci k ty false) (ht : tg a = ci) (hr : isR ci k = false) (hx : narrow ty (.int x) = .int x ∧ fits ty (.int x) = true) (ha : a < n) (hd : decode y.2.1 pc = .ok (.putfield idx, 3)) (kk : WP γ l y d nE nX (pc + 3) L S n (u2 M a k x) R K) : WP γ l y d nE nX pc L (.int x :: .ref a :: S) n M R K := by
  obtain ⟨⟨C, T, N⟩, hq, hk, hlink, hfin, hty, -⟩ := hF
  obtain ⟨hN, hin, ⟨ty0, hty0, -⟩, hnm, -⟩ := cls_ok hq
  intro p e R0 s m args below meth c Q H locs ls C0 hret hW h1 h2 hl
  refine va_put C0.1 C0.2.1 C0.2.2.2.2.1 hin ty0 hty0 hnm C0.2.2.2.1 C0.2.2.2.2.2.1.1 hW.1 (wl_D γ n M R) hW.2 (a - 8) (wl_obj ht (cl_lt hq) ha) hq k (by omega) (C0.2.2.2.2.1 _ hlink) (fun _ h => h) hfin hty hx.1 hx.2 (by simpa using hk) hd (fun H1 locs1 hP1 _ hS1 => ?_)
  rw [show (pv γ (.int x)) = .int x from rfl, wl_putI ht (cl_lt hq) ha hr] at hP1
  exact kk p e R0 s m args below meth c Q H1 locs1 ls C0 hret ⟨hP1, hS1⟩ h1 h2 hl
theorem wp_putR {a ci k idx r : Nat} {ty : FieldType} (hF : Fp y.1.cls idx ci k ty true) (ht : tg a = ci) (hr : isR ci k = true) (hx : ∀ z : Nat, narrow ty (.ref z) = .ref z ∧ fits ty (.ref z) = true) (h0 : r ≠ 0) (ha : a < n) (hi : y.1.name = "<init>") (hd : decode y.2.1 pc = .ok (.putfield idx, 3)) (kk : WP γ l y d nE nX (pc + 3) L S n M (u2 R a k r) K) : WP γ l y d nE nX pc L (.ref r :: .ref a :: S) n M R K := by
  obtain ⟨⟨C, T, N⟩, hq, hk, hlink, hfin, hty, hdecl⟩ := hF
  obtain ⟨hN, hin, ⟨ty0, hty0, -⟩, hnm, -⟩ := cls_ok hq
  intro p e R0 s m args below meth c Q H locs ls C0 hret hW h1 h2 hl
  refine va_putF C0.1 C0.2.1 C0.2.2.2.2.1 hin ty0 hty0 hnm C0.2.2.2.1 C0.2.2.2.2.2.1.1 hW.1 (wl_D γ n M R) hW.2 (a - 8) (wl_obj ht (cl_lt hq) ha) hq k (by omega) (C0.2.2.2.2.1 _ hlink) (fun _ h => h) hfin (C0.2.2.2.2.2.2.2.2 hi) (hdecl rfl) hty (hx _).1 (hx _).2 (by simpa using hk) hd (fun H1 locs1 hP1 _ hS1 => ?_)
  rw [show (pv γ (.ref r)) = .ref (ph γ r) from rfl, wl_putR ht (cl_lt hq) ha hr h0] at hP1
  exact kk p e R0 s m args below meth c Q H1 locs1 ls C0 hret ⟨hP1, hS1⟩ h1 h2 hl
/-! arrays -/
theorem wl_ari {a : Nat} (h1 : 10 ≤ tg a) (h2 : tg a < 13) (h8 : 8 ≤ a) (ha : a < n) : (wl γ n M R)[a - 8]? = some (ph γ a, .inl (gC γ (tg a), ln a, .inl (M a))) := by rw [wl_get h8 ha, ce_i h1 h2]
theorem wl_arq {a : Nat} (h1 : 13 ≤ tg a) (h8 : 8 ≤ a) (ha : a < n) : (wl γ n M R)[a - 8]? = some (ph γ a, .inl (gC γ (tg a), ln a, .inr (.inr (.inr (.inr (fun j => rq γ (R a j))))))) := by rw [wl_get h8 ha, ce_q h1]
theorem ix_in {x : Int32} {i N : Nat} (hx : x = nI i) (hi : i < N) (hN : N ≤ 2220) : vp_in x N ∧ x.toNatClampNeg = i := by
  subst hx
  exact ⟨vp_in_nI hi (by omega), nI_clamp (by omega)⟩
theorem wl_sti {a i : Nat} {x : Int32} (h1 : 10 ≤ tg a) (h2 : tg a < 13) (h8 : 8 ≤ a) (ha : a < n) : (wl γ n M R).set (a - 8) (ph γ a, .inl (gC γ (tg a), ln a, .inl (upd (M a) i x))) = wl γ n (u2 M a i x) R := by
  refine wl_set h8 ha ?_ (fun j hj => ce_congr (u2_n _ _ _ hj) rfl)
  rw [ce_i h1 h2, u2_s]
  rfl
theorem wl_stq {a i r : Nat} (h1 : 13 ≤ tg a) (h8 : 8 ≤ a) (ha : a < n) (h0 : r ≠ 0) : (wl γ n M R).set (a - 8) (ph γ a, .inl (gC γ (tg a), ln a, .inr (.inr (.inr (.inr (va_up (fun j => rq γ (R a j)) i (some (ph γ r)))))))) = wl γ n M (u2 R a i r) := by
  refine wl_set h8 ha ?_ (fun j hj => ce_congr rfl (u2_n _ _ _ hj))
  rw [ce_q h1, u2_s]
  congr 7
  funext j
  by_cases hj : j = i
  · simp [va_up, up, hj, rq, h0]
  · simp [va_up, up, hj]
theorem wp_iald {a i : Nat} {x : Int32} (hx : x = nI i) (ht : tg a = 10) (h8 : 8 ≤ a) (hi : i < ln a) (ha : a < n) (hd : decode y.2.1 pc = .ok (.iaload, 1)) (kk : WP γ l y d nE nX (pc + 1) L (.int (M a i) :: S) n M R K) : WP γ l y d nE nX pc L (.int x :: .ref a :: S) n M R K := by
  obtain ⟨hin, hcl⟩ := ix_in hx hi (ln_le a)
  have e := wl_ari (γ := γ) (M := M) (R := R) (a := a) (by omega) (by omega) h8 ha
  rw [ht] at e
  refine fun p e0 R0 s m args below meth c Q H locs ls C0 hret hW h1 h2 hl => va_iald C0.1 C0.2.1 C0.2.2.2.2.2.1.1 hW.1 (a - 8) 0 e rfl hin hd ?_
  rw [hcl]
  exact kk p e0 R0 s m args below meth c Q H locs ls C0 hret hW h1 h2 hl
theorem wp_cald {a i : Nat} {x : Int32} (hx : x = nI i) (ht : tg a = 11) (h8 : 8 ≤ a) (hi : i < ln a) (ha : a < n) (hd : decode y.2.1 pc = .ok (.caload, 1)) (kk : WP γ l y d nE nX (pc + 1) L (.int (M a i) :: S) n M R K) : WP γ l y d nE nX pc L (.int x :: .ref a :: S) n M R K := by
  obtain ⟨hin, hcl⟩ := ix_in hx hi (ln_le a)
  have e := wl_ari (γ := γ) (M := M) (R := R) (a := a) (by omega) (by omega) h8 ha
  rw [ht] at e
  refine fun p e0 R0 s m args below meth c Q H locs ls C0 hret hW h1 h2 hl => va_cald C0.1 C0.2.1 C0.2.2.2.2.2.1.1 hW.1 (a - 8) 1 e rfl hin hd ?_
  rw [hcl]
  exact kk p e0 R0 s m args below meth c Q H locs ls C0 hret hW h1 h2 hl
theorem wp_zald {a i : Nat} {x : Int32} (hx : x = nI i) (ht : tg a = 12) (h8 : 8 ≤ a) (hi : i < ln a) (ha : a < n) (hd : decode y.2.1 pc = .ok (.baload, 1)) (kk : WP γ l y d nE nX (pc + 1) L (.int (M a i) :: S) n M R K) : WP γ l y d nE nX pc L (.int x :: .ref a :: S) n M R K := by
  obtain ⟨hin, hcl⟩ := ix_in hx hi (ln_le a)
  have e := wl_ari (γ := γ) (M := M) (R := R) (a := a) (by omega) (by omega) h8 ha
  rw [ht] at e
  refine fun p e0 R0 s m args below meth c Q H locs ls C0 hret hW h1 h2 hl => va_zald C0.1 C0.2.1 C0.2.2.2.2.2.1.1 hW.1 (a - 8) 2 e rfl hin hd ?_
  rw [hcl]
  exact kk p e0 R0 s m args below meth c Q H locs ls C0 hret hW h1 h2 hl
theorem wp_iast {a i : Nat} {x v : Int32} (hx : x = nI i) (ht : tg a = 10) (h8 : 8 ≤ a) (hi : i < ln a) (ha : a < n) (hd : decode y.2.1 pc = .ok (.iastore, 1)) (kk : WP γ l y d nE nX (pc + 1) L S n (u2 M a i v) R K) : WP γ l y d nE nX pc L (.int v :: .int x :: .ref a :: S) n M R K := by
  obtain ⟨hin, hcl⟩ := ix_in hx hi (ln_le a)
  have e := wl_ari (γ := γ) (M := M) (R := R) (a := a) (by omega) (by omega) h8 ha
  have e2 := wl_sti (γ := γ) (M := M) (R := R) (a := a) (i := i) (x := v) (by omega) (by omega) h8 ha
  rw [ht] at e e2
  refine fun p e0 R0 s m args below meth c Q H locs ls C0 hret hW h1 h2 hl => va_iast C0.1 C0.2.1 C0.2.2.2.2.2.1.1 hW.1 (wl_D γ n M R) hW.2 (a - 8) 0 e rfl hin hd (fun H1 locs1 hP1 _ hS1 => ?_)
  rw [hcl, e2] at hP1
  exact kk p e0 R0 s m args below meth c Q H1 locs1 ls C0 hret ⟨hP1, hS1⟩ h1 h2 hl
theorem wp_cast {a i : Nat} {x v : Int32} (hx : x = nI i) (ht : tg a = 11) (h8 : 8 ≤ a) (hi : i < ln a) (ha : a < n) (hd : decode y.2.1 pc = .ok (.castore, 1)) (kk : WP γ l y d nE nX (pc + 1) L S n (u2 M a i (vp_nar .char v)) R K) : WP γ l y d nE nX pc L (.int v :: .int x :: .ref a :: S) n M R K := by
  obtain ⟨hin, hcl⟩ := ix_in hx hi (ln_le a)
  have e := wl_ari (γ := γ) (M := M) (R := R) (a := a) (by omega) (by omega) h8 ha
  have e2 := wl_sti (γ := γ) (M := M) (R := R) (a := a) (i := i) (x := vp_nar .char v) (by omega) (by omega) h8 ha
  rw [ht] at e e2
  refine fun p e0 R0 s m args below meth c Q H locs ls C0 hret hW h1 h2 hl => va_cast C0.1 C0.2.1 C0.2.2.2.2.2.1.1 hW.1 (wl_D γ n M R) hW.2 (a - 8) 1 e rfl hin hd (fun H1 locs1 hP1 _ hS1 => ?_)
  rw [hcl, e2] at hP1
  exact kk p e0 R0 s m args below meth c Q H1 locs1 ls C0 hret ⟨hP1, hS1⟩ h1 h2 hl
theorem wp_zast {a i : Nat} {x v : Int32} (hx : x = nI i) (ht : tg a = 12) (h8 : 8 ≤ a) (hi : i < ln a) (hv : vp_nar .boolean v = v) (ha : a < n) (hd : decode y.2.1 pc = .ok (.bastore, 1)) (kk : WP γ l y d nE nX (pc + 1) L S n (u2 M a i v) R K) : WP γ l y d nE nX pc L (.int v :: .int x :: .ref a :: S) n M R K := by
  obtain ⟨hin, hcl⟩ := ix_in hx hi (ln_le a)
  have e := wl_ari (γ := γ) (M := M) (R := R) (a := a) (by omega) (by omega) h8 ha
  have e2 := wl_sti (γ := γ) (M := M) (R := R) (a := a) (i := i) (x := v) (by omega) (by omega) h8 ha
  rw [ht] at e e2
  refine fun p e0 R0 s m args below meth c Q H locs ls C0 hret hW h1 h2 hl => va_zast C0.1 C0.2.1 C0.2.2.2.2.2.1.1 hW.1 (wl_D γ n M R) hW.2 (a - 8) 2 e rfl hin hd (fun H1 locs1 hP1 _ hS1 => ?_)
  rw [hcl, hv, e2] at hP1
  exact kk p e0 R0 s m args below meth c Q H1 locs1 ls C0 hret ⟨hP1, hS1⟩ h1 h2 hl
def arC (t : Nat) : Nat := if t = 13 then 4 else if t = 14 then 3 else 0
theorem tys_q {γ : Gm} {t : Nat} (h1 : 13 ≤ t) (h2 : t < 16) : ∃ (k : Nat) (q : vw_C), (tysG γ)[k]? = some (gC γ t, .object q.1) ∧ vwCl[arC t]? = some q := by
  rcases (show t = 13 ∨ t = 14 ∨ t = 15 by omega) with rfl | rfl | rfl
  · exact ⟨3, _, rfl, rfl⟩
  · exact ⟨4, _, rfl, rfl⟩
  · exact ⟨5, _, rfl, rfl⟩
theorem wp_aald {a i : Nat} {x : Int32} (hx : x = nI i) (ht : 13 ≤ tg a ∧ tg a < 16) (hi : i < ln a) (h0 : R a i ≠ 0) (ha : a < n) (hd : decode y.2.1 pc = .ok (.aaload, 1)) (kk : WP γ l y d nE nX (pc + 1) L (.ref (R a i) :: S) n M R K) : WP γ l y d nE nX pc L (.int x :: .ref a :: S) n M R K := by
  obtain ⟨hin, hcl⟩ := ix_in hx hi (ln_le a)
  have h8 := (sh_at (tg_lt ht.2)).2.1 (by omega) ht.2
  have e := wl_arq (γ := γ) (M := M) (R := R) (a := a) ht.1 h8 ha
  obtain ⟨k, q, hk, hq⟩ := tys_q (γ := γ) ht.1 ht.2
  refine fun p e0 R0 s m args below meth c Q H locs ls C0 hret hW h1 h2 hl => va_aldq C0.1 C0.2.1 C0.2.2.2.2.2.1.1 hW.1 (a - 8) k e hk hin hd ?_
  rw [hcl, show va_rf (rq γ (R a i)) = .ref (ph γ (R a i)) by rw [rq, if_neg h0]; rfl]
  exact kk p e0 R0 s m args below meth c Q H locs ls C0 hret hW h1 h2 hl
theorem wp_aast {a i r : Nat} {x : Int32} (hx : x = nI i) (ht : 13 ≤ tg a ∧ tg a < 16) (hi : i < ln a) (hr : tg r = arC (tg a)) (ha : a < n) (hrn : r < n) (hd : decode y.2.1 pc = .ok (.aastore, 1)) (kk : WP γ l y d nE nX (pc + 1) L S n M (u2 R a i r) K) : WP γ l y d nE nX pc L (.ref r :: .int x :: .ref a :: S) n M R K := by
  obtain ⟨hin, hcl⟩ := ix_in hx hi (ln_le a)
  have h8 := (sh_at (tg_lt ht.2)).2.1 (by omega) ht.2
  have e := wl_arq (γ := γ) (M := M) (R := R) (a := a) ht.1 h8 ha
  obtain ⟨k, q, hk, hq⟩ := tys_q (γ := γ) ht.1 ht.2
  have hr7 : tg r < 7 := by rw [hr]; exact cl_lt hq
  have hr8 := (tg_obj (a := r) (by omega)).1
  have e2 := wl_stq (γ := γ) (M := M) (R := R) (a := a) (i := i) (r := r) ht.1 h8 ha (by omega)
  refine fun p e0 R0 s m args below meth c Q H locs ls C0 hret hW h1 h2 hl => va_astq C0.1 C0.2.1 C0.2.2.2.2.2.1.1 hW.1 (wl_D γ n M R) hW.2 (a - 8) k (r - 8) (arC (tg a)) e hk (wl_obj hr (by omega) hrn) hq hin hd (fun H1 locs1 hP1 _ hS1 => ?_)
  rw [hcl, e2] at hP1
  exact kk p e0 R0 s m args below meth c Q H1 locs1 ls C0 hret ⟨hP1, hS1⟩ h1 h2 hl
theorem wp_copy {a b idx i j k : Nat} {x z w : Int32} (hx : x = nI i) (hz : z = nI j) (hw : w = nI k) (hta : tg a = 10) (htb : tg b = 10) (h8a : 8 ≤ a) (h8b : 8 ≤ b) (hi : i + k ≤ ln a) (hj : j + k ≤ ln b) (ha : a < n) (hb : b < n) (h1d : 1 ≤ d) (hS : S.length ≤ 4) (hlk : Cond.methodLink y.1.cls idx arraycopyName ∈ WS)
    (hd : decode y.2.1 pc = .ok (.invokestatic idx, 3)) (kk : WP γ l y d nE nX (pc + 3) L S n (up M b (va_cpy (M a) (M b) i j k)) R K) : WP γ l y d nE nX pc L (.int w :: .int z :: .ref b :: .int x :: .ref a :: S) n M R K := by
  have la := ln_le a
  have lb := ln_le b
  subst hx; subst hz; subst hw
  have ea := wl_ari (γ := γ) (M := M) (R := R) (a := a) (by omega) (by omega) h8a ha
  have eb := wl_ari (γ := γ) (M := M) (R := R) (a := b) (by omega) (by omega) h8b hb
  rw [hta] at ea
  rw [htb] at eb
  have hcat : ∀ T : List Value, (T.map fun v => v.category).sum ≤ 2 * T.length := by
    intro T
    induction T with
    | nil => exact Nat.le_refl _
    | cons v T ih =>
      rw [List.map_cons, List.sum_cons, List.length_cons]
      have := lv_cat v
      omega
  intro p e R0 s m args below meth c Q H locs ls C0 hret hW h1 h2 hl
  have hr0 := C0.2.2.2.2.2.2.1
  refine va_copyi C0.1 C0.2.1 (C0.2.2.1.trans hl.1.symm) C0.2.2.2.1 (C0.2.2.2.2.1 _ hlk) (C0.2.2.2.2.1 _ qw_native) (C0.2.2.2.2.1 _ qw_static) (C0.2.2.2.2.1 _ qw_system) C0.2.2.2.2.2.1.1 hW.1 (wl_D γ n M R) hW.2 (a - 8) (b - 8) 0 0 ea eb rfl rfl rfl (nI_pos (by omega)) (nI_pos (by omega)) (nI_pos (by omega)) (by rw [nI_clamp (by omega), nI_clamp (by omega)]; exact hi) (by rw [nI_clamp (by omega), nI_clamp (by omega)]; exact hj) (fun _ _ => rfl) (by omega) ?_ hd (fun H1 locs1 hP1 _ hS1 => ?_)
  · have h3 := hcat (S.map (pv γ))
    rw [List.length_map] at h3
    have h4 : nativeFrameWords "java/lang/System" "arraycopy" 5 = 7 := by decide +kernel
    omega
  · rw [nI_clamp (by omega), nI_clamp (by omega), nI_clamp (by omega)] at hP1
    have e2 : (wl γ n M R).set (b - 8) (ph γ b, .inl (gC γ 10, ln b, .inl (va_cpy (M a) (M b) i j k))) = wl γ n (up M b (va_cpy (M a) (M b) i j k)) R := by
      refine wl_set h8b hb ?_ (fun j hj => ce_congr (up_n _ _ hj) rfl)
      rw [ce_i (by omega) (by omega), up_s, htb]
    rw [e2] at hP1
    exact kk p e R0 s m args below meth c Q H1 locs1 ls C0 hret ⟨hP1, hS1⟩ h1 h2 hl
end HROWS
end
section
/-! CALLS -/
def CaZ (z : Mt) (np : Nat) : Prop := Cond.initialized z.1.cls ∈ WS ∧ Cond.code z.1 z.2.1 z.2.2.1 z.2.2.2 ∈ WS ∧ (z.1.cls ≠ "java/lang/invoke/MethodHandle" ∧ z.1.cls ≠ "java/lang/invoke/VarHandle" ∧ (parseMethodDescriptor z.1.desc).map (fun d => d.parameters.length) = some np) ∧ plainFor z.1 = true ∧ z.2.2.1 ≤ 15
def CaV (own : String) (idx : Nat) (z : Mt) (np ci : Nat) : Prop := (Cond.methodLink own idx z.1 ∈ WS ∧ Cond.instanceMethod z.1 ∈ WS ∧ Cond.selects z.1.cls z.1 z.1 ∈ WS) ∧ CaZ z np ∧ ∃ q : vw_C, vwCl[ci]? = some q ∧ q.1 = z.1.cls
def CaS (own : String) (idx : Nat) (z : Mt) (np : Nat) : Prop := (Cond.methodLink own idx z.1 ∈ WS ∧ Cond.static z.1 ∈ WS) ∧ CaZ z np
def CaSN (own : String) (idx : Nat) (z : Mt) (np : Nat) : Prop := (∃ host : String, Cond.methodLinkNest own idx z.1 host ∈ NW) ∧ Cond.static z.1 ∈ WS ∧ CaZ z np
def CaI (own : String) (idx : Nat) (z : Mt) : Prop := (Cond.methodLink own idx z.1 ∈ WS ∧ Cond.instanceMethod z.1 ∈ WS) ∧ z.1.name = "<init>" ∧ z.2.2.2 = none ∧ CaZ z 0
def CaIN (own : String) (idx : Nat) (z : Mt) : Prop := (∃ host : String, Cond.methodLinkNest own idx z.1 host ∈ NW) ∧ Cond.instanceMethod z.1 ∈ WS ∧ z.1.name = "<init>" ∧ z.2.2.2 = none ∧ CaZ z 0
theorem nest_tab {w : Cond} (h : nestW w = true) : w.onTables = true := by
  cases w <;> first | rfl | exact Bool.noConfusion h
theorem nest_use {γ : Gm} {s : State} (hK : KK γ s) {w : Cond} (h : w ∈ NW) (args : Array Value) : w.before args s = true := va_Nw.use (nest_tab (List.mem_filter.mp h).2) (hK.2.1 w h)
theorem good_z {z : Mt} (h : Cond.code z.1 z.2.1 z.2.2.1 z.2.2.2 ∈ WS) : GoodIn WS (Cond.code z.1 z.2.1 z.2.2.1 z.2.2.2 :: WS) := by
  intro w hw
  have hw2 : w ∈ WS := by
    rcases List.mem_cons.mp hw with rfl | h1
    · exact h
    · exact h1
  exact ⟨hw2, WS_good hw2⟩
theorem cat_sum : ∀ T : List Value, (T.map fun v => v.category).sum ≤ 2 * T.length := by
  intro T
  induction T with
  | nil => exact Nat.le_refl _
  | cons v T ih =>
    rw [List.map_cons, List.sum_cons, List.length_cons]
    have := lv_cat v
    omega
section CROWS
variable {γ : Gm} {l : Launch} {y z : Mt} {d dz nE nX pc n n' np idx : Nat} {L : List (Option Value)} {S As : List Value} {M : Mm} {R : Rm} {K : Option Value → Nat → Mm → Rm → Prop}
abbrev kAft (γ : Gm) (l : Launch) (y : Mt) (d nE nX pc : Nat) (L : List (Option Value)) (S : List Value) (K : Option Value → Nat → Mm → Rm → Prop) : Option Value → Nat → Mm → Rm → Prop := fun r n1 M1 R1 => WP γ l y d nE nX (pc + 3) L (r.toList ++ S) n1 M1 R1 K
theorem st_room {m : MethodId} {pc : Nat} {ls : Array Slot} {st : List Value} (hS : S.length ≤ 4) : 2 * (F0 m pc ls st).monitorRoom + ((S.map (pv γ)).map fun v => v.category).sum ≤ 8 := by
  have h := cat_sum (S.map (pv γ))
  rw [List.length_map] at h
  exact lv_room (by omega)
/-- what comes behind a call -/
theorem call_go {p : Program} {e : Env} {R0 : Room} {s : State} {m : MethodId} {args : Array Value} {below : List Frame} {meth : Method} {c : Code} {H : Heap} {locs : List Loc} {Q : State → Prop} {ls : Array Slot} {st0 : List Value} {a : Array Value}
    (C0 : Cx γ y d nE nX p R0 s m args meth c) (hret : ∀ (pc' : Nat) (v : Option Value) (M' : Mm) (R' : Rm) (H' : Heap) (locs' : List Loc) (ls' : Array Slot), retOk y pc' v → Wd γ nX M' R' s H' locs' → K v nX M' R' →
      W p l e R0 s m args below meth c H' locs' (nX - nE) (sl nX - sl nE) Q (F0 m pc' ls' (v.map (pv γ)).toList)) (h1 : nE ≤ n) (hn : n ≤ n') (hnX : n' ≤ nX) (hl : lvh γ ls y.2.2.1 L) (hS : va_S (aN γ) s.heap H locs)
    (hr : va_Run p l e R0 s m args below meth c H locs (n - nE) (sl n - sl nE) (n' - n) (sl n' - sl n) (F0 m pc ls st0) (S.map (pv γ)) (QcW γ n' (kAft γ l y d nE nX pc L S K) a) (aN γ)) :
    W p l e R0 s m args below meth c H locs (n - nE) (sl n - sl nE) Q (F0 m pc ls st0) := by
  refine call_fin hr hS fun r M' R' H1 locs1 hK hW => ?_
  have hsl1 := sl_mono h1
  have hsl2 := sl_mono hn
  have h := hK p e R0 s m args below meth c Q H1 locs1 ls C0 hret hW (by omega) hnX hl
  rw [show n - nE + (n' - n) = n' - nE by omega, show sl n - sl nE + (sl n' - sl n) = sl n' - sl nE by omega]
  rw [List.map_append] at h
  cases r with
  | none => exact h
  | some v => exact h
theorem room_z {R0 : Room} {s : State} (hR : d ≤ R0.frames ∧ 34 * d ≤ R0.locals ∧ nX - nE ≤ R0.cells ∧ sl nX - sl nE ≤ R0.slots) (hdz : dz + 1 ≤ d) (hm : z.2.2.1 ≤ 15) : (rmW dz n n').frames + 1 ≤ R0.frames ∧ 8 + (z.2.2.1 + 11) + (rmW dz n n').locals ≤ R0.locals := by
  show dz + 1 ≤ R0.frames ∧ 8 + (z.2.2.1 + 11) + 34 * dz ≤ R0.locals
  omega
theorem room_c {R0 : Room} (hR : d ≤ R0.frames ∧ 34 * d ≤ R0.locals ∧ nX - nE ≤ R0.cells ∧ sl nX - sl nE ≤ R0.slots) (h1 : nE ≤ n) (hn : n ≤ n') (hnX : n' ≤ nX) : n - nE + (n' - n) ≤ R0.cells ∧ sl n - sl nE + (sl n' - sl n) ≤ R0.slots := by
  have hsl1 := sl_mono h1
  have hsl2 := sl_mono hn
  have hsl3 := sl_mono hnX
  omega
theorem wp_callV {b ci : Nat} (hc : CaV y.1.cls idx z np ci) (hd : decode y.2.1 pc = .ok (.invokevirtual idx, 3)) (hnp : As.length = np) (hiL : (iL As).length + 1 ≤ z.2.2.1) (hdz : dz + 1 ≤ d) (ht : tg b = ci) (hb : b < n) (hS : S.length ≤ 4) (hn : n ≤ n') (hnX : n' ≤ nX)
    (kk : CL γ l z dz n n' (.ref b :: As) M R (kAft γ l y d nE nX pc L S K)) : WP γ l y d nE nX pc L (As.reverse ++ .ref b :: S) n M R K := by
  obtain ⟨⟨w1, w2, w3⟩, ⟨z1, z2, z3, z4, z5⟩, q, hq, hqc⟩ := hc
  intro p e R0 s m args below meth c Q H locs ls C0 hret hW h1 h2 hl
  refine W_sz fun hu => ?_
  have hHs := wd_size hW C0.2.2.2.2.2.2.2.1.1 C0.2.2.2.2.2.2.2.1.2 h1 hu
  have h8 := C0.2.2.2.2.2.2.2.1.1
  have hts := C0.2.2.2.2.1
  have hM := met_of (z := z) (As := .ref b :: As) z4 hn (by show (some _ :: iL As).length ≤ _; rw [List.length_cons]; exact hiL) kk
  have hR := C0.2.2.2.2.2.2.1
  refine call_go C0 hret h1 hn hnX hl hW.2 (va_runV (As := As.map (pv γ)) (n := np) ⟨C0.1, C0.2.1, C0.2.2.1, C0.2.2.2.1, hts⟩ hM
    ⟨callB_of np hts (good_z z2) rfl rfl rfl (hts _ z1) (hts _ w1) z3 (room_z (s := s) hR hdz z5), hts _ w2, hts _ w3⟩
    ⟨pcW_blind, by rw [← hqc]; exact va_recv C0.2.2.2.2.2.1.1 hW.1 hq (wl_obj (γ := γ) (M := M) (R := R) ht (cl_lt hq) hb), pcW_at C0.2.2.2.2.2.1 (by omega) hHs hW⟩ rfl (by rw [List.length_map]; exact hnp) hl.1 ?_ (st_room hS) hd (room_c hR h1 hn hnX))
  show ((As.reverse ++ .ref b :: S).map (pv γ)) = _
  rw [List.map_append, List.map_reverse]
  rfl
theorem wp_callS (hc : CaS y.1.cls idx z np) (hd : decode y.2.1 pc = .ok (.invokestatic idx, 3)) (hnp : As.length = np) (hiL : (iL As).length ≤ z.2.2.1) (hdz : dz + 1 ≤ d) (hS : S.length ≤ 4) (hn : n ≤ n') (hnX : n' ≤ nX)
    (kk : CL γ l z dz n n' As M R (kAft γ l y d nE nX pc L S K)) : WP γ l y d nE nX pc L (As.reverse ++ S) n M R K := by
  obtain ⟨⟨w1, w2⟩, z1, z2, z3, z4, z5⟩ := hc
  intro p e R0 s m args below meth c Q H locs ls C0 hret hW h1 h2 hl
  refine W_sz fun hu => ?_
  have hHs := wd_size hW C0.2.2.2.2.2.2.2.1.1 C0.2.2.2.2.2.2.2.1.2 h1 hu
  have h8 := C0.2.2.2.2.2.2.2.1.1
  have hts := C0.2.2.2.2.1
  have hM := met_of (z := z) (As := As) z4 hn hiL kk
  have hR := C0.2.2.2.2.2.2.1
  refine call_go C0 hret h1 hn hnX hl hW.2 (va_runS (As := As.map (pv γ)) (n := np) ⟨C0.1, C0.2.1, C0.2.2.1, C0.2.2.2.1, hts⟩ hM
    ⟨callB_of np hts (good_z z2) rfl rfl rfl (hts _ z1) (hts _ w1) z3 (room_z (s := s) hR hdz z5), hts _ w2⟩
    ⟨pcW_blind, pcW_at C0.2.2.2.2.2.1 (by omega) hHs hW⟩ rfl (by rw [List.length_map]; exact hnp) hl.1 ?_ (st_room hS) hd (room_c hR h1 hn hnX))
  show ((As.reverse ++ S).map (pv γ)) = _
  rw [List.map_append, List.map_reverse]
theorem wp_callSN (hc : CaSN y.1.cls idx z np) (hd : decode y.2.1 pc = .ok (.invokestatic idx, 3)) (hnp : As.length = np) (hiL : (iL As).length ≤ z.2.2.1) (hdz : dz + 1 ≤ d) (hS : S.length ≤ 4) (hn : n ≤ n') (hnX : n' ≤ nX)
    (kk : CL γ l z dz n n' As M R (kAft γ l y d nE nX pc L S K)) : WP γ l y d nE nX pc L (As.reverse ++ S) n M R K := by
  obtain ⟨⟨host, w1⟩, w2, z1, z2, z3, z4, z5⟩ := hc
  intro p e R0 s m args below meth c Q H locs ls C0 hret hW h1 h2 hl
  refine W_sz fun hu => ?_
  have hHs := wd_size hW C0.2.2.2.2.2.2.2.1.1 C0.2.2.2.2.2.2.2.1.2 h1 hu
  have h8 := C0.2.2.2.2.2.2.2.1.1
  have hts := C0.2.2.2.2.1
  have hM := met_of (z := z) (As := As) z4 hn hiL kk
  have hR := C0.2.2.2.2.2.2.1
  refine call_go C0 hret h1 hn hnX hl hW.2 (va_runSN (As := As.map (pv γ)) (n := np) ⟨C0.1, C0.2.1, C0.2.2.1, C0.2.2.2.1, hts⟩ hM
    ⟨va_cnB np hts (good_z z2) rfl rfl rfl (C0.2.2.2.2.2.1.2.1 _ w1) (hts _ z1) z3 (room_z (s := s) hR hdz z5), hts _ w2, trivial⟩
    ⟨pcW_blind, pcW_at C0.2.2.2.2.2.1 (by omega) hHs hW⟩ rfl (by rw [List.length_map]; exact hnp) hl.1 ?_ (st_room hS) hd (room_c hR h1 hn hnX))
  show ((As.reverse ++ S).map (pv γ)) = _
  rw [List.map_append, List.map_reverse]
theorem wp_callI {b : Nat} (hc : CaI y.1.cls idx z) (hd : decode y.2.1 pc = .ok (.invokespecial idx, 3)) (hiL : 1 ≤ z.2.2.1) (hdz : dz + 1 ≤ d) (hS : S.length ≤ 4) (hn : n ≤ n') (hnX : n' ≤ nX)
    (kk : CL γ l z dz n n' [.ref b] M R (kAft γ l y d nE nX pc L S K)) : WP γ l y d nE nX pc L (.ref b :: S) n M R K := by
  obtain ⟨⟨w1, w2⟩, hnm, hr, z1, z2, z3, z4, z5⟩ := hc
  intro p e R0 s m args below meth c Q H locs ls C0 hret hW h1 h2 hl
  refine W_sz fun hu => ?_
  have hHs := wd_size hW C0.2.2.2.2.2.2.2.1.1 C0.2.2.2.2.2.2.2.1.2 h1 hu
  have h8 := C0.2.2.2.2.2.2.2.1.1
  have hts := C0.2.2.2.2.1
  have hM := met_of (z := z) (As := [.ref b]) z4 hn hiL kk
  have hR := C0.2.2.2.2.2.2.1
  have hg := good_z z2
  rw [hr] at hM hg
  exact call_go C0 hret h1 hn hnX hl hW.2 (va_runI (As := []) (n := 0) ⟨C0.1, C0.2.1, C0.2.2.1, C0.2.2.2.1, hts⟩ hM
    ⟨callB_of 0 hts hg rfl rfl rfl (hts _ z1) (hts _ w1) z3 (room_z (s := s) hR hdz z5), hnm, hts _ w2⟩
    ⟨pcW_blind, pcW_at (As := [.ref b]) C0.2.2.2.2.2.1 (by omega) hHs hW⟩ rfl rfl hl.1 rfl (st_room hS) hd (room_c hR h1 hn hnX))
theorem wp_callIN {b : Nat} (hc : CaIN y.1.cls idx z) (hd : decode y.2.1 pc = .ok (.invokespecial idx, 3)) (hiL : 1 ≤ z.2.2.1) (hdz : dz + 1 ≤ d) (hS : S.length ≤ 4) (hn : n ≤ n') (hnX : n' ≤ nX)
    (kk : CL γ l z dz n n' [.ref b] M R (kAft γ l y d nE nX pc L S K)) : WP γ l y d nE nX pc L (.ref b :: S) n M R K := by
  obtain ⟨⟨host, w1⟩, w2, hnm, hr, z1, z2, z3, z4, z5⟩ := hc
  intro p e R0 s m args below meth c Q H locs ls C0 hret hW h1 h2 hl
  refine W_sz fun hu => ?_
  have hHs := wd_size hW C0.2.2.2.2.2.2.2.1.1 C0.2.2.2.2.2.2.2.1.2 h1 hu
  have h8 := C0.2.2.2.2.2.2.2.1.1
  have hts := C0.2.2.2.2.1
  have hM := met_of (z := z) (As := [.ref b]) z4 hn hiL kk
  have hR := C0.2.2.2.2.2.2.1
  have hg := good_z z2
  rw [hr] at hM hg
  exact call_go C0 hret h1 hn hnX hl hW.2 (va_runIN (As := []) (n := 0) ⟨C0.1, C0.2.1, C0.2.2.1, C0.2.2.2.1, hts⟩ hM
    ⟨va_cnB 0 hts hg rfl rfl rfl (C0.2.2.2.2.2.1.2.1 _ w1) (hts _ z1) z3 (room_z (s := s) hR hdz z5), hnm, hts _ w2⟩
    ⟨pcW_blind, pcW_at (As := [.ref b]) C0.2.2.2.2.2.1 (by omega) hHs hW⟩ rfl rfl hl.1 rfl (st_room hS) hd (room_c hR h1 hn hnX))
end CROWS
end
section
/-! NEW CELLS, STATIC TABLES, THE SCRIPT -/
section AROWS
variable {γ : Gm} {l : Launch} {y : Mt} {d nE nX pc n idx : Nat} {L : List (Option Value)} {S : List Value} {M : Mm} {R : Rm} {K : Option Value → Nat → Mm → Rm → Prop}
theorem q_new {q : Nat} {e : va_E} {H1 : Heap} (hP : va_P γ.1 vwCl (wl γ n M R ++ [(q, e)]) H1) (hD : va_D (aN γ) (wl γ n M R ++ [(q, e)])) (h8 : 8 ≤ n) (hu : H1.size ≤ gN γ + (n - 8) + 1) : q = gN γ + (n - 8) := by
  have hl : (wl γ n M R ++ [(q, e)])[n - 8]? = some (q, e) := by
    rw [List.getElem?_append_right (by rw [wl_len]; omega), wl_len, Nat.sub_self]
    rfl
  have h1 := (hP _ _ hl).lt
  have h2 := hD.2 _ _ hl
  have h1 : q < H1.size := h1
  have h2 : gN γ ≤ q := h2
  rcases Nat.lt_or_ge q (gN γ + (n - 8)) with h | h
  · have h3 : (wl γ n M R ++ [(q, e)])[q - gN γ]? = some (gN γ + (q - gN γ), ce γ M R (q - gN γ + 8)) := by
      rw [List.getElem?_append_left (by rw [wl_len]; omega)]
      have h4 := wl_get (γ := γ) (n := n) (M := M) (R := R) (k := q - gN γ + 8) (by omega) (by omega)
      rw [Nat.add_sub_cancel, ph_new γ (by omega), Nat.add_sub_cancel] at h4
      exact h4
    have h5 := hD.1 _ _ _ _ h3 hl (show gN γ + (q - gN γ) = q by omega)
    omega
  · omega
abbrev z0 {α : Type} [OfNat α 0] (f : Nat → Nat → α) (n : Nat) : Nat → Nat → α := up f n (fun _ => 0)
theorem wp_new {ci : Nat} (hcl : ∃ q : vw_C, vwCl[ci]? = some q ∧ Cond.classLink y.1.cls idx q.1 ∈ WS) (ht : tg n = ci) (hnX : n + 1 ≤ nX) (hd : decode y.2.1 pc = .ok (.new idx, 3)) (kk : WP γ l y d nE nX (pc + 3) L (.ref n :: S) (n + 1) (z0 M n) (z0 R n) K) : WP γ l y d nE nX pc L S n M R K := by
  obtain ⟨⟨C, T, N⟩, hq, hlink⟩ := hcl
  obtain ⟨hN, hin, ⟨ty0, hty0, hdf⟩, hnm, hins, hini⟩ := cls_ok hq
  have h7 := cl_lt hq
  obtain ⟨h8, -, hln⟩ := tg_obj (a := n) (by omega)
  have hN : N = cn ci := hN
  intro p e R0 s m args below meth c Q H locs ls C0 hret hW h1 h2 hl
  have hR := C0.2.2.2.2.2.2.1
  have hs := C0.2.2.2.2.2.2.2.1
  have m1 := sl_mono h1
  have m2 := sl_mono hnX
  have e1 : sl (n + 1) = sl n + cn ci := by
    show sl n + ln n = _
    rw [hln, ht]
  refine va_new (ci := ci) (fs := (List.range (cn ci)).map (fv γ (z0 M n) (z0 R n) n)) C0.1 C0.2.1 C0.2.2.2.2.1 hin ty0 hty0 C0.2.2.2.1 (C0.2.2.2.2.1 _ hlink) (C0.2.2.2.2.1 _ hins) (C0.2.2.2.2.1 _ hini) C0.2.2.2.2.2.1.1 hW.1 (wl_D γ n M R) hW.2 (fun q h => Nat.le_trans C0.2.2.2.2.2.1.2.2.2.2.1 h) hq (fun j hj => ?_) (by omega) (by omega) hd (fun q H1 hP1 hD1 hS1 => ?_)
  · rw [hdf j hj, vp_V, List.getD_eq_getElem?_getD, List.getElem?_map, List.getElem?_range (by omega), Option.map_some, Option.getD_some, fv, ht, z0, z0, up_s, up_s, rv, if_pos rfl]
  · refine W_sz fun hu => ?_
    have hqn := q_new hP1 hD1 h8 (by omega)
    subst hqn
    rw [wl_push (M' := z0 M n) (R' := z0 R n) h8 (by rw [ce_o (by omega), hln, ht]) (fun j hj => ce_congr (up_n _ _ hj) (up_n _ _ hj))] at hP1
    have h := kk p e R0 s m args below meth c Q H1 locs ls C0 hret ⟨hP1, hS1⟩ (by omega) hnX hl
    rw [show n - nE + 1 = n + 1 - nE by omega, show sl n - sl nE + N = sl (n + 1) - sl nE by omega]
    rw [List.map_cons, show pv γ (.ref n) = .ref (gN γ + (n - 8)) by rw [pv, ph_new γ h8]] at h
    exact h
/-- a new array of numbers: tag t, its class at the place t - 10 of tysG -/
theorem wp_newa {atype : ArrayType} {ty : FieldType} {t N : Nat} {x : Int32} (hty : newarray.typeOf atype = ty) (h1t : 10 ≤ t) (h2t : t < 13) (hts : (tysG γ)[t - 10]? = some (gC γ t, ty)) (hra : ∀ (s : State) (cA : ClassId), va_RA s cA ty → s.vm.findClass ("[" ++ ty.toString) = some cA) (hdf : defaultValue ty = .int 0) (hcb : componentBytes ty ≤ 4) (harr : Cond.arrayClass (newarray.typeOf atype) ∈ WS) (hx : x = nI N) (ht : tg n = t) (hN : ln n = N) (h8 : 8 ≤ n) (hnX : n + 1 ≤ nX) (hd : decode y.2.1 pc = .ok (.newarray atype, 2))
    (kk : WP γ l y d nE nX (pc + 2) L (.ref n :: S) (n + 1) (z0 M n) (z0 R n) K) : WP γ l y d nE nX pc L (.int x :: S) n M R K := by
  subst hx
  have hN2 := ln_le n
  intro p e R0 s m args below meth c Q H locs ls C0 hret hW h1 h2 hl
  have hR := C0.2.2.2.2.2.2.1
  have hs := C0.2.2.2.2.2.2.2.1
  have m1 := sl_mono h1
  have m2 := sl_mono hnX
  have e1 : sl (n + 1) = sl n + N := by
    show sl n + ln n = _
    rw [hN]
  have hK := C0.2.2.2.2.2.1.1
  have hNb : N * componentBytes ty ≤ 2220 * 4 := Nat.mul_le_mul (by omega) hcb
  refine va_newa (a0 := (N, .inl (fun _ => 0))) C0.1 C0.2.1 (C0.2.2.2.2.1 _ harr) hty hK hW.1 (wl_D γ n M R) hW.2 (fun q h => Nat.le_trans C0.2.2.2.2.2.1.2.2.2.2.1 h) (fun cA => by rw [hdf]; rfl) (nI_pos (by omega)) (nI_clamp (by omega)) (by omega) (by omega) (by omega) hd (fun q cA H1 hK1 hP1 hD1 hS1 => ?_)
  refine W_sz fun hu => ?_
  have hqn := q_new hP1 hD1 h8 (by omega)
  subst hqn
  have hcA : cA = gC γ t := by
    have r1 := hra s _ (hK1.2 6 (cA, ty) rfl).2
    have r2 := hra s _ (hK.2 _ _ hts).2
    exact Option.some.inj (r1.symm.trans r2)
  subst hcA
  rw [wl_push (M' := z0 M n) (R' := z0 R n) h8 (by rw [ce_i (by omega) (by omega), hN, ht, z0, up_s]) (fun j hj => ce_congr (up_n _ _ hj) (up_n _ _ hj))] at hP1
  have h := kk p e R0 s m args below meth c Q H1 locs ls C0 hret ⟨hP1, hS1⟩ (by omega) hnX hl
  rw [show n - nE + 1 = n + 1 - nE by omega, show sl n - sl nE + N = sl (n + 1) - sl nE by omega]
  rw [List.map_cons, show pv γ (.ref n) = .ref (gN γ + (n - 8)) by rw [pv, ph_new γ h8]] at h
  exact h
/-- a new array of references -/
theorem wp_newq {t N : Nat} {x : Int32} {C : String} (h1t : 13 ≤ t) (hts : (tysG γ)[t - 10]? = some (gC γ t, .object C)) (hover : ∀ s : State, KK γ s → va_AO C s) (hlink : Cond.classLink y.1.cls idx C ∈ WS) (hx : x = nI N) (ht : tg n = t) (hN : ln n = N) (h8 : 8 ≤ n) (hnX : n + 1 ≤ nX) (hd : decode y.2.1 pc = .ok (.anewarray idx, 3))
    (kk : WP γ l y d nE nX (pc + 3) L (.ref n :: S) (n + 1) (z0 M n) (z0 R n) K) : WP γ l y d nE nX pc L (.int x :: S) n M R K := by
  subst hx
  have hN2 := ln_le n
  intro p e R0 s m args below meth c Q H locs ls C0 hret hW h1 h2 hl
  have hR := C0.2.2.2.2.2.2.1
  have hs := C0.2.2.2.2.2.2.2.1
  have m1 := sl_mono h1
  have m2 := sl_mono hnX
  have e1 : sl (n + 1) = sl n + N := by
    show sl n + ln n = _
    rw [hN]
  have hK := C0.2.2.2.2.2.1.1
  refine va_newq (N' := N) C0.1 C0.2.1 C0.2.2.2.1 (C0.2.2.2.2.1 _ hlink) (hover s C0.2.2.2.2.2.1) hK hW.1 (wl_D γ n M R) hW.2 (fun q h => Nat.le_trans C0.2.2.2.2.2.1.2.2.2.2.1 h) (nI_pos (by omega)) (nI_clamp (by omega)) (by omega) (by omega) (by omega) hd (fun q cA H1 hK1 hP1 hD1 hS1 => ?_)
  refine W_sz fun hu => ?_
  have hqn := q_new hP1 hD1 h8 (by omega)
  subst hqn
  have hcA : cA = gC γ t := by
    obtain ⟨_, _, -, -, -, r1⟩ := (hK1.2 6 (cA, .object C) rfl).2
    obtain ⟨_, _, -, -, -, r2⟩ := (hK.2 _ _ hts).2
    exact Option.some.inj (r1.symm.trans r2)
  subst hcA
  rw [wl_push (M' := z0 M n) (R' := z0 R n) h8 (by rw [ce_q (by omega), hN, ht, z0, up_s]; rfl) (fun j hj => ce_congr (up_n _ _ hj) (up_n _ _ hj))] at hP1
  have h := kk p e R0 s m args below meth c Q H1 locs ls C0 hret ⟨hP1, hS1⟩ (by omega) hnX hl
  rw [show n - nE + 1 = n + 1 - nE by omega, show sl n - sl nE + N = sl (n + 1) - sl nE by omega]
  rw [List.map_cons, show pv γ (.ref n) = .ref (gN γ + (n - 8)) by rw [pv, ph_new γ h8]] at h
  exact h
theorem wp_objInit {a : Nat} (hlk : Cond.methodLink y.1.cls idx Lib.objectInit ∈ WS) (hi : Cond.instanceMethod Lib.objectInit ∈ WS) (hc : Cond.code Lib.objectInit ⟨#[0xb1]⟩ 1 none ∈ WS) (h1d : 1 ≤ d) (hS : S.length ≤ 4) (hd : decode y.2.1 pc = .ok (.invokespecial idx, 3)) (kk : WP γ l y d nE nX (pc + 3) L S n M R K) : WP γ l y d nE nX pc L (.ref a :: S) n M R K := by
  intro p e R0 s m args below meth c Q H locs ls C0 hret hW h1 h2 hl
  have hR := C0.2.2.2.2.2.2.1
  have hts := C0.2.2.2.2.1
  have h3 := st_room (γ := γ) (m := m) (pc := pc) (ls := ls) (st := (Value.ref a :: S).map (pv γ)) hS
  exact W.objInit C0.1 C0.2.1 C0.2.2.2.1 (hts _ hlk) (hts _ hi) (hts _ hc) rfl (hl.1.trans C0.2.2.1.symm) rfl hd (by omega) (by omega) (kk p e R0 s m args below meth c Q H locs ls C0 hret hW h1 h2 hl)
theorem stN_eq {γ : Gm} {s : State} {k : Nat} (hK : KK γ s) (h1 : 1 ≤ k) (h2 : k < 4) : StK γ s k := hK.2.2.2.1 k h1 h2
theorem wp_getst {k : Nat} (h1k : 1 ≤ k) (h2k : k < 4) {host : String} (hlk : Cond.fieldLinkNest y.1.cls idx RX5 (stN k) "[I" host ∈ NW) (hd : decode y.2.1 pc = .ok (.getstatic idx, 3)) (kk : WP γ l y d nE nX (pc + 3) L (.ref k :: S) n M R K) : WP γ l y d nE nX pc L S n M R K := by
  intro p e R0 s m args below meth c Q H locs ls C0 hret hW h1 h2 hl
  exact va_getsN C0.1 C0.2.1 (stN_eq C0.2.2.2.2.2.1 h1k h2k).1 hW.2 C0.2.2.2.1 (nest_use C0.2.2.2.2.2.1 hlk args) (fun _ h => h) hd (kk p e R0 s m args below meth c Q H locs ls C0 hret hW h1 h2 hl)
theorem wp_stld {k i : Nat} {x : Int32} (hx : x = nI i) (h1k : 1 ≤ k) (h2k : k < 4) (hi : i < 3) (hd : decode y.2.1 pc = .ok (.iaload, 1)) (kk : WP γ l y d nE nX (pc + 1) L (.int (stV k i) :: S) n M R K) : WP γ l y d nE nX pc L (.int x :: .ref k :: S) n M R K := by
  obtain ⟨hin, hcl⟩ := ix_in hx hi (by omega)
  intro p e R0 s m args below meth c Q H locs ls C0 hret hW h1 h2 hl
  exact va_ti C0.1 C0.2.1 (stN_eq C0.2.2.2.2.2.1 h1k h2k).2.1 hW.2 hin (by rw [hcl]; rfl) hd (kk p e R0 s m args below meth c Q H locs ls C0 hret hW h1 h2 hl)
theorem wp_slen (hd : decode y.2.1 pc = .ok (.arraylength, 1)) (kk : WP γ l y d nE nX (pc + 1) L (.int (nI γ.2.2.2.2.1) :: S) n M R K) : WP γ l y d nE nX pc L (.ref 4 :: S) n M R K := by
  intro p e R0 s m args below meth c Q H locs ls C0 hret hW h1 h2 hl
  have h := C0.2.2.2.2.2.1.2.2.2.2.2
  exact va_slen C0.1 C0.2.1 h.1 h.2.1 h.2.2 hW.2 hd (kk p e R0 s m args below meth c Q H locs ls C0 hret hW h1 h2 hl)
theorem wp_sld {i : Nat} {x : Int32} (hx : x = nI i) (hi : i < γ.2.2.2.2.1) (hL : γ.2.2.2.2.1 < 2 ^ 31) (hd : decode y.2.1 pc = .ok (.iaload, 1)) (kk : WP γ l y d nE nX (pc + 1) L (.int (γ.2.2.2.2.2 i) :: S) n M R K) : WP γ l y d nE nX pc L (.int x :: .ref 4 :: S) n M R K := by
  subst hx
  intro p e R0 s m args below meth c Q H locs ls C0 hret hW h1 h2 hl
  have h := C0.2.2.2.2.2.1.2.2.2.2.2
  refine va_sld C0.1 C0.2.1 h.1 h.2.1 h.2.2 hW.2 (vp_in_nI hi hL) hd ?_
  rw [nI_clamp (by omega)]
  exact kk p e R0 s m args below meth c Q H locs ls C0 hret hW h1 h2 hl
theorem wp_castI {a : Nat} (hlk : Cond.classLink y.1.cls idx "[I" ∈ WS) (ht : tg a = 10) (h8 : 8 ≤ a) (ha : a < n) (hd : decode y.2.1 pc = .ok (.checkcast idx, 3)) (kk : WP γ l y d nE nX (pc + 3) L (.ref a :: S) n M R K) : WP γ l y d nE nX pc L (.ref a :: S) n M R K := by
  intro p e R0 s m args below meth c Q H locs ls C0 hret hW h1 h2 hl
  have e1 := wl_ari (γ := γ) (M := M) (R := R) (a := a) (by omega) (by omega) h8 ha
  rw [ht] at e1
  have hnm : s.vm.findClass "[I" = some (gC γ 10) := (C0.2.2.2.2.2.1.1.2 0 _ rfl).2
  exact va_castA C0.1 C0.2.1 C0.2.2.2.1 (C0.2.2.2.2.1 _ hlk) hW.1 (a - 8) e1 hnm hd (kk p e R0 s m args below meth c Q H locs ls C0 hret hW h1 h2 hl)
set_option maxHeartbeats 1000000 in
theorem wp_clone (hlk : Cond.methodLink y.1.cls idx ⟨"[I", "clone", "()Ljava/lang/Object;"⟩ ∈ WS) (hsm : Cond.sameMethod "[I" "java/lang/Object" "clone" "()Ljava/lang/Object;" ∈ WS) (hnat : Cond.native ⟨"java/lang/Object", "clone", "()Ljava/lang/Object;"⟩ ∈ WS) (hinst : Cond.instanceMethod ⟨"java/lang/Object", "clone", "()Ljava/lang/Object;"⟩ ∈ WS) (hsel : Cond.selects "[I" ⟨"[I", "clone", "()Ljava/lang/Object;"⟩ ⟨"java/lang/Object", "clone", "()Ljava/lang/Object;"⟩ ∈ WS) (hcl : Cond.castable "[I" "java/lang/Cloneable" ∈ NW)
    (ht : tg n = 10) (hN : ln n = 3) (h8 : 8 ≤ n) (hnX : n + 1 ≤ nX) (h1d : 1 ≤ d) (hS : S.length ≤ 4) (hd : decode y.2.1 pc = .ok (.invokevirtual idx, 3)) (kk : WP γ l y d nE nX (pc + 3) L (.ref n :: S) (n + 1) (up M n (stV 1)) (z0 R n) K) : WP γ l y d nE nX pc L (.ref 1 :: S) n M R K := by
  intro p e R0 s m args below meth c Q H locs ls C0 hret hW h1 h2 hl
  have hR := C0.2.2.2.2.2.2.1
  have hs := C0.2.2.2.2.2.2.2.1
  have hts := C0.2.2.2.2.1
  have hKK := C0.2.2.2.2.2.1
  have m1 := sl_mono h1
  have m2 := sl_mono hnX
  have e1 : sl (n + 1) = sl n + 3 := by
    show sl n + ln n = _
    rw [hN]
  obtain ⟨-, ⟨cell, g1, g2, g3, g4, -, g6, g7⟩, cell', k1, k2, k3⟩ := stN_eq hKK (k := 1) (by omega) (by omega)
  cases g1.symm.trans k1
  have hnm : s.vm.findClass "[I" = some (gC γ 10) := (hKK.1.2 0 _ rfl).2
  obtain ⟨c0, t0', f1, f2, f3⟩ := Cond.castable_spec (va_Nw.use (A := args) rfl (hKK.2.1 _ hcl))
  cases hnm.symm.trans f1
  have hcellE : ({ cls := cell.cls, slots := cell.slots } : Cell) = vp_cell (gC γ 10) (3, .inl (stV 1)) := by
    rw [vp_cell_i, k2]
    unfold arrV
    congr 1
    apply Array.ext
    · rw [k3, Array.size_ofFn]
    · intro i hi1 hi2
      have h9 := g6 i (by omega)
      rw [Array.getElem?_eq_getElem hi1] at h9
      rw [Option.some.inj h9, Array.getElem_ofFn]
  refine W_sz fun hu => ?_
  have hHs := wd_size hW hs.1 hs.2 h1 hu
  intro T hT X
  have hcellT : T.heap[ph γ 1]? = some cell := by
    rw [hT, hW.2.2.1 _ (Array.getElem?_eq_some_iff.mp g1).1 g7]
    exact g1
  obtain ⟨-, kA, hkA, comp, hkind⟩ := State.isArrayOf_alike X.warmed.alike g2
  obtain ⟨hobj, kS, hkS, compS, hkindS⟩ := g2
  have h3 := st_room (γ := γ) (m := m) (pc := pc) (ls := ls) (st := (Value.ref 1 :: S).map (pv γ)) hS
  obtain ⟨vm', X', st⟩ := X.cloneArray C0.1 C0.2.2.2.1 (hts _ hlk) (hts _ hsm) (hts _ hnat) (hts _ hinst) (hts _ hsel) (a := ph γ 1) (cell := cell) hcellT hobj g3 (by rw [k2]; exact hnm) f2 (by rw [k2]; exact f3)
    (fun i v hv => by
      have hi := (Array.getElem?_eq_some_iff.mp hv).1
      have h9 := g6 i (by omega)
      cases h9.symm.trans hv
      have hk' : T.vm.classes[cell.cls]? = some kA := hkA
      simp [State.fitsSlot, State.slotType?, hk', hkind, fits])
    (g := F0 m pc ls ((Value.ref 1 :: S).map (pv γ))) rfl (hl.1.trans C0.2.2.1.symm) (rest := S.map (pv γ)) rfl (by rw [C0.2.1]; exact hd) (by omega) (by omega) (by omega) (by omega) (hloader := Vm.clonesLoader_of_array hkS hkindS)
  rw [hcellE, k3] at X'
  generalize hH1 : H.push (vp_cell (gC γ 10) (3, .inl (stV 1))) = H1
  have z1 : H1.size = H.size + 1 := by rw [← hH1, Array.size_push]
  have w1 : H1[H.size]? = some (vp_cell (gC γ 10) (3, .inl (stV 1))) := by rw [← hH1, Array.getElem?_push_size]
  have o1 : ∀ q : Nat, q < H.size → H1[q]? = H[q]? := fun q hq => by rw [← hH1, Array.getElem?_push, if_neg (Nat.ne_of_lt hq)]
  have hP1 : va_P γ.1 vwCl (wl γ n M R ++ [(gN γ + (n - 8), .inl (gC γ 10, 3, .inl (stV 1)))]) H1 := (hW.1.kept (fun k y hy => o1 y.1 ((hW.1 k y hy).lt))).app (fun k y hy => by
    have hz : k < 1 := (List.getElem?_eq_some_iff.mp hy).1
    rw [show k = 0 by omega] at hy
    cases hy
    show H1[gN γ + (n - 8)]? = _
    rw [← hHs]
    exact w1)
  rw [wl_push (M' := up M n (stV 1)) (R' := z0 R n) h8 (by rw [ce_i (by omega) (by omega), hN, ht, up_s]) (fun j hj => ce_congr (up_n _ _ hj) (up_n _ _ hj))] at hP1
  have h := kk p e R0 s m args below meth c Q H1 locs ls C0 hret ⟨hP1, Nat.le_trans hW.2.1 (by omega), fun y h1 h2 => (o1 y (Nat.lt_of_lt_of_le h1 hW.2.1)).trans (hW.2.2.1 y h1 h2), hW.2.2.2⟩ (by omega) hnX hl
  rw [show n + 1 - nE = n - nE + 1 by omega, show sl (n + 1) - sl nE = sl n - sl nE + 3 by omega] at h
  rw [List.map_cons, show pv γ (.ref n) = .ref (gN γ + (n - 8)) by rw [pv, ph_new γ h8]] at h
  obtain ⟨t, b1, b2⟩ := h ((T.setVm vm').pushCell (vp_cell (gC γ 10) (3, .inl (stV 1)))) (by rw [← hH1, ← hT]; rfl) X'
  refine ⟨t, st t ?_, b2⟩
  rw [hcellE, hT, hHs]
  exact b1
end AROWS
end
section
/-! LINKS: by class and place in its constant pool -/
theorem kX5_9 : CaI RX5 9 mX4_init := ⟨⟨q21, q22⟩, rfl, rfl, ⟨q2, q23, ⟨by decide +kernel, by decide +kernel, by decide +kernel⟩, by decide +kernel, by decide⟩⟩
theorem pX5_10 : Fp RX5 10 5 0 (.object "PaddleRows$Tank") true := ⟨_, rfl, by decide, q189, rfl, by decide +kernel, fun _ => rfl⟩
theorem fX5_10 : Fl RX5 10 5 0 := ⟨_, rfl, by decide, q189⟩
theorem kX5_18 : CaIN RX5 18 mX2_init := ⟨⟨RX5, List.mem_filter.mpr ⟨List.mem_of_getElem? (i := 131) (by decide +kernel), rfl⟩⟩, q132, rfl, rfl, ⟨q5, q133, ⟨by decide +kernel, by decide +kernel, by decide +kernel⟩, by decide +kernel, by decide⟩⟩
theorem pX5_19 : Fp RX5 19 5 1 (.object "PaddleRows$Pad") true := ⟨_, rfl, by decide, q190, rfl, by decide +kernel, fun _ => rfl⟩
theorem fX5_19 : Fl RX5 19 5 1 := ⟨_, rfl, by decide, q190⟩
theorem kX5_25 : CaI RX5 25 mX1_init := ⟨⟨q174, q175⟩, rfl, rfl, ⟨q6, q176, ⟨by decide +kernel, by decide +kernel, by decide +kernel⟩, by decide +kernel, by decide⟩⟩
theorem pX5_26 : Fp RX5 26 5 2 (.object "PaddleRows$History") true := ⟨_, rfl, by decide, q191, rfl, by decide +kernel, fun _ => rfl⟩
theorem fX5_26 : Fl RX5 26 5 2 := ⟨_, rfl, by decide, q191⟩
theorem pX5_30 : Fp RX5 30 5 3 (.array (.object "PaddleRows$Tank")) true := ⟨_, rfl, by decide, q192, rfl, by decide +kernel, fun _ => rfl⟩
theorem fX5_30 : Fl RX5 30 5 3 := ⟨_, rfl, by decide, q192⟩
theorem pX5_34 : Fp RX5 34 5 4 (.array .boolean) true := ⟨_, rfl, by decide, q193, rfl, by decide +kernel, fun _ => rfl⟩
theorem fX5_34 : Fl RX5 34 5 4 := ⟨_, rfl, by decide, q193⟩
theorem pX5_38 : Fp RX5 38 5 5 (.object "PaddleRows$Tank") true := ⟨_, rfl, by decide, q194, rfl, by decide +kernel, fun _ => rfl⟩
theorem fX5_38 : Fl RX5 38 5 5 := ⟨_, rfl, by decide, q194⟩
theorem pX5_41 : Fp RX5 41 5 6 (.object "PaddleRows$Tank") true := ⟨_, rfl, by decide, q195, rfl, by decide +kernel, fun _ => rfl⟩
theorem fX5_41 : Fl RX5 41 5 6 := ⟨_, rfl, by decide, q195⟩
theorem kX5_44 : CaV RX5 44 mX4_copyFrom 1 4 := ⟨⟨q216, q217, q218⟩, ⟨q2, q219, ⟨by decide +kernel, by decide +kernel, by decide +kernel⟩, by decide +kernel, by decide⟩, _, rfl, rfl⟩
theorem kX5_48 : CaV RX5 48 mX4_changeSetting 2 4 := ⟨⟨q232, q233, q234⟩, ⟨q2, q235, ⟨by decide +kernel, by decide +kernel, by decide +kernel⟩, by decide +kernel, by decide⟩, _, rfl, rfl⟩
theorem kX5_52 : CaV RX5 52 mX5_recorded 1 5 := ⟨⟨q243, q245, (inWS (List.mem_of_getElem? (i := 0) (by decide +kernel)) (by decide +kernel))⟩, ⟨q1, q246, ⟨by decide +kernel, by decide +kernel, by decide +kernel⟩, by decide +kernel, by decide⟩, _, rfl, rfl⟩
theorem kX5_56 : CaV RX5 56 mX4_placePaddle 5 4 := ⟨⟨q260, q261, q262⟩, ⟨q2, q263, ⟨by decide +kernel, by decide +kernel, by decide +kernel⟩, by decide +kernel, by decide⟩, _, rfl, rfl⟩
theorem kX5_60 : CaV RX5 60 mX4_removePaddle 1 4 := ⟨⟨q280, q281, q282⟩, ⟨q2, q283, ⟨by decide +kernel, by decide +kernel, by decide +kernel⟩, by decide +kernel, by decide⟩, _, rfl, rfl⟩
theorem kX5_63 : CaV RX5 63 mX4_startPaddle 1 4 := ⟨⟨q288, q289, q290⟩, ⟨q2, q291, ⟨by decide +kernel, by decide +kernel, by decide +kernel⟩, by decide +kernel, by decide⟩, _, rfl, rfl⟩
theorem kX5_66 : CaV RX5 66 mX4_placeGauge 1 4 := ⟨⟨q299, q300, q301⟩, ⟨q2, q302, ⟨by decide +kernel, by decide +kernel, by decide +kernel⟩, by decide +kernel, by decide⟩, _, rfl, rfl⟩
theorem kX5_69 : CaV RX5 69 mX4_changeLevel 2 4 := ⟨⟨q311, q312, q313⟩, ⟨q2, q314, ⟨by decide +kernel, by decide +kernel, by decide +kernel⟩, by decide +kernel, by decide⟩, _, rfl, rfl⟩
theorem kX5_72 : CaV RX5 72 mX4_passSteps 1 4 := ⟨⟨q319, q320, q321⟩, ⟨q2, q322, ⟨by decide +kernel, by decide +kernel, by decide +kernel⟩, by decide +kernel, by decide⟩, _, rfl, rfl⟩
theorem kX5_75 : CaV RX5 75 mX1_push 1 1 := ⟨⟨q247, q248, q249⟩, ⟨q6, q250, ⟨by decide +kernel, by decide +kernel, by decide +kernel⟩, by decide +kernel, by decide⟩, _, rfl, rfl⟩
theorem kX5_78 : CaS RX5 78 mX5_isOutside 2 := ⟨⟨q366, q237⟩, ⟨q1, q238, ⟨by decide +kernel, by decide +kernel, by decide +kernel⟩, by decide +kernel, by decide⟩⟩
theorem fX5_82 : Fl RX5 82 4 1 := ⟨_, rfl, by decide, q99⟩
theorem fX5_86 : Fl RX5 86 4 2 := ⟨_, rfl, by decide, q101⟩
theorem kX5_89 : CaV RX5 89 mX4_isCrest 1 4 := ⟨⟨q367, q368, q369⟩, ⟨q2, q370, ⟨by decide +kernel, by decide +kernel, by decide +kernel⟩, by decide +kernel, by decide⟩, _, rfl, rfl⟩
theorem kX5_93 : CaS RX5 93 mX5_asNumber 1 := ⟨⟨q371, q293⟩, ⟨q1, q294, ⟨by decide +kernel, by decide +kernel, by decide +kernel⟩, by decide +kernel, by decide⟩⟩
theorem kX5_97 : CaV RX5 97 mX4_isTrough 1 4 := ⟨⟨q372, q373, q374⟩, ⟨q2, q375, ⟨by decide +kernel, by decide +kernel, by decide +kernel⟩, by decide +kernel, by decide⟩, _, rfl, rfl⟩
theorem fX5_100 : Fl RX5 100 4 5 := ⟨_, rfl, by decide, q107⟩
theorem pX5_100 : Fp RX5 100 4 5 .int false := ⟨_, rfl, by decide, q107, rfl, by decide +kernel, fun h => Bool.noConfusion h⟩
theorem fX5_104 : Fl RX5 104 4 3 := ⟨_, rfl, by decide, q103⟩
theorem fX5_108 : Fl RX5 108 3 0 := ⟨_, rfl, by decide, q45⟩
theorem fX5_113 : Fl RX5 113 3 1 := ⟨_, rfl, by decide, q48⟩
theorem fX5_116 : Fl RX5 116 3 2 := ⟨_, rfl, by decide, q51⟩
theorem fX5_119 : Fl RX5 119 3 3 := ⟨_, rfl, by decide, q54⟩
theorem pX5_119 : Fp RX5 119 3 3 .int false := ⟨_, rfl, by decide, q54, rfl, by decide +kernel, fun h => Bool.noConfusion h⟩
theorem fX5_122 : Fl RX5 122 3 4 := ⟨_, rfl, by decide, q57⟩
theorem fX5_125 : Fl RX5 125 3 5 := ⟨_, rfl, by decide, q60⟩
theorem fX5_129 : Fl RX5 129 4 7 := ⟨_, rfl, by decide, q111⟩
theorem kX5_132 : CaV RX5 132 mX3_pushAt 1 3 := ⟨⟨q380, q336, q337⟩, ⟨q3, q338, ⟨by decide +kernel, by decide +kernel, by decide +kernel⟩, by decide +kernel, by decide⟩, _, rfl, rfl⟩
theorem fX5_135 : Fl RX5 135 4 6 := ⟨_, rfl, by decide, q109⟩
theorem fX5_138 : Fl RX5 138 4 4 := ⟨_, rfl, by decide, q105⟩
theorem fX5_142 : Fl RX5 142 0 1 := ⟨_, rfl, by decide, q83⟩
theorem fX5_145 : Fl RX5 145 0 2 := ⟨_, rfl, by decide, q85⟩
theorem kX5_148 : CaV RX5 148 mX0_greatest 0 0 := ⟨⟨q385, q386, q387⟩, ⟨q4, q388, ⟨by decide +kernel, by decide +kernel, by decide +kernel⟩, by decide +kernel, by decide⟩, _, rfl, rfl⟩
theorem kX5_152 : CaV RX5 152 mX0_least 0 0 := ⟨⟨q397, q398, q399⟩, ⟨q4, q400, ⟨by decide +kernel, by decide +kernel, by decide +kernel⟩, by decide +kernel, by decide⟩, _, rfl, rfl⟩
theorem kX5_155 : CaV RX5 155 mX0_rises 0 0 := ⟨⟨q401, q402, q403⟩, ⟨q4, q404, ⟨by decide +kernel, by decide +kernel, by decide +kernel⟩, by decide +kernel, by decide⟩, _, rfl, rfl⟩
theorem kX5_158 : CaV RX5 158 mX0_levelAgo 1 0 := ⟨⟨q409, q390, q391⟩, ⟨q4, q392, ⟨by decide +kernel, by decide +kernel, by decide +kernel⟩, by decide +kernel, by decide⟩, _, rfl, rfl⟩
theorem kX5_163 : CaV RX5 163 mX4_cellsThatAre 1 4 := ⟨⟨q415, q416, q417⟩, ⟨q2, q418, ⟨by decide +kernel, by decide +kernel, by decide +kernel⟩, by decide +kernel, by decide⟩, _, rfl, rfl⟩
theorem kX5_167 : CaS RX5 167 mJ13_bitCount_95d88 1 := ⟨⟨q429, q430⟩, ⟨q10, q431, ⟨by decide +kernel, by decide +kernel, by decide +kernel⟩, by decide +kernel, by decide⟩⟩
theorem kX5_173 : CaV RX5 173 mX4_sumOfLevels 0 4 := ⟨⟨q435, q436, q437⟩, ⟨q2, q438, ⟨by decide +kernel, by decide +kernel, by decide +kernel⟩, by decide +kernel, by decide⟩, _, rfl, rfl⟩
theorem kX5_177 : CaV RX5 177 mX4_motion 0 4 := ⟨⟨q440, q441, q442⟩, ⟨q2, q443, ⟨by decide +kernel, by decide +kernel, by decide +kernel⟩, by decide +kernel, by decide⟩, _, rfl, rfl⟩
theorem kX5_180 : CaV RX5 180 mX4_farthestLevel 0 4 := ⟨⟨q444, q445, q446⟩, ⟨q2, q447, ⟨by decide +kernel, by decide +kernel, by decide +kernel⟩, by decide +kernel, by decide⟩, _, rfl, rfl⟩
theorem kX5_183 : CaV RX5 183 mX4_lastUnevenCell 0 4 := ⟨⟨q449, q450, q451⟩, ⟨q2, q452, ⟨by decide +kernel, by decide +kernel, by decide +kernel⟩, by decide +kernel, by decide⟩, _, rfl, rfl⟩
theorem fX5_186 : Fl RX5 186 4 0 := ⟨_, rfl, by decide, q97⟩
theorem fX5_189 : Fl RX5 189 2 1 := ⟨_, rfl, by decide, q137⟩
theorem pX5_189 : Fp RX5 189 2 1 .int false := ⟨_, rfl, by decide, q137, rfl, by decide +kernel, fun h => Bool.noConfusion h⟩
theorem fX5_192 : Fl RX5 192 1 1 := ⟨_, rfl, by decide, q183⟩
theorem kX5_195 : CaS RX5 195 mJ9_abs_0f7a4 1 := ⟨⟨q457, q333⟩, ⟨q9, q334, ⟨by decide +kernel, by decide +kernel, by decide +kernel⟩, by decide +kernel, by decide⟩⟩
theorem kX5_200 : CaV RX5 200 mX4_step 0 4 := ⟨⟨q458, q325, q326⟩, ⟨q2, q327, ⟨by decide +kernel, by decide +kernel, by decide +kernel⟩, by decide +kernel, by decide⟩, _, rfl, rfl⟩
theorem kX5_203 : CaV RX5 203 mX5_peakWithPeriod 4 5 := ⟨⟨q463, q465, (inWS (List.mem_of_getElem? (i := 1) (by decide +kernel)) (by decide +kernel))⟩, ⟨q1, q466, ⟨by decide +kernel, by decide +kernel, by decide +kernel⟩, by decide +kernel, by decide⟩, _, rfl, rfl⟩
theorem kX5_207 : CaS RX5 207 mJ9_max_7cf53 2 := ⟨⟨q350, q351⟩, ⟨q9, q352, ⟨by decide +kernel, by decide +kernel, by decide +kernel⟩, by decide +kernel, by decide⟩⟩
theorem kX5_210 : CaV RX5 210 mX4_isCalm 0 4 := ⟨⟨q471, q472, q473⟩, ⟨q2, q474, ⟨by decide +kernel, by decide +kernel, by decide +kernel⟩, by decide +kernel, by decide⟩, _, rfl, rfl⟩
theorem kX5_214 : CaV RX5 214 mX2_append 1 2 := ⟨⟨q479, q480, q481⟩, ⟨q5, q482, ⟨by decide +kernel, by decide +kernel, by decide +kernel⟩, by decide +kernel, by decide⟩, _, rfl, rfl⟩
theorem kX5_217 : CaV RX5 217 mX2_findFault 0 2 := ⟨⟨q495, q496, q497⟩, ⟨q5, q498, ⟨by decide +kernel, by decide +kernel, by decide +kernel⟩, by decide +kernel, by decide⟩, _, rfl, rfl⟩
theorem kX5_220 : CaV RX5 220 mX5_carryOrders 0 5 := ⟨⟨q539, q541, (inWS (List.mem_of_getElem? (i := 2) (by decide +kernel)) (by decide +kernel))⟩, ⟨q1, q542, ⟨by decide +kernel, by decide +kernel, by decide +kernel⟩, by decide +kernel, by decide⟩, _, rfl, rfl⟩
theorem pX5_223 : Fp RX5 223 2 2 .int false := ⟨_, rfl, by decide, q139, rfl, by decide +kernel, fun h => Bool.noConfusion h⟩
theorem kX5_226 : CaV RX5 226 mX2_readOrder 0 2 := ⟨⟨q543, q500, q501⟩, ⟨q5, q502, ⟨by decide +kernel, by decide +kernel, by decide +kernel⟩, by decide +kernel, by decide⟩, _, rfl, rfl⟩
theorem kX5_229 : CaV RX5 229 mX5_carryOneOrder 0 5 := ⟨⟨q544, q546, (inWS (List.mem_of_getElem? (i := 3) (by decide +kernel)) (by decide +kernel))⟩, ⟨q1, q547, ⟨by decide +kernel, by decide +kernel, by decide +kernel⟩, by decide +kernel, by decide⟩, _, rfl, rfl⟩
theorem kX5_232 : CaV RX5 232 mX2_accept 1 2 := ⟨⟨q548, q532, q533⟩, ⟨q5, q534, ⟨by decide +kernel, by decide +kernel, by decide +kernel⟩, by decide +kernel, by decide⟩, _, rfl, rfl⟩
theorem fX5_236 : Fl RX5 236 2 3 := ⟨_, rfl, by decide, q141⟩
theorem fX5_239 : Fl RX5 239 2 4 := ⟨_, rfl, by decide, q143⟩
theorem fX5_242 : Fl RX5 242 2 5 := ⟨_, rfl, by decide, q145⟩
theorem fX5_243 : Fl RX5 243 2 6 := ⟨_, rfl, by decide, q147⟩
theorem fX5_246 : Fl RX5 246 2 7 := ⟨_, rfl, by decide, q149⟩
theorem fX5_247 : Fl RX5 247 2 8 := ⟨_, rfl, by decide, q151⟩
theorem kX5_248 : CaV RX5 248 mX1_popInto 1 1 := ⟨⟨q553, q554, q555⟩, ⟨q6, q556, ⟨by decide +kernel, by decide +kernel, by decide +kernel⟩, by decide +kernel, by decide⟩, _, rfl, rfl⟩
theorem kX5_251 : CaS RX5 251 mJ9_min_7cf53 2 := ⟨⟨q349, q340⟩, ⟨q9, q341, ⟨by decide +kernel, by decide +kernel, by decide +kernel⟩, by decide +kernel, by decide⟩⟩
theorem pX0_9 : Fp RX0 9 0 0 (.array .int) true := ⟨_, rfl, by decide, q80, rfl, by decide +kernel, fun _ => rfl⟩
theorem fX0_9 : Fl RX0 9 0 0 := ⟨_, rfl, by decide, q80⟩
theorem fX0_21 : Fl RX0 21 0 1 := ⟨_, rfl, by decide, q81⟩
theorem pX0_21 : Fp RX0 21 0 1 .int false := ⟨_, rfl, by decide, q81, rfl, by decide +kernel, fun h => Bool.noConfusion h⟩
theorem fX0_25 : Fl RX0 25 0 2 := ⟨_, rfl, by decide, q84⟩
theorem pX0_25 : Fp RX0 25 0 2 .int false := ⟨_, rfl, by decide, q84, rfl, by decide +kernel, fun h => Bool.noConfusion h⟩
theorem fX0_28 : Fl RX0 28 0 3 := ⟨_, rfl, by decide, q86⟩
theorem pX0_28 : Fp RX0 28 0 3 .int false := ⟨_, rfl, by decide, q86, rfl, by decide +kernel, fun h => Bool.noConfusion h⟩
theorem kX0_31 : CaS RX0 31 mJ9_min_7cf53 2 := ⟨⟨q361, q340⟩, ⟨q9, q341, ⟨by decide +kernel, by decide +kernel, by decide +kernel⟩, by decide +kernel, by decide⟩⟩
theorem kX0_37 : CaS RX0 37 mJ9_floorMod_7cf53 2 := ⟨⟨q393, q394⟩, ⟨q9, q395, ⟨by decide +kernel, by decide +kernel, by decide +kernel⟩, by decide +kernel, by decide⟩⟩
theorem kX0_40 : CaV RX0 40 mX0_levelAgo 1 0 := ⟨⟨q389, q390, q391⟩, ⟨q4, q392, ⟨by decide +kernel, by decide +kernel, by decide +kernel⟩, by decide +kernel, by decide⟩, _, rfl, rfl⟩
theorem kX0_44 : CaS RX0 44 mJ9_max_7cf53 2 := ⟨⟨q396, q351⟩, ⟨q9, q352, ⟨by decide +kernel, by decide +kernel, by decide +kernel⟩, by decide +kernel, by decide⟩⟩
theorem pX1_11 : Fp RX1 11 1 0 (.array (.object "PaddleRows$Tank")) true := ⟨_, rfl, by decide, q181, rfl, by decide +kernel, fun _ => rfl⟩
theorem fX1_11 : Fl RX1 11 1 0 := ⟨_, rfl, by decide, q181⟩
theorem kX1_17 : CaI RX1 17 mX4_init := ⟨⟨q180, q22⟩, rfl, rfl, ⟨q2, q23, ⟨by decide +kernel, by decide +kernel, by decide +kernel⟩, by decide +kernel, by decide⟩⟩
theorem fX1_18 : Fl RX1 18 1 1 := ⟨_, rfl, by decide, q182⟩
theorem pX1_18 : Fp RX1 18 1 1 .int false := ⟨_, rfl, by decide, q182, rfl, by decide +kernel, fun h => Bool.noConfusion h⟩
theorem kX1_22 : CaV RX1 22 mX1_dropOldest 0 1 := ⟨⟨q251, q252, q253⟩, ⟨q6, q254, ⟨by decide +kernel, by decide +kernel, by decide +kernel⟩, by decide +kernel, by decide⟩, _, rfl, rfl⟩
theorem kX1_25 : CaV RX1 25 mX4_copyFrom 1 4 := ⟨⟨q255, q217, q218⟩, ⟨q2, q219, ⟨by decide +kernel, by decide +kernel, by decide +kernel⟩, by decide +kernel, by decide⟩, _, rfl, rfl⟩
theorem pX2_9 : Fp RX2 9 2 0 (.array .char) true := ⟨_, rfl, by decide, q135, rfl, by decide +kernel, fun _ => rfl⟩
theorem fX2_9 : Fl RX2 9 2 0 := ⟨_, rfl, by decide, q135⟩
theorem kX2_15 : CaS RX2 15 mX2_countOf 1 := ⟨⟨q483, q484⟩, ⟨q5, q485, ⟨by decide +kernel, by decide +kernel, by decide +kernel⟩, by decide +kernel, by decide⟩⟩
theorem fX2_19 : Fl RX2 19 2 1 := ⟨_, rfl, by decide, q136⟩
theorem pX2_19 : Fp RX2 19 2 1 .int false := ⟨_, rfl, by decide, q136, rfl, by decide +kernel, fun h => Bool.noConfusion h⟩
theorem pX2_25 : Fp RX2 25 2 2 .int false := ⟨_, rfl, by decide, q138, rfl, by decide +kernel, fun h => Bool.noConfusion h⟩
theorem fX2_25 : Fl RX2 25 2 2 := ⟨_, rfl, by decide, q138⟩
theorem kX2_28 : CaV RX2 28 mX2_readOrder 0 2 := ⟨⟨q499, q500, q501⟩, ⟨q5, q502, ⟨by decide +kernel, by decide +kernel, by decide +kernel⟩, by decide +kernel, by decide⟩, _, rfl, rfl⟩
theorem kX2_32 : CaV RX2 32 mX2_accept 1 2 := ⟨⟨q531, q532, q533⟩, ⟨q5, q534, ⟨by decide +kernel, by decide +kernel, by decide +kernel⟩, by decide +kernel, by decide⟩, _, rfl, rfl⟩
theorem kX2_36 : CaV RX2 36 mX2_signHere 0 2 := ⟨⟨q503, q504, q505⟩, ⟨q5, q506, ⟨by decide +kernel, by decide +kernel, by decide +kernel⟩, by decide +kernel, by decide⟩, _, rfl, rfl⟩
theorem pX2_40 : Fp RX2 40 2 3 .int false := ⟨_, rfl, by decide, q140, rfl, by decide +kernel, fun h => Bool.noConfusion h⟩
theorem fX2_40 : Fl RX2 40 2 3 := ⟨_, rfl, by decide, q140⟩
theorem kX2_43 : CaV RX2 43 mX2_readPaddle 0 2 := ⟨⟨q507, q508, q509⟩, ⟨q5, q510, ⟨by decide +kernel, by decide +kernel, by decide +kernel⟩, by decide +kernel, by decide⟩, _, rfl, rfl⟩
theorem kX2_46 : CaV RX2 46 mX2_readTarget 0 2 := ⟨⟨q511, q512, q513⟩, ⟨q5, q514, ⟨by decide +kernel, by decide +kernel, by decide +kernel⟩, by decide +kernel, by decide⟩, _, rfl, rfl⟩
theorem kX2_49 : CaV RX2 49 mX2_readValue 0 2 := ⟨⟨q527, q528, q529⟩, ⟨q5, q530, ⟨by decide +kernel, by decide +kernel, by decide +kernel⟩, by decide +kernel, by decide⟩, _, rfl, rfl⟩
theorem kX2_52 : CaV RX2 52 mX2_readSort 0 2 := ⟨⟨q523, q524, q525⟩, ⟨q5, q526, ⟨by decide +kernel, by decide +kernel, by decide +kernel⟩, by decide +kernel, by decide⟩, _, rfl, rfl⟩
theorem kX2_55 : CaV RX2 55 mX2_readNumber 0 2 := ⟨⟨q515, q516, q517⟩, ⟨q5, q518, ⟨by decide +kernel, by decide +kernel, by decide +kernel⟩, by decide +kernel, by decide⟩, _, rfl, rfl⟩
theorem pX2_58 : Fp RX2 58 2 7 .int false := ⟨_, rfl, by decide, q148, rfl, by decide +kernel, fun h => Bool.noConfusion h⟩
theorem fX2_58 : Fl RX2 58 2 7 := ⟨_, rfl, by decide, q148⟩
theorem pX2_61 : Fp RX2 61 2 8 .int false := ⟨_, rfl, by decide, q150, rfl, by decide +kernel, fun h => Bool.noConfusion h⟩
theorem fX2_61 : Fl RX2 61 2 8 := ⟨_, rfl, by decide, q150⟩
theorem pX2_64 : Fp RX2 64 2 4 .int false := ⟨_, rfl, by decide, q142, rfl, by decide +kernel, fun h => Bool.noConfusion h⟩
theorem fX2_64 : Fl RX2 64 2 4 := ⟨_, rfl, by decide, q142⟩
theorem pX2_67 : Fp RX2 67 2 5 .int false := ⟨_, rfl, by decide, q144, rfl, by decide +kernel, fun h => Bool.noConfusion h⟩
theorem pX2_70 : Fp RX2 70 2 6 .int false := ⟨_, rfl, by decide, q146, rfl, by decide +kernel, fun h => Bool.noConfusion h⟩
theorem kX2_73 : CaV RX2 73 mX2_isDigitHere 0 2 := ⟨⟨q519, q520, q521⟩, ⟨q5, q522, ⟨by decide +kernel, by decide +kernel, by decide +kernel⟩, by decide +kernel, by decide⟩, _, rfl, rfl⟩
theorem pX3_9 : Fp RX3 9 3 3 .int false := ⟨_, rfl, by decide, q52, rfl, by decide +kernel, fun h => Bool.noConfusion h⟩
theorem fX3_9 : Fl RX3 9 3 3 := ⟨_, rfl, by decide, q52⟩
theorem fX3_15 : Fl RX3 15 3 0 := ⟨_, rfl, by decide, q43⟩
theorem pX3_15 : Fp RX3 15 3 0 .int false := ⟨_, rfl, by decide, q43, rfl, by decide +kernel, fun h => Bool.noConfusion h⟩
theorem fX3_18 : Fl RX3 18 3 1 := ⟨_, rfl, by decide, q46⟩
theorem pX3_18 : Fp RX3 18 3 1 .int false := ⟨_, rfl, by decide, q46, rfl, by decide +kernel, fun h => Bool.noConfusion h⟩
theorem fX3_21 : Fl RX3 21 3 2 := ⟨_, rfl, by decide, q49⟩
theorem pX3_21 : Fp RX3 21 3 2 .int false := ⟨_, rfl, by decide, q49, rfl, by decide +kernel, fun h => Bool.noConfusion h⟩
theorem fX3_24 : Fl RX3 24 3 4 := ⟨_, rfl, by decide, q55⟩
theorem pX3_24 : Fp RX3 24 3 4 .int false := ⟨_, rfl, by decide, q55, rfl, by decide +kernel, fun h => Bool.noConfusion h⟩
theorem fX3_27 : Fl RX3 27 3 5 := ⟨_, rfl, by decide, q58⟩
theorem pX3_27 : Fp RX3 27 3 5 .boolean false := ⟨_, rfl, by decide, q58, rfl, by decide +kernel, fun h => Bool.noConfusion h⟩
theorem kX3_31 : CaSN RX3 31 mX5_isOutside 2 := ⟨⟨RX5, List.mem_filter.mpr ⟨List.mem_of_getElem? (i := 267) (by decide +kernel), rfl⟩⟩, q237, ⟨q1, q238, ⟨by decide +kernel, by decide +kernel, by decide +kernel⟩, by decide +kernel, by decide⟩⟩
theorem kX3_35 : CaS RX3 35 mJ9_min_7cf53 2 := ⟨⟨q339, q340⟩, ⟨q9, q341, ⟨by decide +kernel, by decide +kernel, by decide +kernel⟩, by decide +kernel, by decide⟩⟩
theorem pX4_18 : Fp RX4 18 4 0 (.array .int) true := ⟨_, rfl, by decide, q96, rfl, by decide +kernel, fun _ => rfl⟩
theorem fX4_18 : Fl RX4 18 4 0 := ⟨_, rfl, by decide, q96⟩
theorem pX4_23 : Fp RX4 23 4 1 (.array .int) true := ⟨_, rfl, by decide, q98, rfl, by decide +kernel, fun _ => rfl⟩
theorem fX4_23 : Fl RX4 23 4 1 := ⟨_, rfl, by decide, q98⟩
theorem pX4_26 : Fp RX4 26 4 2 (.array .int) true := ⟨_, rfl, by decide, q100, rfl, by decide +kernel, fun _ => rfl⟩
theorem fX4_26 : Fl RX4 26 4 2 := ⟨_, rfl, by decide, q100⟩
theorem pX4_31 : Fp RX4 31 4 3 (.array (.object "PaddleRows$Paddle")) true := ⟨_, rfl, by decide, q102, rfl, by decide +kernel, fun _ => rfl⟩
theorem fX4_31 : Fl RX4 31 4 3 := ⟨_, rfl, by decide, q102⟩
theorem pX4_37 : Fp RX4 37 4 4 (.array (.object "PaddleRows$Gauge")) true := ⟨_, rfl, by decide, q104, rfl, by decide +kernel, fun _ => rfl⟩
theorem fX4_37 : Fl RX4 37 4 4 := ⟨_, rfl, by decide, q104⟩
theorem kX4_41 : CaIN RX4 41 mX3_init := ⟨⟨RX5, List.mem_filter.mpr ⟨List.mem_of_getElem? (i := 39) (by decide +kernel), rfl⟩⟩, q40, rfl, rfl, ⟨q3, q41, ⟨by decide +kernel, by decide +kernel, by decide +kernel⟩, by decide +kernel, by decide⟩⟩
theorem kX4_42 : CaIN RX4 42 mX0_init := ⟨⟨RX5, List.mem_filter.mpr ⟨List.mem_of_getElem? (i := 76) (by decide +kernel), rfl⟩⟩, q77, rfl, rfl, ⟨q4, q78, ⟨by decide +kernel, by decide +kernel, by decide +kernel⟩, by decide +kernel, by decide⟩⟩
theorem fX4_49 : Fl RX4 49 4 5 := ⟨_, rfl, by decide, q106⟩
theorem pX4_49 : Fp RX4 49 4 5 .int false := ⟨_, rfl, by decide, q106, rfl, by decide +kernel, fun h => Bool.noConfusion h⟩
theorem kX4_53 : CaV RX4 53 mX3_copyFrom 1 3 := ⟨⟨q223, q224, q225⟩, ⟨q3, q226, ⟨by decide +kernel, by decide +kernel, by decide +kernel⟩, by decide +kernel, by decide⟩, _, rfl, rfl⟩
theorem fX4_57 : Fl RX4 57 4 6 := ⟨_, rfl, by decide, q108⟩
theorem pX4_57 : Fp RX4 57 4 6 .int false := ⟨_, rfl, by decide, q108, rfl, by decide +kernel, fun h => Bool.noConfusion h⟩
theorem kX4_60 : CaV RX4 60 mX0_copyFrom 1 0 := ⟨⟨q227, q228, q229⟩, ⟨q4, q230, ⟨by decide +kernel, by decide +kernel, by decide +kernel⟩, by decide +kernel, by decide⟩, _, rfl, rfl⟩
theorem fX4_63 : Fl RX4 63 4 7 := ⟨_, rfl, by decide, q110⟩
theorem pX4_63 : Fp RX4 63 4 7 .int false := ⟨_, rfl, by decide, q110, rfl, by decide +kernel, fun h => Bool.noConfusion h⟩
theorem kX4_66 : CaSN RX4 66 mX5_isOutside 2 := ⟨⟨RX5, List.mem_filter.mpr ⟨List.mem_of_getElem? (i := 236) (by decide +kernel), rfl⟩⟩, q237, ⟨q1, q238, ⟨by decide +kernel, by decide +kernel, by decide +kernel⟩, by decide +kernel, by decide⟩⟩
theorem kX4_76 : CaS RX4 76 mX3_isRecipe 4 := ⟨⟨q264, q265⟩, ⟨q3, q266, ⟨by decide +kernel, by decide +kernel, by decide +kernel⟩, by decide +kernel, by decide⟩⟩
theorem kX4_80 : CaV RX4 80 mX4_rankIn 1 4 := ⟨⟨q268, q269, q270⟩, ⟨q2, q271, ⟨by decide +kernel, by decide +kernel, by decide +kernel⟩, by decide +kernel, by decide⟩, _, rfl, rfl⟩
theorem kX4_84 : CaV RX4 84 mX4_openRank 1 4 := ⟨⟨q272, q273, q274⟩, ⟨q2, q275, ⟨by decide +kernel, by decide +kernel, by decide +kernel⟩, by decide +kernel, by decide⟩, _, rfl, rfl⟩
theorem pX4_87 : Fp RX4 87 3 0 .int false := ⟨_, rfl, by decide, q44, rfl, by decide +kernel, fun h => Bool.noConfusion h⟩
theorem fX4_87 : Fl RX4 87 3 0 := ⟨_, rfl, by decide, q44⟩
theorem pX4_90 : Fp RX4 90 3 1 .int false := ⟨_, rfl, by decide, q47, rfl, by decide +kernel, fun h => Bool.noConfusion h⟩
theorem pX4_93 : Fp RX4 93 3 2 .int false := ⟨_, rfl, by decide, q50, rfl, by decide +kernel, fun h => Bool.noConfusion h⟩
theorem pX4_96 : Fp RX4 96 3 3 .int false := ⟨_, rfl, by decide, q53, rfl, by decide +kernel, fun h => Bool.noConfusion h⟩
theorem pX4_99 : Fp RX4 99 3 4 .int false := ⟨_, rfl, by decide, q56, rfl, by decide +kernel, fun h => Bool.noConfusion h⟩
theorem pX4_102 : Fp RX4 102 3 5 .boolean false := ⟨_, rfl, by decide, q59, rfl, by decide +kernel, fun h => Bool.noConfusion h⟩
theorem fX4_102 : Fl RX4 102 3 5 := ⟨_, rfl, by decide, q59⟩
theorem kX4_106 : CaSN RX4 106 mX5_asNumber 1 := ⟨⟨RX5, List.mem_filter.mpr ⟨List.mem_of_getElem? (i := 292) (by decide +kernel), rfl⟩⟩, q293, ⟨q1, q294, ⟨by decide +kernel, by decide +kernel, by decide +kernel⟩, by decide +kernel, by decide⟩⟩
theorem kX4_110 : CaV RX4 110 mX0_startIn 1 0 := ⟨⟨q303, q304, q305⟩, ⟨q4, q306, ⟨by decide +kernel, by decide +kernel, by decide +kernel⟩, by decide +kernel, by decide⟩, _, rfl, rfl⟩
theorem kX4_115 : CaV RX4 115 mX4_step 0 4 := ⟨⟨q324, q325, q326⟩, ⟨q2, q327, ⟨by decide +kernel, by decide +kernel, by decide +kernel⟩, by decide +kernel, by decide⟩, _, rfl, rfl⟩
theorem kX4_119 : CaV RX4 119 mX4_movePaddles 0 4 := ⟨⟨q328, q329, q330⟩, ⟨q2, q331, ⟨by decide +kernel, by decide +kernel, by decide +kernel⟩, by decide +kernel, by decide⟩, _, rfl, rfl⟩
theorem kX4_122 : CaV RX4 122 mX4_moveWater 0 4 := ⟨⟨q342, q343, q344⟩, ⟨q2, q345, ⟨by decide +kernel, by decide +kernel, by decide +kernel⟩, by decide +kernel, by decide⟩, _, rfl, rfl⟩
theorem kX4_125 : CaV RX4 125 mX4_calmBeach 0 4 := ⟨⟨q353, q354, q355⟩, ⟨q2, q356, ⟨by decide +kernel, by decide +kernel, by decide +kernel⟩, by decide +kernel, by decide⟩, _, rfl, rfl⟩
theorem fX4_128 : Fl RX4 128 0 1 := ⟨_, rfl, by decide, q82⟩
theorem kX4_129 : CaV RX4 129 mX0_note 1 0 := ⟨⟨q357, q358, q359⟩, ⟨q4, q360, ⟨by decide +kernel, by decide +kernel, by decide +kernel⟩, by decide +kernel, by decide⟩, _, rfl, rfl⟩
theorem kX4_132 : CaS RX4 132 mJ9_abs_0f7a4 1 := ⟨⟨q332, q333⟩, ⟨q9, q334, ⟨by decide +kernel, by decide +kernel, by decide +kernel⟩, by decide +kernel, by decide⟩⟩
theorem kX4_137 : CaV RX4 137 mX3_pushAt 1 3 := ⟨⟨q335, q336, q337⟩, ⟨q3, q338, ⟨by decide +kernel, by decide +kernel, by decide +kernel⟩, by decide +kernel, by decide⟩, _, rfl, rfl⟩
theorem kX4_140 : CaSN RX4 140 mX5_withinBounds 1 := ⟨⟨RX5, List.mem_filter.mpr ⟨List.mem_of_getElem? (i := 346) (by decide +kernel), rfl⟩⟩, q347, ⟨q1, q348, ⟨by decide +kernel, by decide +kernel, by decide +kernel⟩, by decide +kernel, by decide⟩⟩
theorem kX4_143 : CaV RX4 143 mX4_isPlace 2 4 := ⟨⟨q419, q420, q421⟩, ⟨q2, q422, ⟨by decide +kernel, by decide +kernel, by decide +kernel⟩, by decide +kernel, by decide⟩, _, rfl, rfl⟩
theorem kX4_146 : CaV RX4 146 mX4_isCrest 1 4 := ⟨⟨q423, q368, q369⟩, ⟨q2, q370, ⟨by decide +kernel, by decide +kernel, by decide +kernel⟩, by decide +kernel, by decide⟩, _, rfl, rfl⟩
theorem kX4_150 : CaV RX4 150 mX4_isTrough 1 4 := ⟨⟨q424, q373, q374⟩, ⟨q2, q375, ⟨by decide +kernel, by decide +kernel, by decide +kernel⟩, by decide +kernel, by decide⟩, _, rfl, rfl⟩
theorem kX4_153 : CaS RX4 153 mJ9_max_7cf53 2 := ⟨⟨q448, q351⟩, ⟨q9, q352, ⟨by decide +kernel, by decide +kernel, by decide +kernel⟩, by decide +kernel, by decide⟩⟩
theorem kL_9 : CaI RL 9 mX5_init := ⟨⟨q13, q14⟩, rfl, rfl, ⟨q1, q15, ⟨by decide +kernel, by decide +kernel, by decide +kernel⟩, by decide +kernel, by decide⟩⟩
theorem kL_12 : CaI RL 12 mX6_init := ⟨⟨q567, q568⟩, rfl, rfl, ⟨q7, q569, ⟨by decide +kernel, by decide +kernel, by decide +kernel⟩, by decide +kernel, by decide⟩⟩
theorem kL_13 : CaV RL 13 mX5_set 2 5 := ⟨⟨q212, q213, q214⟩, ⟨q1, q215, ⟨by decide +kernel, by decide +kernel, by decide +kernel⟩, by decide +kernel, by decide⟩, _, rfl, rfl⟩
theorem kL_17 : CaV RL 17 mX6_set 2 6 := ⟨⟨q611, q612, q613⟩, ⟨q7, q614, ⟨by decide +kernel, by decide +kernel, by decide +kernel⟩, by decide +kernel, by decide⟩, _, rfl, rfl⟩
theorem kL_18 : CaV RL 18 mX5_paddle 5 5 := ⟨⟨q256, q257, q258⟩, ⟨q1, q259, ⟨by decide +kernel, by decide +kernel, by decide +kernel⟩, by decide +kernel, by decide⟩, _, rfl, rfl⟩
theorem kL_22 : CaV RL 22 mX6_paddle 5 6 := ⟨⟨q628, q629, q630⟩, ⟨q7, q631, ⟨by decide +kernel, by decide +kernel, by decide +kernel⟩, by decide +kernel, by decide⟩, _, rfl, rfl⟩
theorem kL_23 : CaV RL 23 mX5_lift 1 5 := ⟨⟨q276, q277, q278⟩, ⟨q1, q279, ⟨by decide +kernel, by decide +kernel, by decide +kernel⟩, by decide +kernel, by decide⟩, _, rfl, rfl⟩
theorem kL_27 : CaV RL 27 mX6_lift 1 6 := ⟨⟨q656, q657, q658⟩, ⟨q7, q659, ⟨by decide +kernel, by decide +kernel, by decide +kernel⟩, by decide +kernel, by decide⟩, _, rfl, rfl⟩
theorem kL_28 : CaV RL 28 mX5_again 1 5 := ⟨⟨q284, q285, q286⟩, ⟨q1, q287, ⟨by decide +kernel, by decide +kernel, by decide +kernel⟩, by decide +kernel, by decide⟩, _, rfl, rfl⟩
theorem kL_31 : CaV RL 31 mX6_again 1 6 := ⟨⟨q660, q661, q662⟩, ⟨q7, q663, ⟨by decide +kernel, by decide +kernel, by decide +kernel⟩, by decide +kernel, by decide⟩, _, rfl, rfl⟩
theorem kL_32 : CaV RL 32 mX5_gauge 1 5 := ⟨⟨q295, q296, q297⟩, ⟨q1, q298, ⟨by decide +kernel, by decide +kernel, by decide +kernel⟩, by decide +kernel, by decide⟩, _, rfl, rfl⟩
theorem kL_35 : CaV RL 35 mX6_gauge 1 6 := ⟨⟨q664, q665, q666⟩, ⟨q7, q667, ⟨by decide +kernel, by decide +kernel, by decide +kernel⟩, by decide +kernel, by decide⟩, _, rfl, rfl⟩
theorem kL_36 : CaV RL 36 mX5_level 2 5 := ⟨⟨q307, q308, q309⟩, ⟨q1, q310, ⟨by decide +kernel, by decide +kernel, by decide +kernel⟩, by decide +kernel, by decide⟩, _, rfl, rfl⟩
theorem kL_39 : CaV RL 39 mX6_level 2 6 := ⟨⟨q679, q680, q681⟩, ⟨q7, q682, ⟨by decide +kernel, by decide +kernel, by decide +kernel⟩, by decide +kernel, by decide⟩, _, rfl, rfl⟩
theorem kL_40 : CaV RL 40 mX5_pass 1 5 := ⟨⟨q315, q316, q317⟩, ⟨q1, q318, ⟨by decide +kernel, by decide +kernel, by decide +kernel⟩, by decide +kernel, by decide⟩, _, rfl, rfl⟩
theorem kL_43 : CaV RL 43 mX6_pass 1 6 := ⟨⟨q687, q688, q689⟩, ⟨q7, q690, ⟨by decide +kernel, by decide +kernel, by decide +kernel⟩, by decide +kernel, by decide⟩, _, rfl, rfl⟩
theorem kL_44 : CaV RL 44 mX5_cell 2 5 := ⟨⟨q362, q363, q364⟩, ⟨q1, q365, ⟨by decide +kernel, by decide +kernel, by decide +kernel⟩, by decide +kernel, by decide⟩, _, rfl, rfl⟩
theorem kL_47 : CaV RL 47 mX6_cell 2 6 := ⟨⟨q730, q731, q732⟩, ⟨q7, q733, ⟨by decide +kernel, by decide +kernel, by decide +kernel⟩, by decide +kernel, by decide⟩, _, rfl, rfl⟩
theorem kL_48 : CaV RL 48 mX5_ofPaddle 2 5 := ⟨⟨q376, q377, q378⟩, ⟨q1, q379, ⟨by decide +kernel, by decide +kernel, by decide +kernel⟩, by decide +kernel, by decide⟩, _, rfl, rfl⟩
theorem kL_51 : CaV RL 51 mX6_ofPaddle 2 6 := ⟨⟨q742, q743, q744⟩, ⟨q7, q745, ⟨by decide +kernel, by decide +kernel, by decide +kernel⟩, by decide +kernel, by decide⟩, _, rfl, rfl⟩
theorem kL_52 : CaV RL 52 mX5_ofGauge 2 5 := ⟨⟨q381, q382, q383⟩, ⟨q1, q384, ⟨by decide +kernel, by decide +kernel, by decide +kernel⟩, by decide +kernel, by decide⟩, _, rfl, rfl⟩
theorem kL_55 : CaV RL 55 mX6_ofGauge 2 6 := ⟨⟨q750, q751, q752⟩, ⟨q7, q753, ⟨by decide +kernel, by decide +kernel, by decide +kernel⟩, by decide +kernel, by decide⟩, _, rfl, rfl⟩
theorem kL_56 : CaV RL 56 mX5_noted 2 5 := ⟨⟨q405, q406, q407⟩, ⟨q1, q408, ⟨by decide +kernel, by decide +kernel, by decide +kernel⟩, by decide +kernel, by decide⟩, _, rfl, rfl⟩
theorem kL_59 : CaV RL 59 mX6_noted 2 6 := ⟨⟨q770, q771, q772⟩, ⟨q7, q773, ⟨by decide +kernel, by decide +kernel, by decide +kernel⟩, by decide +kernel, by decide⟩, _, rfl, rfl⟩
theorem kL_60 : CaV RL 60 mX5_places 1 5 := ⟨⟨q410, q411, q412⟩, ⟨q1, q413, ⟨by decide +kernel, by decide +kernel, by decide +kernel⟩, by decide +kernel, by decide⟩, _, rfl, rfl⟩
theorem kL_64 : CaV RL 64 mX6_places 1 6 := ⟨⟨q774, q775, q776⟩, ⟨q7, q777, ⟨by decide +kernel, by decide +kernel, by decide +kernel⟩, by decide +kernel, by decide⟩, _, rfl, rfl⟩
theorem kL_65 : CaV RL 65 mX5_count 1 5 := ⟨⟨q425, q426, q427⟩, ⟨q1, q428, ⟨by decide +kernel, by decide +kernel, by decide +kernel⟩, by decide +kernel, by decide⟩, _, rfl, rfl⟩
theorem kL_68 : CaV RL 68 mX6_count 1 6 := ⟨⟨q783, q784, q785⟩, ⟨q7, q786, ⟨by decide +kernel, by decide +kernel, by decide +kernel⟩, by decide +kernel, by decide⟩, _, rfl, rfl⟩
theorem kL_69 : CaV RL 69 mX5_reaches 2 5 := ⟨⟨q453, q454, q455⟩, ⟨q1, q456, ⟨by decide +kernel, by decide +kernel, by decide +kernel⟩, by decide +kernel, by decide⟩, _, rfl, rfl⟩
theorem kL_72 : CaV RL 72 mX6_reaches 2 6 := ⟨⟨q808, q809, q810⟩, ⟨q7, q811, ⟨by decide +kernel, by decide +kernel, by decide +kernel⟩, by decide +kernel, by decide⟩, _, rfl, rfl⟩
theorem kL_73 : CaV RL 73 mX5_bestPeriod 4 5 := ⟨⟨q459, q460, q461⟩, ⟨q1, q462, ⟨by decide +kernel, by decide +kernel, by decide +kernel⟩, by decide +kernel, by decide⟩, _, rfl, rfl⟩
theorem kL_77 : CaV RL 77 mX6_bestPeriod 4 6 := ⟨⟨q812, q813, q814⟩, ⟨q7, q815, ⟨by decide +kernel, by decide +kernel, by decide +kernel⟩, by decide +kernel, by decide⟩, _, rfl, rfl⟩
theorem kL_78 : CaV RL 78 mX5_calmIn 0 5 := ⟨⟨q467, q468, q469⟩, ⟨q1, q470, ⟨by decide +kernel, by decide +kernel, by decide +kernel⟩, by decide +kernel, by decide⟩, _, rfl, rfl⟩
theorem kL_82 : CaV RL 82 mX6_calmIn 0 6 := ⟨⟨q816, q817, q818⟩, ⟨q7, q819, ⟨by decide +kernel, by decide +kernel, by decide +kernel⟩, by decide +kernel, by decide⟩, _, rfl, rfl⟩
theorem kL_85 : CaV RL 85 mX5_put 1 5 := ⟨⟨q475, q476, q477⟩, ⟨q1, q478, ⟨by decide +kernel, by decide +kernel, by decide +kernel⟩, by decide +kernel, by decide⟩, _, rfl, rfl⟩
theorem kL_89 : CaV RL 89 mX6_put 1 6 := ⟨⟨q820, q821, q822⟩, ⟨q7, q823, ⟨by decide +kernel, by decide +kernel, by decide +kernel⟩, by decide +kernel, by decide⟩, _, rfl, rfl⟩
theorem kL_90 : CaV RL 90 mX5_wipe 0 5 := ⟨⟨q487, q488, q489⟩, ⟨q1, q490, ⟨by decide +kernel, by decide +kernel, by decide +kernel⟩, by decide +kernel, by decide⟩, _, rfl, rfl⟩
theorem kL_93 : CaV RL 93 mX6_wipe 0 6 := ⟨⟨q825, q826, q827⟩, ⟨q7, q828, ⟨by decide +kernel, by decide +kernel, by decide +kernel⟩, by decide +kernel, by decide⟩, _, rfl, rfl⟩
theorem kL_94 : CaV RL 94 mX5_fault 0 5 := ⟨⟨q491, q492, q493⟩, ⟨q1, q494, ⟨by decide +kernel, by decide +kernel, by decide +kernel⟩, by decide +kernel, by decide⟩, _, rfl, rfl⟩
theorem kL_97 : CaV RL 97 mX6_fault 0 6 := ⟨⟨q829, q830, q831⟩, ⟨q7, q832, ⟨by decide +kernel, by decide +kernel, by decide +kernel⟩, by decide +kernel, by decide⟩, _, rfl, rfl⟩
theorem kL_98 : CaV RL 98 mX5_carryOut 0 5 := ⟨⟨q535, q536, q537⟩, ⟨q1, q538, ⟨by decide +kernel, by decide +kernel, by decide +kernel⟩, by decide +kernel, by decide⟩, _, rfl, rfl⟩
theorem kL_101 : CaV RL 101 mX6_carryOut 0 6 := ⟨⟨q869, q870, q871⟩, ⟨q7, q872, ⟨by decide +kernel, by decide +kernel, by decide +kernel⟩, by decide +kernel, by decide⟩, _, rfl, rfl⟩
theorem kL_102 : CaV RL 102 mX5_undo 0 5 := ⟨⟨q549, q550, q551⟩, ⟨q1, q552, ⟨by decide +kernel, by decide +kernel, by decide +kernel⟩, by decide +kernel, by decide⟩, _, rfl, rfl⟩
theorem kL_105 : CaV RL 105 mX6_undo 0 6 := ⟨⟨q881, q882, q883⟩, ⟨q7, q884, ⟨by decide +kernel, by decide +kernel, by decide +kernel⟩, by decide +kernel, by decide⟩, _, rfl, rfl⟩
theorem kL_106 : CaV RL 106 mX5_save 1 5 := ⟨⟨q557, q558, q559⟩, ⟨q1, q560, ⟨by decide +kernel, by decide +kernel, by decide +kernel⟩, by decide +kernel, by decide⟩, _, rfl, rfl⟩
theorem kL_109 : CaV RL 109 mX6_save 1 6 := ⟨⟨q885, q886, q887⟩, ⟨q7, q888, ⟨by decide +kernel, by decide +kernel, by decide +kernel⟩, by decide +kernel, by decide⟩, _, rfl, rfl⟩
theorem kL_110 : CaV RL 110 mX5_restore 1 5 := ⟨⟨q561, q562, q563⟩, ⟨q1, q564, ⟨by decide +kernel, by decide +kernel, by decide +kernel⟩, by decide +kernel, by decide⟩, _, rfl, rfl⟩
theorem kL_113 : CaV RL 113 mX6_restore 1 6 := ⟨⟨q889, q890, q891⟩, ⟨q7, q892, ⟨by decide +kernel, by decide +kernel, by decide +kernel⟩, by decide +kernel, by decide⟩, _, rfl, rfl⟩
theorem pX6_7 : Fp RX6 7 6 0 (.array .int) true := ⟨_, rfl, by decide, q571, rfl, by decide +kernel, fun _ => rfl⟩
theorem fX6_7 : Fl RX6 7 6 0 := ⟨_, rfl, by decide, q571⟩
theorem pX6_13 : Fp RX6 13 6 1 (.array .int) true := ⟨_, rfl, by decide, q572, rfl, by decide +kernel, fun _ => rfl⟩
theorem fX6_13 : Fl RX6 13 6 1 := ⟨_, rfl, by decide, q572⟩
theorem pX6_16 : Fp RX6 16 6 2 (.array .int) true := ⟨_, rfl, by decide, q573, rfl, by decide +kernel, fun _ => rfl⟩
theorem fX6_16 : Fl RX6 16 6 2 := ⟨_, rfl, by decide, q573⟩
theorem pX6_19 : Fp RX6 19 6 4 (.array .int) true := ⟨_, rfl, by decide, q575, rfl, by decide +kernel, fun _ => rfl⟩
theorem fX6_19 : Fl RX6 19 6 4 := ⟨_, rfl, by decide, q575⟩
theorem pX6_22 : Fp RX6 22 6 5 (.array .int) true := ⟨_, rfl, by decide, q576, rfl, by decide +kernel, fun _ => rfl⟩
theorem fX6_22 : Fl RX6 22 6 5 := ⟨_, rfl, by decide, q576⟩
theorem pX6_25 : Fp RX6 25 6 6 (.array .int) true := ⟨_, rfl, by decide, q577, rfl, by decide +kernel, fun _ => rfl⟩
theorem fX6_25 : Fl RX6 25 6 6 := ⟨_, rfl, by decide, q577⟩
theorem pX6_28 : Fp RX6 28 6 11 (.array .int) true := ⟨_, rfl, by decide, q582, rfl, by decide +kernel, fun _ => rfl⟩
theorem fX6_28 : Fl RX6 28 6 11 := ⟨_, rfl, by decide, q582⟩
theorem fX6_31 : Fl RX6 31 6 3 := ⟨_, rfl, by decide, q574⟩
theorem pX6_31 : Fp RX6 31 6 3 .int false := ⟨_, rfl, by decide, q574, rfl, by decide +kernel, fun h => Bool.noConfusion h⟩
theorem kX6_35 : CaS RX6 35 mX6_moves 4 := ⟨⟨q625, q626⟩, ⟨q7, q627, ⟨by decide +kernel, by decide +kernel, by decide +kernel⟩, by decide +kernel, by decide⟩⟩
theorem kX6_39 : CaS RX6 39 mX6_within 3 := ⟨⟨q618, q619⟩, ⟨q7, q620, ⟨by decide +kernel, by decide +kernel, by decide +kernel⟩, by decide +kernel, by decide⟩⟩
theorem kX6_43 : CaV RX6 43 mX6_paddlePart 2 6 := ⟨⟨q640, q642, (inWS (List.mem_of_getElem? (i := 7) (by decide +kernel)) (by decide +kernel))⟩, ⟨q7, q643, ⟨by decide +kernel, by decide +kernel, by decide +kernel⟩, by decide +kernel, by decide⟩, _, rfl, rfl⟩
theorem kX6_47 : CaV RX6 47 mX6_levelOf 1 6 := ⟨⟨q683, q685, (inWS (List.mem_of_getElem? (i := 13) (by decide +kernel)) (by decide +kernel))⟩, ⟨q7, q686, ⟨by decide +kernel, by decide +kernel, by decide +kernel⟩, by decide +kernel, by decide⟩, _, rfl, rfl⟩
theorem kX6_51 : CaS RX6 51 mX6_size 1 := ⟨⟨q708, q709⟩, ⟨q7, q710, ⟨by decide +kernel, by decide +kernel, by decide +kernel⟩, by decide +kernel, by decide⟩⟩
theorem kX6_54 : CaV RX6 54 mX6_setPaddle 3 6 := ⟨⟨q652, q654, (inWS (List.mem_of_getElem? (i := 10) (by decide +kernel)) (by decide +kernel))⟩, ⟨q7, q655, ⟨by decide +kernel, by decide +kernel, by decide +kernel⟩, by decide +kernel, by decide⟩, _, rfl, rfl⟩
theorem kX6_58 : CaV RX6 58 mX6_push 1 6 := ⟨⟨q711, q713, (inWS (List.mem_of_getElem? (i := 18) (by decide +kernel)) (by decide +kernel))⟩, ⟨q7, q714, ⟨by decide +kernel, by decide +kernel, by decide +kernel⟩, by decide +kernel, by decide⟩, _, rfl, rfl⟩
theorem kX6_61 : CaS RX6 61 mX6_bounded 1 := ⟨⟨q719, q720⟩, ⟨q7, q721, ⟨by decide +kernel, by decide +kernel, by decide +kernel⟩, by decide +kernel, by decide⟩⟩
theorem kX6_64 : CaV RX6 64 mX6_pushAll 0 6 := ⟨⟨q704, q706, (inWS (List.mem_of_getElem? (i := 17) (by decide +kernel)) (by decide +kernel))⟩, ⟨q7, q707, ⟨by decide +kernel, by decide +kernel, by decide +kernel⟩, by decide +kernel, by decide⟩, _, rfl, rfl⟩
theorem kX6_68 : CaV RX6 68 mX6_swing 0 6 := ⟨⟨q715, q717, (inWS (List.mem_of_getElem? (i := 19) (by decide +kernel)) (by decide +kernel))⟩, ⟨q7, q718, ⟨by decide +kernel, by decide +kernel, by decide +kernel⟩, by decide +kernel, by decide⟩, _, rfl, rfl⟩
theorem kX6_71 : CaV RX6 71 mX6_beach 0 6 := ⟨⟨q722, q724, (inWS (List.mem_of_getElem? (i := 20) (by decide +kernel)) (by decide +kernel))⟩, ⟨q7, q725, ⟨by decide +kernel, by decide +kernel, by decide +kernel⟩, by decide +kernel, by decide⟩, _, rfl, rfl⟩
theorem kX6_74 : CaV RX6 74 mX6_note 0 6 := ⟨⟨q726, q728, (inWS (List.mem_of_getElem? (i := 21) (by decide +kernel)) (by decide +kernel))⟩, ⟨q7, q729, ⟨by decide +kernel, by decide +kernel, by decide +kernel⟩, by decide +kernel, by decide⟩, _, rfl, rfl⟩
theorem kX6_77 : CaV RX6 77 mX6_step 0 6 := ⟨⟨q700, q702, (inWS (List.mem_of_getElem? (i := 16) (by decide +kernel)) (by decide +kernel))⟩, ⟨q7, q703, ⟨by decide +kernel, by decide +kernel, by decide +kernel⟩, by decide +kernel, by decide⟩, _, rfl, rfl⟩
theorem kX6_80 : CaS RX6 80 mX6_isValue 2 := ⟨⟨q615, q616⟩, ⟨q7, q617, ⟨by decide +kernel, by decide +kernel, by decide +kernel⟩, by decide +kernel, by decide⟩⟩
theorem kX6_84 : CaV RX6 84 mX6_record 0 6 := ⟨⟨q621, q623, (inWS (List.mem_of_getElem? (i := 4) (by decide +kernel)) (by decide +kernel))⟩, ⟨q7, q624, ⟨by decide +kernel, by decide +kernel, by decide +kernel⟩, by decide +kernel, by decide⟩, _, rfl, rfl⟩
theorem kX6_87 : CaV RX6 87 mX6_rankIn 1 6 := ⟨⟨q636, q638, (inWS (List.mem_of_getElem? (i := 6) (by decide +kernel)) (by decide +kernel))⟩, ⟨q7, q639, ⟨by decide +kernel, by decide +kernel, by decide +kernel⟩, by decide +kernel, by decide⟩, _, rfl, rfl⟩
theorem kX6_90 : CaV RX6 90 mX6_lifts 1 6 := ⟨⟨q648, q650, (inWS (List.mem_of_getElem? (i := 9) (by decide +kernel)) (by decide +kernel))⟩, ⟨q7, q651, ⟨by decide +kernel, by decide +kernel, by decide +kernel⟩, by decide +kernel, by decide⟩, _, rfl, rfl⟩
theorem kX6_94 : CaV RX6 94 mX6_whyNoPaddle 5 6 := ⟨⟨q632, q634, (inWS (List.mem_of_getElem? (i := 5) (by decide +kernel)) (by decide +kernel))⟩, ⟨q7, q635, ⟨by decide +kernel, by decide +kernel, by decide +kernel⟩, by decide +kernel, by decide⟩, _, rfl, rfl⟩
theorem kX6_98 : CaV RX6 98 mX6_puts 5 6 := ⟨⟨q644, q646, (inWS (List.mem_of_getElem? (i := 8) (by decide +kernel)) (by decide +kernel))⟩, ⟨q7, q647, ⟨by decide +kernel, by decide +kernel, by decide +kernel⟩, by decide +kernel, by decide⟩, _, rfl, rfl⟩
theorem kX6_102 : CaS RX6 102 mX6_isCell 1 := ⟨⟨q672, q673⟩, ⟨q7, q674, ⟨by decide +kernel, by decide +kernel, by decide +kernel⟩, by decide +kernel, by decide⟩⟩
theorem kX6_106 : CaV RX6 106 mX6_whyNoGauge 1 6 := ⟨⟨q668, q670, (inWS (List.mem_of_getElem? (i := 11) (by decide +kernel)) (by decide +kernel))⟩, ⟨q7, q671, ⟨by decide +kernel, by decide +kernel, by decide +kernel⟩, by decide +kernel, by decide⟩, _, rfl, rfl⟩
theorem kX6_109 : CaV RX6 109 mX6_comesGauge 1 6 := ⟨⟨q675, q677, (inWS (List.mem_of_getElem? (i := 12) (by decide +kernel)) (by decide +kernel))⟩, ⟨q7, q678, ⟨by decide +kernel, by decide +kernel, by decide +kernel⟩, by decide +kernel, by decide⟩, _, rfl, rfl⟩
theorem kX6_113 : CaV RX6 113 mX6_whyNotPassed 1 6 := ⟨⟨q691, q693, (inWS (List.mem_of_getElem? (i := 14) (by decide +kernel)) (by decide +kernel))⟩, ⟨q7, q694, ⟨by decide +kernel, by decide +kernel, by decide +kernel⟩, by decide +kernel, by decide⟩, _, rfl, rfl⟩
theorem kX6_116 : CaV RX6 116 mX6_passes 1 6 := ⟨⟨q696, q698, (inWS (List.mem_of_getElem? (i := 15) (by decide +kernel)) (by decide +kernel))⟩, ⟨q7, q699, ⟨by decide +kernel, by decide +kernel, by decide +kernel⟩, by decide +kernel, by decide⟩, _, rfl, rfl⟩
theorem kX6_119 : CaV RX6 119 mX6_isCrest 1 6 := ⟨⟨q734, q736, (inWS (List.mem_of_getElem? (i := 22) (by decide +kernel)) (by decide +kernel))⟩, ⟨q7, q737, ⟨by decide +kernel, by decide +kernel, by decide +kernel⟩, by decide +kernel, by decide⟩, _, rfl, rfl⟩
theorem kX6_122 : CaV RX6 122 mX6_isTrough 1 6 := ⟨⟨q738, q740, (inWS (List.mem_of_getElem? (i := 23) (by decide +kernel)) (by decide +kernel))⟩, ⟨q7, q741, ⟨by decide +kernel, by decide +kernel, by decide +kernel⟩, by decide +kernel, by decide⟩, _, rfl, rfl⟩
theorem kX6_125 : CaV RX6 125 mX6_isRank 1 6 := ⟨⟨q746, q748, (inWS (List.mem_of_getElem? (i := 24) (by decide +kernel)) (by decide +kernel))⟩, ⟨q7, q749, ⟨by decide +kernel, by decide +kernel, by decide +kernel⟩, by decide +kernel, by decide⟩, _, rfl, rfl⟩
theorem kX6_128 : CaV RX6 128 mX6_gaugePart 2 6 := ⟨⟨q758, q760, (inWS (List.mem_of_getElem? (i := 26) (by decide +kernel)) (by decide +kernel))⟩, ⟨q7, q761, ⟨by decide +kernel, by decide +kernel, by decide +kernel⟩, by decide +kernel, by decide⟩, _, rfl, rfl⟩
theorem kX6_131 : CaV RX6 131 mX6_isGauge 1 6 := ⟨⟨q754, q756, (inWS (List.mem_of_getElem? (i := 25) (by decide +kernel)) (by decide +kernel))⟩, ⟨q7, q757, ⟨by decide +kernel, by decide +kernel, by decide +kernel⟩, by decide +kernel, by decide⟩, _, rfl, rfl⟩
theorem kX6_134 : CaV RX6 134 mX6_extreme 2 6 := ⟨⟨q762, q764, (inWS (List.mem_of_getElem? (i := 27) (by decide +kernel)) (by decide +kernel))⟩, ⟨q7, q765, ⟨by decide +kernel, by decide +kernel, by decide +kernel⟩, by decide +kernel, by decide⟩, _, rfl, rfl⟩
theorem kX6_138 : CaV RX6 138 mX6_risings 1 6 := ⟨⟨q766, q768, (inWS (List.mem_of_getElem? (i := 28) (by decide +kernel)) (by decide +kernel))⟩, ⟨q7, q769, ⟨by decide +kernel, by decide +kernel, by decide +kernel⟩, by decide +kernel, by decide⟩, _, rfl, rfl⟩
theorem kX6_143 : CaV RX6 143 mX6_isPlace 2 6 := ⟨⟨q779, q781, (inWS (List.mem_of_getElem? (i := 29) (by decide +kernel)) (by decide +kernel))⟩, ⟨q7, q782, ⟨by decide +kernel, by decide +kernel, by decide +kernel⟩, by decide +kernel, by decide⟩, _, rfl, rfl⟩
theorem kX6_146 : CaV RX6 146 mX6_stopped 0 6 := ⟨⟨q787, q789, (inWS (List.mem_of_getElem? (i := 30) (by decide +kernel)) (by decide +kernel))⟩, ⟨q7, q790, ⟨by decide +kernel, by decide +kernel, by decide +kernel⟩, by decide +kernel, by decide⟩, _, rfl, rfl⟩
theorem kX6_149 : CaV RX6 149 mX6_sumOfLevels 0 6 := ⟨⟨q791, q793, (inWS (List.mem_of_getElem? (i := 31) (by decide +kernel)) (by decide +kernel))⟩, ⟨q7, q794, ⟨by decide +kernel, by decide +kernel, by decide +kernel⟩, by decide +kernel, by decide⟩, _, rfl, rfl⟩
theorem kX6_153 : CaV RX6 153 mX6_swings 0 6 := ⟨⟨q796, q798, (inWS (List.mem_of_getElem? (i := 32) (by decide +kernel)) (by decide +kernel))⟩, ⟨q7, q799, ⟨by decide +kernel, by decide +kernel, by decide +kernel⟩, by decide +kernel, by decide⟩, _, rfl, rfl⟩
theorem kX6_156 : CaV RX6 156 mX6_greatest 0 6 := ⟨⟨q800, q802, (inWS (List.mem_of_getElem? (i := 33) (by decide +kernel)) (by decide +kernel))⟩, ⟨q7, q803, ⟨by decide +kernel, by decide +kernel, by decide +kernel⟩, by decide +kernel, by decide⟩, _, rfl, rfl⟩
theorem kX6_159 : CaV RX6 159 mX6_lastSwung 0 6 := ⟨⟨q804, q806, (inWS (List.mem_of_getElem? (i := 34) (by decide +kernel)) (by decide +kernel))⟩, ⟨q7, q807, ⟨by decide +kernel, by decide +kernel, by decide +kernel⟩, by decide +kernel, by decide⟩, _, rfl, rfl⟩
theorem fX6_162 : Fl RX6 162 6 7 := ⟨_, rfl, by decide, q578⟩
theorem pX6_162 : Fp RX6 162 6 7 .int false := ⟨_, rfl, by decide, q578, rfl, by decide +kernel, fun h => Bool.noConfusion h⟩
theorem fX6_167 : Fl RX6 167 6 8 := ⟨_, rfl, by decide, q579⟩
theorem pX6_167 : Fp RX6 167 6 8 .int false := ⟨_, rfl, by decide, q579, rfl, by decide +kernel, fun h => Bool.noConfusion h⟩
theorem kX6_170 : CaV RX6 170 mX6_character 1 6 := ⟨⟨q841, q843, (inWS (List.mem_of_getElem? (i := 37) (by decide +kernel)) (by decide +kernel))⟩, ⟨q7, q844, ⟨by decide +kernel, by decide +kernel, by decide +kernel⟩, by decide +kernel, by decide⟩, _, rfl, rfl⟩
theorem kX6_173 : CaV RX6 173 mX6_isDigit 0 6 := ⟨⟨q853, q855, (inWS (List.mem_of_getElem? (i := 40) (by decide +kernel)) (by decide +kernel))⟩, ⟨q7, q856, ⟨by decide +kernel, by decide +kernel, by decide +kernel⟩, by decide +kernel, by decide⟩, _, rfl, rfl⟩
theorem fX6_177 : Fl RX6 177 6 12 := ⟨_, rfl, by decide, q583⟩
theorem pX6_177 : Fp RX6 177 6 12 .int false := ⟨_, rfl, by decide, q583, rfl, by decide +kernel, fun h => Bool.noConfusion h⟩
theorem kX6_180 : CaV RX6 180 mX6_isNext 1 6 := ⟨⟨q865, q867, (inWS (List.mem_of_getElem? (i := 43) (by decide +kernel)) (by decide +kernel))⟩, ⟨q7, q868, ⟨by decide +kernel, by decide +kernel, by decide +kernel⟩, by decide +kernel, by decide⟩, _, rfl, rfl⟩
theorem kX6_183 : CaV RX6 183 mX6_takesNumber 1 6 := ⟨⟨q849, q851, (inWS (List.mem_of_getElem? (i := 39) (by decide +kernel)) (by decide +kernel))⟩, ⟨q7, q852, ⟨by decide +kernel, by decide +kernel, by decide +kernel⟩, by decide +kernel, by decide⟩, _, rfl, rfl⟩
theorem pX6_186 : Fp RX6 186 6 10 .int false := ⟨_, rfl, by decide, q581, rfl, by decide +kernel, fun h => Bool.noConfusion h⟩
theorem fX6_186 : Fl RX6 186 6 10 := ⟨_, rfl, by decide, q581⟩
theorem kX6_189 : CaV RX6 189 mX6_takesSort 0 6 := ⟨⟨q857, q859, (inWS (List.mem_of_getElem? (i := 41) (by decide +kernel)) (by decide +kernel))⟩, ⟨q7, q860, ⟨by decide +kernel, by decide +kernel, by decide +kernel⟩, by decide +kernel, by decide⟩, _, rfl, rfl⟩
theorem kX6_192 : CaV RX6 192 mX6_takesValue 0 6 := ⟨⟨q861, q863, (inWS (List.mem_of_getElem? (i := 42) (by decide +kernel)) (by decide +kernel))⟩, ⟨q7, q864, ⟨by decide +kernel, by decide +kernel, by decide +kernel⟩, by decide +kernel, by decide⟩, _, rfl, rfl⟩
theorem pX6_195 : Fp RX6 195 6 9 .int false := ⟨_, rfl, by decide, q580, rfl, by decide +kernel, fun h => Bool.noConfusion h⟩
theorem fX6_195 : Fl RX6 195 6 9 := ⟨_, rfl, by decide, q580⟩
theorem kX6_198 : CaV RX6 198 mX6_takesRecipe 0 6 := ⟨⟨q845, q847, (inWS (List.mem_of_getElem? (i := 38) (by decide +kernel)) (by decide +kernel))⟩, ⟨q7, q848, ⟨by decide +kernel, by decide +kernel, by decide +kernel⟩, by decide +kernel, by decide⟩, _, rfl, rfl⟩
theorem kX6_201 : CaV RX6 201 mX6_readsOrder 0 6 := ⟨⟨q837, q839, (inWS (List.mem_of_getElem? (i := 36) (by decide +kernel)) (by decide +kernel))⟩, ⟨q7, q840, ⟨by decide +kernel, by decide +kernel, by decide +kernel⟩, by decide +kernel, by decide⟩, _, rfl, rfl⟩
theorem kX6_204 : CaV RX6 204 mX6_findFault 0 6 := ⟨⟨q833, q835, (inWS (List.mem_of_getElem? (i := 35) (by decide +kernel)) (by decide +kernel))⟩, ⟨q7, q836, ⟨by decide +kernel, by decide +kernel, by decide +kernel⟩, by decide +kernel, by decide⟩, _, rfl, rfl⟩
theorem kX6_207 : CaV RX6 207 mX6_canDo 0 6 := ⟨⟨q873, q875, (inWS (List.mem_of_getElem? (i := 44) (by decide +kernel)) (by decide +kernel))⟩, ⟨q7, q876, ⟨by decide +kernel, by decide +kernel, by decide +kernel⟩, by decide +kernel, by decide⟩, _, rfl, rfl⟩
theorem kX6_210 : CaV RX6 210 mX6_does 0 6 := ⟨⟨q877, q879, (inWS (List.mem_of_getElem? (i := 45) (by decide +kernel)) (by decide +kernel))⟩, ⟨q7, q880, ⟨by decide +kernel, by decide +kernel, by decide +kernel⟩, by decide +kernel, by decide⟩, _, rfl, rfl⟩
section ARITY
variable {γ : Gm} {l : Launch} {y z : Mt} {d dz nE nX pc n n' idx : Nat} {L : List (Option Value)} {S : List Value} {M : Mm} {R : Rm} {K : Option Value → Nat → Mm → Rm → Prop} {a1 a2 a3 a4 a5 : Value}
theorem wp_cV0 {b ci : Nat} (hc : CaV y.1.cls idx z 0 ci) (hd : decode y.2.1 pc = .ok (.invokevirtual idx, 3)) (hiL : (iL []).length + 1 ≤ z.2.2.1) (hdz : dz + 1 ≤ d) (ht : tg b = ci) (hb : b < n) (hS : S.length ≤ 4) (hn : n ≤ n') (hnX : n' ≤ nX) (kk : CL γ l z dz n n' [.ref b] M R (kAft γ l y d nE nX pc L S K)) : WP γ l y d nE nX pc L (.ref b :: S) n M R K := wp_callV (As := []) hc hd rfl hiL hdz ht hb hS hn hnX kk
theorem wp_cS0 (hc : CaS y.1.cls idx z 0) (hd : decode y.2.1 pc = .ok (.invokestatic idx, 3)) (hiL : (iL []).length ≤ z.2.2.1) (hdz : dz + 1 ≤ d) (hS : S.length ≤ 4) (hn : n ≤ n') (hnX : n' ≤ nX) (kk : CL γ l z dz n n' [] M R (kAft γ l y d nE nX pc L S K)) : WP γ l y d nE nX pc L (S) n M R K := wp_callS (As := []) hc hd rfl hiL hdz hS hn hnX kk
theorem wp_cT0 (hc : CaSN y.1.cls idx z 0) (hd : decode y.2.1 pc = .ok (.invokestatic idx, 3)) (hiL : (iL []).length ≤ z.2.2.1) (hdz : dz + 1 ≤ d) (hS : S.length ≤ 4) (hn : n ≤ n') (hnX : n' ≤ nX) (kk : CL γ l z dz n n' [] M R (kAft γ l y d nE nX pc L S K)) : WP γ l y d nE nX pc L (S) n M R K := wp_callSN (As := []) hc hd rfl hiL hdz hS hn hnX kk
theorem wp_cV1 {b ci : Nat} (hc : CaV y.1.cls idx z 1 ci) (hd : decode y.2.1 pc = .ok (.invokevirtual idx, 3)) (hiL : (iL [a1]).length + 1 ≤ z.2.2.1) (hdz : dz + 1 ≤ d) (ht : tg b = ci) (hb : b < n) (hS : S.length ≤ 4) (hn : n ≤ n') (hnX : n' ≤ nX) (kk : CL γ l z dz n n' [.ref b, a1] M R (kAft γ l y d nE nX pc L S K)) : WP γ l y d nE nX pc L (a1 :: .ref b :: S) n M R K := wp_callV (As := [a1]) hc hd rfl hiL hdz ht hb hS hn hnX kk
theorem wp_cS1 (hc : CaS y.1.cls idx z 1) (hd : decode y.2.1 pc = .ok (.invokestatic idx, 3)) (hiL : (iL [a1]).length ≤ z.2.2.1) (hdz : dz + 1 ≤ d) (hS : S.length ≤ 4) (hn : n ≤ n') (hnX : n' ≤ nX) (kk : CL γ l z dz n n' [a1] M R (kAft γ l y d nE nX pc L S K)) : WP γ l y d nE nX pc L (a1 :: S) n M R K := wp_callS (As := [a1]) hc hd rfl hiL hdz hS hn hnX kk
theorem wp_cT1 (hc : CaSN y.1.cls idx z 1) (hd : decode y.2.1 pc = .ok (.invokestatic idx, 3)) (hiL : (iL [a1]).length ≤ z.2.2.1) (hdz : dz + 1 ≤ d) (hS : S.length ≤ 4) (hn : n ≤ n') (hnX : n' ≤ nX) (kk : CL γ l z dz n n' [a1] M R (kAft γ l y d nE nX pc L S K)) : WP γ l y d nE nX pc L (a1 :: S) n M R K := wp_callSN (As := [a1]) hc hd rfl hiL hdz hS hn hnX kk
theorem wp_cV2 {b ci : Nat} (hc : CaV y.1.cls idx z 2 ci) (hd : decode y.2.1 pc = .ok (.invokevirtual idx, 3)) (hiL : (iL [a1, a2]).length + 1 ≤ z.2.2.1) (hdz : dz + 1 ≤ d) (ht : tg b = ci) (hb : b < n) (hS : S.length ≤ 4) (hn : n ≤ n') (hnX : n' ≤ nX) (kk : CL γ l z dz n n' [.ref b, a1, a2] M R (kAft γ l y d nE nX pc L S K)) : WP γ l y d nE nX pc L (a2 :: a1 :: .ref b :: S) n M R K := wp_callV (As := [a1, a2]) hc hd rfl hiL hdz ht hb hS hn hnX kk
theorem wp_cS2 (hc : CaS y.1.cls idx z 2) (hd : decode y.2.1 pc = .ok (.invokestatic idx, 3)) (hiL : (iL [a1, a2]).length ≤ z.2.2.1) (hdz : dz + 1 ≤ d) (hS : S.length ≤ 4) (hn : n ≤ n') (hnX : n' ≤ nX) (kk : CL γ l z dz n n' [a1, a2] M R (kAft γ l y d nE nX pc L S K)) : WP γ l y d nE nX pc L (a2 :: a1 :: S) n M R K := wp_callS (As := [a1, a2]) hc hd rfl hiL hdz hS hn hnX kk
theorem wp_cT2 (hc : CaSN y.1.cls idx z 2) (hd : decode y.2.1 pc = .ok (.invokestatic idx, 3)) (hiL : (iL [a1, a2]).length ≤ z.2.2.1) (hdz : dz + 1 ≤ d) (hS : S.length ≤ 4) (hn : n ≤ n') (hnX : n' ≤ nX) (kk : CL γ l z dz n n' [a1, a2] M R (kAft γ l y d nE nX pc L S K)) : WP γ l y d nE nX pc L (a2 :: a1 :: S) n M R K := wp_callSN (As := [a1, a2]) hc hd rfl hiL hdz hS hn hnX kk
theorem wp_cV3 {b ci : Nat} (hc : CaV y.1.cls idx z 3 ci) (hd : decode y.2.1 pc = .ok (.invokevirtual idx, 3)) (hiL : (iL [a1, a2, a3]).length + 1 ≤ z.2.2.1) (hdz : dz + 1 ≤ d) (ht : tg b = ci) (hb : b < n) (hS : S.length ≤ 4) (hn : n ≤ n') (hnX : n' ≤ nX) (kk : CL γ l z dz n n' [.ref b, a1, a2, a3] M R (kAft γ l y d nE nX pc L S K)) : WP γ l y d nE nX pc L (a3 :: a2 :: a1 :: .ref b :: S) n M R K := wp_callV (As := [a1, a2, a3]) hc hd rfl hiL hdz ht hb hS hn hnX kk
theorem wp_cS3 (hc : CaS y.1.cls idx z 3) (hd : decode y.2.1 pc = .ok (.invokestatic idx, 3)) (hiL : (iL [a1, a2, a3]).length ≤ z.2.2.1) (hdz : dz + 1 ≤ d) (hS : S.length ≤ 4) (hn : n ≤ n') (hnX : n' ≤ nX) (kk : CL γ l z dz n n' [a1, a2, a3] M R (kAft γ l y d nE nX pc L S K)) : WP γ l y d nE nX pc L (a3 :: a2 :: a1 :: S) n M R K := wp_callS (As := [a1, a2, a3]) hc hd rfl hiL hdz hS hn hnX kk
theorem wp_cT3 (hc : CaSN y.1.cls idx z 3) (hd : decode y.2.1 pc = .ok (.invokestatic idx, 3)) (hiL : (iL [a1, a2, a3]).length ≤ z.2.2.1) (hdz : dz + 1 ≤ d) (hS : S.length ≤ 4) (hn : n ≤ n') (hnX : n' ≤ nX) (kk : CL γ l z dz n n' [a1, a2, a3] M R (kAft γ l y d nE nX pc L S K)) : WP γ l y d nE nX pc L (a3 :: a2 :: a1 :: S) n M R K := wp_callSN (As := [a1, a2, a3]) hc hd rfl hiL hdz hS hn hnX kk
theorem wp_cV4 {b ci : Nat} (hc : CaV y.1.cls idx z 4 ci) (hd : decode y.2.1 pc = .ok (.invokevirtual idx, 3)) (hiL : (iL [a1, a2, a3, a4]).length + 1 ≤ z.2.2.1) (hdz : dz + 1 ≤ d) (ht : tg b = ci) (hb : b < n) (hS : S.length ≤ 4) (hn : n ≤ n') (hnX : n' ≤ nX) (kk : CL γ l z dz n n' [.ref b, a1, a2, a3, a4] M R (kAft γ l y d nE nX pc L S K)) : WP γ l y d nE nX pc L (a4 :: a3 :: a2 :: a1 :: .ref b :: S) n M R K := wp_callV (As := [a1, a2, a3, a4]) hc hd rfl hiL hdz ht hb hS hn hnX kk
theorem wp_cS4 (hc : CaS y.1.cls idx z 4) (hd : decode y.2.1 pc = .ok (.invokestatic idx, 3)) (hiL : (iL [a1, a2, a3, a4]).length ≤ z.2.2.1) (hdz : dz + 1 ≤ d) (hS : S.length ≤ 4) (hn : n ≤ n') (hnX : n' ≤ nX) (kk : CL γ l z dz n n' [a1, a2, a3, a4] M R (kAft γ l y d nE nX pc L S K)) : WP γ l y d nE nX pc L (a4 :: a3 :: a2 :: a1 :: S) n M R K := wp_callS (As := [a1, a2, a3, a4]) hc hd rfl hiL hdz hS hn hnX kk
theorem wp_cT4 (hc : CaSN y.1.cls idx z 4) (hd : decode y.2.1 pc = .ok (.invokestatic idx, 3)) (hiL : (iL [a1, a2, a3, a4]).length ≤ z.2.2.1) (hdz : dz + 1 ≤ d) (hS : S.length ≤ 4) (hn : n ≤ n') (hnX : n' ≤ nX) (kk : CL γ l z dz n n' [a1, a2, a3, a4] M R (kAft γ l y d nE nX pc L S K)) : WP γ l y d nE nX pc L (a4 :: a3 :: a2 :: a1 :: S) n M R K := wp_callSN (As := [a1, a2, a3, a4]) hc hd rfl hiL hdz hS hn hnX kk
theorem wp_cV5 {b ci : Nat} (hc : CaV y.1.cls idx z 5 ci) (hd : decode y.2.1 pc = .ok (.invokevirtual idx, 3)) (hiL : (iL [a1, a2, a3, a4, a5]).length + 1 ≤ z.2.2.1) (hdz : dz + 1 ≤ d) (ht : tg b = ci) (hb : b < n) (hS : S.length ≤ 4) (hn : n ≤ n') (hnX : n' ≤ nX) (kk : CL γ l z dz n n' [.ref b, a1, a2, a3, a4, a5] M R (kAft γ l y d nE nX pc L S K)) : WP γ l y d nE nX pc L (a5 :: a4 :: a3 :: a2 :: a1 :: .ref b :: S) n M R K := wp_callV (As := [a1, a2, a3, a4, a5]) hc hd rfl hiL hdz ht hb hS hn hnX kk
theorem wp_cS5 (hc : CaS y.1.cls idx z 5) (hd : decode y.2.1 pc = .ok (.invokestatic idx, 3)) (hiL : (iL [a1, a2, a3, a4, a5]).length ≤ z.2.2.1) (hdz : dz + 1 ≤ d) (hS : S.length ≤ 4) (hn : n ≤ n') (hnX : n' ≤ nX) (kk : CL γ l z dz n n' [a1, a2, a3, a4, a5] M R (kAft γ l y d nE nX pc L S K)) : WP γ l y d nE nX pc L (a5 :: a4 :: a3 :: a2 :: a1 :: S) n M R K := wp_callS (As := [a1, a2, a3, a4, a5]) hc hd rfl hiL hdz hS hn hnX kk
theorem wp_cT5 (hc : CaSN y.1.cls idx z 5) (hd : decode y.2.1 pc = .ok (.invokestatic idx, 3)) (hiL : (iL [a1, a2, a3, a4, a5]).length ≤ z.2.2.1) (hdz : dz + 1 ≤ d) (hS : S.length ≤ 4) (hn : n ≤ n') (hnX : n' ≤ nX) (kk : CL γ l z dz n n' [a1, a2, a3, a4, a5] M R (kAft γ l y d nE nX pc L S K)) : WP γ l y d nE nX pc L (a5 :: a4 :: a3 :: a2 :: a1 :: S) n M R K := wp_callSN (As := [a1, a2, a3, a4, a5]) hc hd rfl hiL hdz hS hn hnX kk
theorem wp_af {v : Value} (h : WP γ l y d nE nX (pc + 3) L (v :: S) n M R K) : kAft γ l y d nE nX pc L S K (some v) n M R := h
theorem wp_af0 (h : WP γ l y d nE nX (pc + 3) L S n M R K) : kAft γ l y d nE nX pc L S K none n M R := h
theorem wp_getQ {a ci k b : Nat} (hF : Fl y.1.cls idx ci k) (ht : tg a = ci) (hr : isR ci k = true) (e : R a k = b) (h0 : b ≠ 0) (ha : a < n) (hd : decode y.2.1 pc = .ok (.getfield idx, 3)) (kk : WP γ l y d nE nX (pc + 3) L (.ref b :: S) n M R K) : WP γ l y d nE nX pc L (.ref a :: S) n M R K := wp_getR hF ht hr (by rw [e]; exact h0) ha hd (by rw [e]; exact kk)
theorem wp_aalq {a i b : Nat} {x : Int32} (hx : x = nI i) (ht : 13 ≤ tg a ∧ tg a < 16) (hi : i < ln a) (e : R a i = b) (h0 : b ≠ 0) (ha : a < n) (hd : decode y.2.1 pc = .ok (.aaload, 1)) (kk : WP γ l y d nE nX (pc + 1) L (.ref b :: S) n M R K) : WP γ l y d nE nX pc L (.int x :: .ref a :: S) n M R K := wp_aald hx ht hi (by rw [e]; exact h0) ha hd (by rw [e]; exact kk)
end ARITY
end
section
/-! SMALL THINGS: index forms, tops of the stack, addresses, rows of the memory -/
theorem ix_lit {n : Nat} : (OfNat.ofNat n : Int32) = nI n := rfl
theorem ix_var {n : Nat} : nI n = nI n := rfl
theorem ix_add {x z : Int32} {a b : Nat} (h1 : x = nI a) (h2 : z = nI b) : x + z = nI (a + b) := by rw [h1, h2, nI_add]
theorem ix_mul {x z : Int32} {a b : Nat} (h1 : x = nI a) (h2 : z = nI b) : x * z = nI (a * b) := by rw [h1, h2, pk_mul]
theorem ix_sub {x z : Int32} {a b : Nat} (h1 : x = nI a) (h2 : z = nI b) (h : b ≤ a) : x - z = nI (a - b) := by rw [h1, h2, pk_sub h]
/-- a truth as the machine has it -/
def b01 (p : Prop) [Decidable p] : Int32 := if p then 1 else 0
theorem b01_t {p : Prop} [Decidable p] (h : p) : b01 p = 1 := by rw [b01, if_pos h]
theorem b01_f {p : Prop} [Decidable p] (h : ¬ p) : b01 p = 0 := by rw [b01, if_neg h]
theorem b01_0 {p : Prop} [Decidable p] : b01 p = 0 ↔ ¬ p := by
  by_cases h : p
  · rw [b01_t h]
    exact ⟨fun q => absurd q (by decide), fun q => absurd h q⟩
  · rw [b01_f h]
    exact ⟨fun _ => h, fun _ => rfl⟩
theorem b01_1 {p : Prop} [Decidable p] : ¬ b01 p = 0 ↔ p := by rw [b01_0, Decidable.not_not]
theorem b01_n {p : Prop} [Decidable p] : narrow .boolean (.int (b01 p)) = .int (b01 p) := by
  by_cases h : p
  · rw [b01_t h]; rfl
  · rw [b01_f h]; rfl
theorem b01_c {p q : Prop} [Decidable p] [Decidable q] (h : p ↔ q) : b01 p = b01 q := by
  by_cases h1 : p
  · rw [b01_t h1, b01_t (h.mp h1)]
  · rw [b01_f h1, b01_f (fun z => h1 (h.mpr z))]
theorem u2_up {α : Type} (f : Nat → Nat → α) (a i : Nat) (r : Nat → α) (v : α) : u2 (up f a r) a i v = up f a (up r i v) := by
  funext b j
  by_cases h : b = a
  · subst h
    simp [u2, up]
  · simp [u2, up, h]
theorem up_eta {α : Type} (f : Nat → α) (a : Nat) : up f a (f a) = f := by
  funext b
  by_cases h : b = a
  · subst h
    simp [up]
  · simp [up, h]
theorem up_up {α : Type} (f : Nat → α) (a : Nat) (x z : α) : up (up f a x) a z = up f a z := by
  funext b
  by_cases h : b = a
  · simp [up, h]
  · simp [up, h]
theorem up_comm {α : Type} (f : Nat → α) {a b : Nat} (h : a ≠ b) (x z : α) : up (up f a x) b z = up (up f b z) a x := by
  funext c
  by_cases h1 : c = a
  · subst h1
    simp [up, h]
  · by_cases h2 : c = b
    · subst h2
      simp [up, h1]
    · simp [up, h1, h2]
theorem u2_eq {α : Type} (f : Nat → Nat → α) (a i : Nat) (v : α) : u2 f a i v = up f a (up (f a) i v) := rfl
/-- fewer locals -/
def leL : List (Option Value) → List (Option Value) → Prop
  | [], _ => True
  | none :: A, _ :: B => leL A B
  | some v :: A, w :: B => w = some v ∧ leL A B
  | _ :: _, [] => False
theorem leL_at : ∀ {A B : List (Option Value)} {i : Nat} {v : Value}, leL A B → A[i]? = some (some v) → B[i]? = some (some v)
  | [], _, i, v, _, h => by simp at h
  | none :: A, _ :: B, 0, v, _, h => by simp at h
  | none :: A, _ :: B, i + 1, v, hl, h => by
    rw [List.getElem?_cons_succ] at h ⊢
    exact leL_at (A := A) (B := B) hl h
  | some x :: A, w :: B, 0, v, hl, h => by
    rw [List.getElem?_cons_zero] at h ⊢
    rw [hl.1]
    exact h
  | some x :: A, w :: B, i + 1, v, hl, h => by
    rw [List.getElem?_cons_succ] at h ⊢
    exact leL_at hl.2 h
  | none :: _, [], _, _, hl, _ => hl.elim
  | some _ :: _, [], _, _, hl, _ => hl.elim
theorem wp_drop {γ : Gm} {l : Launch} {y : Mt} {d nE nX pc n : Nat} {L : List (Option Value)} {S : List Value} {M : Mm} {R : Rm} {K : Option Value → Nat → Mm → Rm → Prop} (L' : List (Option Value)) (h : leL L' L) (k : WP γ l y d nE nX pc L' S n M R K) : WP γ l y d nE nX pc L S n M R K := by
  intro p e R0 s m args below meth c Q H locs ls C0 hret hW h1 h2 hl
  refine k p e R0 s m args below meth c Q H locs ls C0 hret hW h1 h2 ⟨hl.1, hl.2.1, fun q hq => hl.2.2 q ?_⟩
  obtain ⟨j, v, g1, rfl⟩ := asc_inv hq
  exact asc_mem (leL_at h g1)
theorem inc_1 (k : Nat) : nI k + Int32.ofInt 1 = nI (k + 1) := by
  rw [show Int32.ofInt 1 = 1 by decide, nI_1]
theorem dec_1 {k : Nat} (h : 1 ≤ k) : nI k + Int32.ofInt (-1) = nI (k - 1) := by
  obtain ⟨j, rfl⟩ : ∃ j, k = j + 1 := ⟨k - 1, by omega⟩
  rw [show Int32.ofInt (-1) = -1 by decide, pk_m1, Nat.add_sub_cancel]
abbrev KT : Type := Option Value → Nat → Mm → Rm → Prop
/-- the references of the reference's object -/
def RM (R : Rm) : Prop := R 235 0 = 236 ∧ R 235 1 = 237 ∧ R 235 2 = 238 ∧ R 235 4 = 239 ∧ R 235 5 = 240 ∧ R 235 6 = 241 ∧ R 235 11 = 242
theorem RM.f0 {R : Rm} (h : RM R) : R 235 0 = 236 := h.1
theorem RM.f1 {R : Rm} (h : RM R) : R 235 1 = 237 := h.2.1
theorem RM.f2 {R : Rm} (h : RM R) : R 235 2 = 238 := h.2.2.1
theorem RM.f4 {R : Rm} (h : RM R) : R 235 4 = 239 := h.2.2.2.1
theorem RM.f5 {R : Rm} (h : RM R) : R 235 5 = 240 := h.2.2.2.2.1
theorem RM.f6 {R : Rm} (h : RM R) : R 235 6 = 241 := h.2.2.2.2.2.1
theorem RM.f11 {R : Rm} (h : RM R) : R 235 11 = 242 := h.2.2.2.2.2.2
/-- the references of the class's object -/
def RC (R : Rm) : Prop := R 8 0 = 9 ∧ R 8 1 = 29 ∧ R 8 2 = 31 ∧ R 8 3 = 153 ∧ R 8 4 = 154 ∧ R 8 5 = 155 ∧ R 8 6 = 175 ∧ R 29 0 = 30 ∧ R 31 0 = 32 ∧ R 153 0 = 195 ∧ R 153 1 = 215
theorem RC.f0 {R : Rm} (h : RC R) : R 8 0 = 9 := h.1
theorem RC.f1 {R : Rm} (h : RC R) : R 8 1 = 29 := h.2.1
theorem RC.f2 {R : Rm} (h : RC R) : R 8 2 = 31 := h.2.2.1
theorem RC.f3 {R : Rm} (h : RC R) : R 8 3 = 153 := h.2.2.2.1
theorem RC.f4 {R : Rm} (h : RC R) : R 8 4 = 154 := h.2.2.2.2.1
theorem RC.f5 {R : Rm} (h : RC R) : R 8 5 = 155 := h.2.2.2.2.2.1
theorem RC.f6 {R : Rm} (h : RC R) : R 8 6 = 175 := h.2.2.2.2.2.2.1
theorem RC.p {R : Rm} (h : RC R) : R 29 0 = 30 := h.2.2.2.2.2.2.2.1
theorem RC.h {R : Rm} (h : RC R) : R 31 0 = 32 := h.2.2.2.2.2.2.2.2.1
theorem RC.s0 {R : Rm} (h : RC R) : R 153 0 = 195 := h.2.2.2.2.2.2.2.2.2.1
theorem RC.s1 {R : Rm} (h : RC R) : R 153 1 = 215 := h.2.2.2.2.2.2.2.2.2.2
/-- the references of a tank; its paddles may have changed their places -/
def RT (R : Rm) (b : Nat) : Prop := (R b 0 = b + 1 ∧ R b 1 = b + 2 ∧ R b 2 = b + 3 ∧ R b 3 = b + 4 ∧ R b 4 = b + 5) ∧ (∀ g, g < 4 → R (b + 5) g = b + 12 + 2 * g ∧ R (b + 12 + 2 * g) 0 = b + 13 + 2 * g) ∧ (∀ k, k < 6 → b + 6 ≤ R (b + 4) k ∧ R (b + 4) k < b + 12) ∧ ∀ i j, i < 6 → j < 6 → R (b + 4) i = R (b + 4) j → i = j
theorem RT.f0 {R : Rm} {b : Nat} (h : RT R b) : R b 0 = b + 1 := h.1.1
theorem RT.f1 {R : Rm} {b : Nat} (h : RT R b) : R b 1 = b + 2 := h.1.2.1
theorem RT.f2 {R : Rm} {b : Nat} (h : RT R b) : R b 2 = b + 3 := h.1.2.2.1
theorem RT.f3 {R : Rm} {b : Nat} (h : RT R b) : R b 3 = b + 4 := h.1.2.2.2.1
theorem RT.f4 {R : Rm} {b : Nat} (h : RT R b) : R b 4 = b + 5 := h.1.2.2.2.2
section TOPS
variable {γ : Gm} {l : Launch} {y : Mt} {d nE nX pc n : Nat} {L : List (Option Value)} {S : List Value} {M : Mm} {R : Rm} {K : Option Value → Nat → Mm → Rm → Prop}
theorem wp_top {x z : Int32} (e : x = z) (k : WP γ l y d nE nX pc L (.int z :: S) n M R K) : WP γ l y d nE nX pc L (.int x :: S) n M R K := by rw [e]; exact k
theorem wp_topv {x : Int32} (k : ∀ v : Int32, v = x → WP γ l y d nE nX pc L (.int v :: S) n M R K) : WP γ l y d nE nX pc L (.int x :: S) n M R K := k x rfl
theorem wp_topl {x : Int64} (k : ∀ v : Int64, v = x → WP γ l y d nE nX pc L (.long v :: S) n M R K) : WP γ l y d nE nX pc L (.long x :: S) n M R K := k x rfl
theorem wp_mem {M' : Mm} (e : M = M') (k : WP γ l y d nE nX pc L S n M' R K) : WP γ l y d nE nX pc L S n M R K := by rw [e]; exact k
theorem wp_loc {L' : List (Option Value)} (e : L = L') (k : WP γ l y d nE nX pc L' S n M R K) : WP γ l y d nE nX pc L S n M R K := by rw [e]; exact k
theorem wp_iadn {a i : Nat} {x v : Int32} (hx : x = nI i) (ht : tg a = 10) (h8 : 8 ≤ a) (hi : i < ln a) (ha : a < n) (hd : decode y.2.1 pc = .ok (.iaload, 1)) (hv : M a i = v) (kk : WP γ l y d nE nX (pc + 1) L (.int v :: S) n M R K) : WP γ l y d nE nX pc L (.int x :: .ref a :: S) n M R K := wp_iald hx ht h8 hi ha hd (by rw [hv]; exact kk)
theorem wp_getJ {a ci k idx : Nat} {v : Int32} (hF : Fl y.1.cls idx ci k) (ht : tg a = ci) (hr : isR ci k = false) (ha : a < n) (hd : decode y.2.1 pc = .ok (.getfield idx, 3)) (hv : M a k = v) (kk : WP γ l y d nE nX (pc + 3) L (.int v :: S) n M R K) : WP γ l y d nE nX pc L (.ref a :: S) n M R K := wp_getI hF ht hr ha hd (by rw [hv]; exact kk)
theorem wp_icN_ge {x z : Int32} {a b : Nat} {off : Int} {tgt : Nat} (hd : decode y.2.1 pc = .ok (.if_icmp .ge off, 3)) (ht : (pc : Int) + off = (tgt : Int)) (hx : x = nI a) (hz : z = nI b) (ha : a < 2 ^ 31) (hb : b < 2 ^ 31) (kt : b ≤ a → WP γ l y d nE nX tgt L S n M R K) (kf : a < b → WP γ l y d nE nX (pc + 3) L S n M R K) : WP γ l y d nE nX pc L (.int z :: .int x :: S) n M R K := by
  subst hx; subst hz
  exact wp_icmp_ge hd ht (fun h => kt ((nI_leI hb ha).mp h)) (fun h => kf (Nat.lt_of_not_le fun q => h ((nI_leI hb ha).mpr q)))
theorem wp_icN_gt {x z : Int32} {a b : Nat} {off : Int} {tgt : Nat} (hd : decode y.2.1 pc = .ok (.if_icmp .gt off, 3)) (ht : (pc : Int) + off = (tgt : Int)) (hx : x = nI a) (hz : z = nI b) (ha : a < 2 ^ 31) (hb : b < 2 ^ 31) (kt : b < a → WP γ l y d nE nX tgt L S n M R K) (kf : a ≤ b → WP γ l y d nE nX (pc + 3) L S n M R K) : WP γ l y d nE nX pc L (.int z :: .int x :: S) n M R K := by
  subst hx; subst hz
  exact wp_icmp_gt hd ht (fun h => kt ((nI_ltI hb ha).mp h)) (fun h => kf (Nat.le_of_not_lt fun q => h ((nI_ltI hb ha).mpr q)))
theorem wp_icN_lt {x z : Int32} {a b : Nat} {off : Int} {tgt : Nat} (hd : decode y.2.1 pc = .ok (.if_icmp .lt off, 3)) (ht : (pc : Int) + off = (tgt : Int)) (hx : x = nI a) (hz : z = nI b) (ha : a < 2 ^ 31) (hb : b < 2 ^ 31) (kt : a < b → WP γ l y d nE nX tgt L S n M R K) (kf : b ≤ a → WP γ l y d nE nX (pc + 3) L S n M R K) : WP γ l y d nE nX pc L (.int z :: .int x :: S) n M R K := by
  subst hx; subst hz
  exact wp_icmp_lt hd ht (fun h => kt ((nI_ltI ha hb).mp h)) (fun h => kf (Nat.le_of_not_lt fun q => h ((nI_ltI ha hb).mpr q)))
theorem wp_icN_le {x z : Int32} {a b : Nat} {off : Int} {tgt : Nat} (hd : decode y.2.1 pc = .ok (.if_icmp .le off, 3)) (ht : (pc : Int) + off = (tgt : Int)) (hx : x = nI a) (hz : z = nI b) (ha : a < 2 ^ 31) (hb : b < 2 ^ 31) (kt : a ≤ b → WP γ l y d nE nX tgt L S n M R K) (kf : b < a → WP γ l y d nE nX (pc + 3) L S n M R K) : WP γ l y d nE nX pc L (.int z :: .int x :: S) n M R K := by
  subst hx; subst hz
  exact wp_icmp_le hd ht (fun h => kt ((nI_leI ha hb).mp h)) (fun h => kf (Nat.lt_of_not_le fun q => h ((nI_leI ha hb).mpr q)))
theorem wp_icN_eq {x z : Int32} {a b : Nat} {off : Int} {tgt : Nat} (hd : decode y.2.1 pc = .ok (.if_icmp .eq off, 3)) (ht : (pc : Int) + off = (tgt : Int)) (hx : x = nI a) (hz : z = nI b) (ha : a < 2 ^ 31) (hb : b < 2 ^ 31) (kt : a = b → WP γ l y d nE nX tgt L S n M R K) (kf : a ≠ b → WP γ l y d nE nX (pc + 3) L S n M R K) : WP γ l y d nE nX pc L (.int z :: .int x :: S) n M R K := by
  subst hx; subst hz
  exact wp_icmp_eq hd ht (fun h => kt ((nI_eq ha hb).mp h)) (fun h => kf (fun q => h ((nI_eq ha hb).mpr q)))
theorem wp_icN_ne {x z : Int32} {a b : Nat} {off : Int} {tgt : Nat} (hd : decode y.2.1 pc = .ok (.if_icmp .ne off, 3)) (ht : (pc : Int) + off = (tgt : Int)) (hx : x = nI a) (hz : z = nI b) (ha : a < 2 ^ 31) (hb : b < 2 ^ 31) (kt : a ≠ b → WP γ l y d nE nX tgt L S n M R K) (kf : a = b → WP γ l y d nE nX (pc + 3) L S n M R K) : WP γ l y d nE nX pc L (.int z :: .int x :: S) n M R K := by
  subst hx; subst hz
  exact wp_icmp_ne hd ht (fun h => kt (fun q => h ((nI_eq ha hb).mpr q))) (fun h => kf ((nI_eq ha hb).mp h))
theorem wp_ifN_le {x : Int32} {a : Nat} {off : Int} {tgt : Nat} (hd : decode y.2.1 pc = .ok (.ifCond .le off, 3)) (ht : (pc : Int) + off = (tgt : Int)) (hx : x = nI a) (ha : a < 2 ^ 31) (kt : a = 0 → WP γ l y d nE nX tgt L S n M R K) (kf : 0 < a → WP γ l y d nE nX (pc + 3) L S n M R K) : WP γ l y d nE nX pc L (.int x :: S) n M R K := by
  subst hx
  exact wp_if_le hd ht (fun h => kt (Nat.le_zero.mp ((nI_leI (b := 0) ha (by decide)).mp h))) (fun h => kf (Nat.pos_of_ne_zero fun q => h (by subst q; decide)))
theorem wp_ifN_gt {x : Int32} {a : Nat} {off : Int} {tgt : Nat} (hd : decode y.2.1 pc = .ok (.ifCond .gt off, 3)) (ht : (pc : Int) + off = (tgt : Int)) (hx : x = nI a) (ha : a < 2 ^ 31) (kt : 0 < a → WP γ l y d nE nX tgt L S n M R K) (kf : a = 0 → WP γ l y d nE nX (pc + 3) L S n M R K) : WP γ l y d nE nX pc L (.int x :: S) n M R K := by
  subst hx
  exact wp_if_gt hd ht (fun h => kt (Nat.pos_of_ne_zero fun q => by subst q; exact absurd h (by decide))) (fun h => kf (Nat.le_zero.mp (Nat.le_of_not_lt fun q => h ((nI_ltI (a := 0) (by decide) ha).mpr q))))
theorem wp_ifN_eq {x : Int32} {a : Nat} {off : Int} {tgt : Nat} (hd : decode y.2.1 pc = .ok (.ifCond .eq off, 3)) (ht : (pc : Int) + off = (tgt : Int)) (hx : x = nI a) (ha : a < 2 ^ 31) (kt : a = 0 → WP γ l y d nE nX tgt L S n M R K) (kf : 0 < a → WP γ l y d nE nX (pc + 3) L S n M R K) : WP γ l y d nE nX pc L (.int x :: S) n M R K := by
  subst hx
  exact wp_if_eq hd ht (fun h => kt ((nI_eq (b := 0) ha (by decide)).mp h)) (fun h => kf (Nat.pos_of_ne_zero fun q => h (by subst q; rfl)))
theorem wp_ifN_ne {x : Int32} {a : Nat} {off : Int} {tgt : Nat} (hd : decode y.2.1 pc = .ok (.ifCond .ne off, 3)) (ht : (pc : Int) + off = (tgt : Int)) (hx : x = nI a) (ha : a < 2 ^ 31) (kt : 0 < a → WP γ l y d nE nX tgt L S n M R K) (kf : a = 0 → WP γ l y d nE nX (pc + 3) L S n M R K) : WP γ l y d nE nX pc L (.int x :: S) n M R K := by
  subst hx
  exact wp_if_ne hd ht (fun h => kt (Nat.pos_of_ne_zero fun q => h (by subst q; rfl))) (fun h => kf ((nI_eq (b := 0) ha (by decide)).mp h))
theorem wp_ifN_lt {x : Int32} {a : Nat} {off : Int} {tgt : Nat} (hd : decode y.2.1 pc = .ok (.ifCond .lt off, 3)) (ht : (pc : Int) + off = (tgt : Int)) (hx : x = nI a) (ha : a < 2 ^ 31) (k : WP γ l y d nE nX (pc + 3) L S n M R K) : WP γ l y d nE nX pc L (.int x :: S) n M R K := by
  subst hx
  exact wp_if_lt hd ht (fun h => absurd h (nI_pos ha)) (fun _ => k)
theorem wp_ifN_ge {x : Int32} {a : Nat} {off : Int} {tgt : Nat} (hd : decode y.2.1 pc = .ok (.ifCond .ge off, 3)) (ht : (pc : Int) + off = (tgt : Int)) (hx : x = nI a) (ha : a < 2 ^ 31) (k : WP γ l y d nE nX tgt L S n M R K) : WP γ l y d nE nX pc L (.int x :: S) n M R K := by
  subst hx
  exact wp_if_ge hd ht (fun _ => k) (fun h => absurd (nI_pos' ha) h)
/-- a truth on the stack, asked -/
theorem wp_bq_eq {p : Prop} [Decidable p] {off : Int} {tgt : Nat} (hd : decode y.2.1 pc = .ok (.ifCond .eq off, 3)) (ht : (pc : Int) + off = (tgt : Int)) (kt : ¬ p → WP γ l y d nE nX tgt L S n M R K) (kf : p → WP γ l y d nE nX (pc + 3) L S n M R K) : WP γ l y d nE nX pc L (.int (b01 p) :: S) n M R K := wp_if_eq hd ht (fun h => kt (b01_0.mp h)) (fun h => kf (b01_1.mp h))
theorem wp_bq_ne {p : Prop} [Decidable p] {off : Int} {tgt : Nat} (hd : decode y.2.1 pc = .ok (.ifCond .ne off, 3)) (ht : (pc : Int) + off = (tgt : Int)) (kt : p → WP γ l y d nE nX tgt L S n M R K) (kf : ¬ p → WP γ l y d nE nX (pc + 3) L S n M R K) : WP γ l y d nE nX pc L (.int (b01 p) :: S) n M R K := wp_if_ne hd ht (fun h => kt (b01_1.mp h)) (fun h => kf (b01_0.mp h))
end TOPS

theorem tA_8 : tg 8 = 5 := by decide +kernel
theorem lA_8 : ln 8 = 7 := by decide +kernel
theorem tA_29 : tg 29 = 2 := by decide +kernel
theorem lA_29 : ln 29 = 9 := by decide +kernel
theorem tA_30 : tg 30 = 11 := by decide +kernel
theorem lA_30 : ln 30 = 80 := by decide +kernel
theorem tA_31 : tg 31 = 1 := by decide +kernel
theorem lA_31 : ln 31 = 2 := by decide +kernel
theorem tA_32 : tg 32 = 13 := by decide +kernel
theorem lA_32 : ln 32 = 6 := by decide +kernel
theorem tA_153 : tg 153 = 13 := by decide +kernel
theorem lA_153 : ln 153 = 2 := by decide +kernel
theorem tA_154 : tg 154 = 12 := by decide +kernel
theorem lA_154 : ln 154 = 2 := by decide +kernel
theorem tA_235 : tg 235 = 6 := by decide +kernel
theorem lA_235 : ln 235 = 13 := by decide +kernel
theorem tA_236 : tg 236 = 10 := by decide +kernel
theorem lA_236 : ln 236 = 370 := by decide +kernel
theorem tA_237 : tg 237 = 10 := by decide +kernel
theorem lA_237 : ln 237 = 370 := by decide +kernel
theorem tA_238 : tg 238 = 10 := by decide +kernel
theorem lA_238 : ln 238 = 2220 := by decide +kernel
theorem tA_239 : tg 239 = 10 := by decide +kernel
theorem lA_239 : ln 239 = 740 := by decide +kernel
theorem tA_240 : tg 240 = 10 := by decide +kernel
theorem lA_240 : ln 240 = 2 := by decide +kernel
theorem tA_241 : tg 241 = 10 := by decide +kernel
theorem lA_241 : ln 241 = 80 := by decide +kernel
theorem tA_242 : tg 242 = 10 := by decide +kernel
theorem lA_242 : ln 242 = 5 := by decide +kernel
/-- where the tanks are -/
def Tb (b : Nat) : Prop := b = 9 ∨ b = 33 ∨ b = 53 ∨ b = 73 ∨ b = 93 ∨ b = 113 ∨ b = 133 ∨ b = 155 ∨ b = 175 ∨ b = 195 ∨ b = 215
theorem Tb.t0 {b : Nat} (h : Tb b) : tg (b + 0) = 4 ∧ ln (b + 0) = 8 := by
  rcases h with rfl | rfl | rfl | rfl | rfl | rfl | rfl | rfl | rfl | rfl | rfl <;> decide +kernel
theorem Tb.t1 {b : Nat} (h : Tb b) : tg (b + 1) = 10 ∧ ln (b + 1) = 3 := by
  rcases h with rfl | rfl | rfl | rfl | rfl | rfl | rfl | rfl | rfl | rfl | rfl <;> decide +kernel
theorem Tb.t2 {b : Nat} (h : Tb b) : tg (b + 2) = 10 ∧ ln (b + 2) = 40 := by
  rcases h with rfl | rfl | rfl | rfl | rfl | rfl | rfl | rfl | rfl | rfl | rfl <;> decide +kernel
theorem Tb.t3 {b : Nat} (h : Tb b) : tg (b + 3) = 10 ∧ ln (b + 3) = 40 := by
  rcases h with rfl | rfl | rfl | rfl | rfl | rfl | rfl | rfl | rfl | rfl | rfl <;> decide +kernel
theorem Tb.t4 {b : Nat} (h : Tb b) : tg (b + 4) = 14 ∧ ln (b + 4) = 6 := by
  rcases h with rfl | rfl | rfl | rfl | rfl | rfl | rfl | rfl | rfl | rfl | rfl <;> decide +kernel
theorem Tb.t5 {b : Nat} (h : Tb b) : tg (b + 5) = 15 ∧ ln (b + 5) = 4 := by
  rcases h with rfl | rfl | rfl | rfl | rfl | rfl | rfl | rfl | rfl | rfl | rfl <;> decide +kernel
theorem Tb.t6 {b : Nat} (h : Tb b) : tg (b + 6) = 3 ∧ ln (b + 6) = 6 := by
  rcases h with rfl | rfl | rfl | rfl | rfl | rfl | rfl | rfl | rfl | rfl | rfl <;> decide +kernel
theorem Tb.t7 {b : Nat} (h : Tb b) : tg (b + 7) = 3 ∧ ln (b + 7) = 6 := by
  rcases h with rfl | rfl | rfl | rfl | rfl | rfl | rfl | rfl | rfl | rfl | rfl <;> decide +kernel
theorem Tb.t8 {b : Nat} (h : Tb b) : tg (b + 8) = 3 ∧ ln (b + 8) = 6 := by
  rcases h with rfl | rfl | rfl | rfl | rfl | rfl | rfl | rfl | rfl | rfl | rfl <;> decide +kernel
theorem Tb.t9 {b : Nat} (h : Tb b) : tg (b + 9) = 3 ∧ ln (b + 9) = 6 := by
  rcases h with rfl | rfl | rfl | rfl | rfl | rfl | rfl | rfl | rfl | rfl | rfl <;> decide +kernel
theorem Tb.t10 {b : Nat} (h : Tb b) : tg (b + 10) = 3 ∧ ln (b + 10) = 6 := by
  rcases h with rfl | rfl | rfl | rfl | rfl | rfl | rfl | rfl | rfl | rfl | rfl <;> decide +kernel
theorem Tb.t11 {b : Nat} (h : Tb b) : tg (b + 11) = 3 ∧ ln (b + 11) = 6 := by
  rcases h with rfl | rfl | rfl | rfl | rfl | rfl | rfl | rfl | rfl | rfl | rfl <;> decide +kernel
theorem Tb.t12 {b : Nat} (h : Tb b) : tg (b + 12) = 0 ∧ ln (b + 12) = 4 := by
  rcases h with rfl | rfl | rfl | rfl | rfl | rfl | rfl | rfl | rfl | rfl | rfl <;> decide +kernel
theorem Tb.t13 {b : Nat} (h : Tb b) : tg (b + 13) = 10 ∧ ln (b + 13) = 60 := by
  rcases h with rfl | rfl | rfl | rfl | rfl | rfl | rfl | rfl | rfl | rfl | rfl <;> decide +kernel
theorem Tb.t14 {b : Nat} (h : Tb b) : tg (b + 14) = 0 ∧ ln (b + 14) = 4 := by
  rcases h with rfl | rfl | rfl | rfl | rfl | rfl | rfl | rfl | rfl | rfl | rfl <;> decide +kernel
theorem Tb.t15 {b : Nat} (h : Tb b) : tg (b + 15) = 10 ∧ ln (b + 15) = 60 := by
  rcases h with rfl | rfl | rfl | rfl | rfl | rfl | rfl | rfl | rfl | rfl | rfl <;> decide +kernel
theorem Tb.t16 {b : Nat} (h : Tb b) : tg (b + 16) = 0 ∧ ln (b + 16) = 4 := by
  rcases h with rfl | rfl | rfl | rfl | rfl | rfl | rfl | rfl | rfl | rfl | rfl <;> decide +kernel
theorem Tb.t17 {b : Nat} (h : Tb b) : tg (b + 17) = 10 ∧ ln (b + 17) = 60 := by
  rcases h with rfl | rfl | rfl | rfl | rfl | rfl | rfl | rfl | rfl | rfl | rfl <;> decide +kernel
theorem Tb.t18 {b : Nat} (h : Tb b) : tg (b + 18) = 0 ∧ ln (b + 18) = 4 := by
  rcases h with rfl | rfl | rfl | rfl | rfl | rfl | rfl | rfl | rfl | rfl | rfl <;> decide +kernel
theorem Tb.t19 {b : Nat} (h : Tb b) : tg (b + 19) = 10 ∧ ln (b + 19) = 60 := by
  rcases h with rfl | rfl | rfl | rfl | rfl | rfl | rfl | rfl | rfl | rfl | rfl <;> decide +kernel
theorem Tb.lt {b : Nat} (h : Tb b) : 9 ≤ b ∧ b + 20 ≤ 235 := by
  unfold Tb at h
  omega
theorem Tb.tp {b k : Nat} (h : Tb b) (h1 : b + 6 ≤ k) (h2 : k < b + 12) : tg k = 3 ∧ ln k = 6 := by
  obtain rfl | rfl | rfl | rfl | rfl | rfl : k = b + 6 ∨ k = b + 7 ∨ k = b + 8 ∨ k = b + 9 ∨ k = b + 10 ∨ k = b + 11 := by omega
  · exact h.t6
  · exact h.t7
  · exact h.t8
  · exact h.t9
  · exact h.t10
  · exact h.t11
theorem Tb.tg0 {b g : Nat} (h : Tb b) (hg : g < 4) : tg (b + 12 + 2 * g) = 0 ∧ ln (b + 12 + 2 * g) = 4 := by
  obtain rfl | rfl | rfl | rfl : g = 0 ∨ g = 1 ∨ g = 2 ∨ g = 3 := by omega
  · exact h.t12
  · exact h.t14
  · exact h.t16
  · exact h.t18
theorem Tb.tg1 {b g : Nat} (h : Tb b) (hg : g < 4) : tg (b + 13 + 2 * g) = 10 ∧ ln (b + 13 + 2 * g) = 60 := by
  obtain rfl | rfl | rfl | rfl : g = 0 ∨ g = 1 ∨ g = 2 ∨ g = 3 := by omega
  · exact h.t13
  · exact h.t15
  · exact h.t17
  · exact h.t19
end
section
/-! THE REFERENCE: its small methods. sg, the row of its numbers: settings 0..2, steps 3, paddles 4, gauges 5, levels 6.., speeds 46.., paddles 86 + 6 k, gauges 122 + 62 g -/
set_option maxRecDepth 100000 in
set_option maxHeartbeats 4000000 in
theorem s_X6_within {γ : Gm} {l : Launch} {M : Mm} {R : Rm} {K : KT} {v low high : Int32} (hK : K (some (.int (b01 (low ≤ v ∧ v ≤ high)))) 243 M R) : CL γ l mX6_within 0 243 243 [.int v, .int low, .int high] M R K := by
  show WP γ l mX6_within 0 243 243 0 [some (.int v), some (.int low), some (.int high)] [] 243 M R K
  refine wp_iload_n dX6_within_0 rfl ?_
  refine wp_iload_n dX6_within_1 rfl ?_
  refine wp_icmp_lt (tgt := 14) dX6_within_2 (by decide) (fun h2 => ?_) (fun h2 => ?_)
  · refine wp_iconst (v := 0) dX6_within_14 (by decide) ?_
    exact wp_iret dX6_within_15 rfl rfl rfl (by unfold b01 at hK; split at hK <;> first | exact hK | (exfalso; simp only [Int32.lt_iff_toInt_lt, Int32.le_iff_toInt_le, ← Int32.toInt_inj] at *; omega))
  · refine wp_iload_n dX6_within_5 rfl ?_
    refine wp_iload_n dX6_within_6 rfl ?_
    refine wp_icmp_gt (tgt := 14) dX6_within_7 (by decide) (fun h7 => ?_) (fun h7 => ?_)
    · refine wp_iconst (v := 0) dX6_within_14 (by decide) ?_
      exact wp_iret dX6_within_15 rfl rfl rfl (by unfold b01 at hK; split at hK <;> first | exact hK | (exfalso; simp only [Int32.lt_iff_toInt_lt, Int32.le_iff_toInt_le, ← Int32.toInt_inj] at *; omega))
    · refine wp_iconst (v := 1) dX6_within_10 (by decide) ?_
      refine wp_goto (tgt := 15) dX6_within_11 (by decide) ?_
      exact wp_iret dX6_within_15 rfl rfl rfl (by unfold b01 at hK; split at hK <;> first | exact hK | (exfalso; simp only [Int32.lt_iff_toInt_lt, Int32.le_iff_toInt_le, ← Int32.toInt_inj] at *; omega))

def szI (v : Int32) : Int32 := if v < 0 then -v else v
def bnd (v : Int32) : Int32 := if v < -9999 then -9999 else if 9999 < v then 9999 else v
set_option maxRecDepth 100000 in
set_option maxHeartbeats 4000000 in
theorem s_X6_size {γ : Gm} {l : Launch} {M : Mm} {R : Rm} {K : KT} {v : Int32} (hK : K (some (.int (szI v))) 243 M R) : CL γ l mX6_size 0 243 243 [.int v] M R K := by
  show WP γ l mX6_size 0 243 243 0 [some (.int v)] [] 243 M R K
  refine wp_iload_n dX6_size_0 rfl ?_
  refine wp_if_ge (tgt := 9) dX6_size_1 (by decide) (fun h1 => ?_) (fun h1 => ?_)
  · refine wp_iload_n dX6_size_9 rfl ?_
    exact wp_iret dX6_size_10 rfl rfl rfl (by unfold szI at hK; (repeat' split at hK) <;> first | exact hK | (exfalso; simp only [Int32.lt_iff_toInt_lt, Int32.le_iff_toInt_le, ← Int32.toInt_inj] at *; omega))
  · refine wp_iload_n dX6_size_4 rfl ?_
    refine wp_ineg dX6_size_5 ?_
    refine wp_goto (tgt := 10) dX6_size_6 (by decide) ?_
    exact wp_iret dX6_size_10 rfl rfl rfl (by unfold szI at hK; (repeat' split at hK) <;> first | exact hK | (exfalso; simp only [Int32.lt_iff_toInt_lt, Int32.le_iff_toInt_le, ← Int32.toInt_inj] at *; omega))

set_option maxRecDepth 100000 in
set_option maxHeartbeats 4000000 in
theorem s_X6_bounded {γ : Gm} {l : Launch} {M : Mm} {R : Rm} {K : KT} {v : Int32} (hK : K (some (.int (bnd v))) 243 M R) : CL γ l mX6_bounded 0 243 243 [.int v] M R K := by
  show WP γ l mX6_bounded 0 243 243 0 [some (.int v)] [] 243 M R K
  refine wp_iload_n dX6_bounded_0 rfl ?_
  refine wp_sipush (v := (-9999)) dX6_bounded_1 (by decide) ?_
  refine wp_icmp_ge (tgt := 13) dX6_bounded_4 (by decide) (fun h4 => ?_) (fun h4 => ?_)
  · refine wp_iload_n dX6_bounded_13 rfl ?_
    refine wp_sipush (v := 9999) dX6_bounded_14 (by decide) ?_
    refine wp_icmp_le (tgt := 26) dX6_bounded_17 (by decide) (fun h17 => ?_) (fun h17 => ?_)
    · refine wp_iload_n dX6_bounded_26 rfl ?_
      exact wp_iret dX6_bounded_27 rfl rfl rfl (by unfold bnd at hK; (repeat' split at hK) <;> first | exact hK | (exfalso; simp only [Int32.lt_iff_toInt_lt, Int32.le_iff_toInt_le, ← Int32.toInt_inj] at *; omega))
    · refine wp_sipush (v := 9999) dX6_bounded_20 (by decide) ?_
      refine wp_goto (tgt := 27) dX6_bounded_23 (by decide) ?_
      exact wp_iret dX6_bounded_27 rfl rfl rfl (by unfold bnd at hK; (repeat' split at hK) <;> first | exact hK | (exfalso; simp only [Int32.lt_iff_toInt_lt, Int32.le_iff_toInt_le, ← Int32.toInt_inj] at *; omega))
  · refine wp_sipush (v := (-9999)) dX6_bounded_7 (by decide) ?_
    refine wp_goto (tgt := 27) dX6_bounded_10 (by decide) ?_
    exact wp_iret dX6_bounded_27 rfl rfl rfl (by unfold bnd at hK; (repeat' split at hK) <;> first | exact hK | (exfalso; simp only [Int32.lt_iff_toInt_lt, Int32.le_iff_toInt_le, ← Int32.toInt_inj] at *; omega))

set_option maxRecDepth 100000 in
set_option maxHeartbeats 4000000 in
theorem s_X6_isCell {γ : Gm} {l : Launch} {M : Mm} {R : Rm} {K : KT} {v : Int32} (hK : K (some (.int (b01 (0 ≤ v ∧ v ≤ 39)))) 243 M R) : CL γ l mX6_isCell 1 243 243 [.int v] M R K := by
  show WP γ l mX6_isCell 1 243 243 0 [some (.int v)] [] 243 M R K
  refine wp_iload_n dX6_isCell_0 rfl ?_
  refine wp_iconst (v := 0) dX6_isCell_1 (by decide) ?_
  refine wp_bipush (v := 39) dX6_isCell_2 (by decide) ?_
  refine wp_cS3 (z := mX6_within) (n' := 243) kX6_39 dX6_isCell_4 (Nat.le_of_ble_eq_true rfl) (Nat.le_of_ble_eq_true rfl) (Nat.le_of_ble_eq_true rfl) (Nat.le_refl _) (Nat.le_refl _) (s_X6_within (wp_af ?_))
  exact wp_iret dX6_isCell_7 rfl b01_n rfl (hK)

set_option maxRecDepth 100000 in
set_option maxHeartbeats 4000000 in
theorem s_X6_levelOf {γ : Gm} {l : Launch} {M : Mm} {R : Rm} {K : KT} {c : Nat} {sg : Nat → Int32} (hs : M 236 = sg) (hM : RM R) (hc : c < 40) (hK : K (some (.int (sg (6 + c)))) 243 M R) : CL γ l mX6_levelOf 0 243 243 [.ref 235, .int (nI c)] M R K := by
  show WP γ l mX6_levelOf 0 243 243 0 [some (.ref 235), some (.int (nI c))] [] 243 M R K
  refine wp_aload_n dX6_levelOf_0 rfl ?_
  refine wp_getQ fX6_7 tA_235 rfl hM.f0 (by decide) (Nat.le_of_ble_eq_true rfl) dX6_levelOf_1 ?_
  refine wp_bipush (v := 6) dX6_levelOf_4 (by decide) ?_
  refine wp_iload_n dX6_levelOf_6 rfl ?_
  refine wp_iadd dX6_levelOf_7 ?_
  refine wp_iadn (i := (6 + c)) (ix_add rfl rfl) tA_236 (Nat.le_of_ble_eq_true rfl) (by rw [lA_236]; omega) (Nat.le_of_ble_eq_true rfl) dX6_levelOf_8 (congrFun hs _) ?_
  exact wp_iret dX6_levelOf_9 rfl rfl rfl (hK)

set_option maxRecDepth 100000 in
set_option maxHeartbeats 4000000 in
theorem s_X6_paddlePart {γ : Gm} {l : Launch} {M : Mm} {R : Rm} {K : KT} {k j : Nat} {sg : Nat → Int32} (hs : M 236 = sg) (hM : RM R) (hk : k < 6) (hj : j < 6) (hK : K (some (.int (sg (86 + 6 * k + j)))) 243 M R) : CL γ l mX6_paddlePart 0 243 243 [.ref 235, .int (nI k), .int (nI j)] M R K := by
  show WP γ l mX6_paddlePart 0 243 243 0 [some (.ref 235), some (.int (nI k)), some (.int (nI j))] [] 243 M R K
  refine wp_aload_n dX6_paddlePart_0 rfl ?_
  refine wp_getQ fX6_7 tA_235 rfl hM.f0 (by decide) (Nat.le_of_ble_eq_true rfl) dX6_paddlePart_1 ?_
  refine wp_bipush (v := 86) dX6_paddlePart_4 (by decide) ?_
  refine wp_bipush (v := 6) dX6_paddlePart_6 (by decide) ?_
  refine wp_iload_n dX6_paddlePart_8 rfl ?_
  refine wp_imul dX6_paddlePart_9 ?_
  refine wp_iadd dX6_paddlePart_10 ?_
  refine wp_iload_n dX6_paddlePart_11 rfl ?_
  refine wp_iadd dX6_paddlePart_12 ?_
  refine wp_iadn (i := ((86 + (6 * k)) + j)) (ix_add (ix_add rfl (ix_mul rfl rfl)) rfl) tA_236 (Nat.le_of_ble_eq_true rfl) (by rw [lA_236]; omega) (Nat.le_of_ble_eq_true rfl) dX6_paddlePart_13 (congrFun hs _) ?_
  exact wp_iret dX6_paddlePart_14 rfl rfl rfl (hK)

set_option maxRecDepth 100000 in
set_option maxHeartbeats 4000000 in
theorem s_X6_gaugePart {γ : Gm} {l : Launch} {M : Mm} {R : Rm} {K : KT} {k j : Nat} {sg : Nat → Int32} (hs : M 236 = sg) (hM : RM R) (hk : k < 4) (hj : j < 62) (hK : K (some (.int (sg (122 + 62 * k + j)))) 243 M R) : CL γ l mX6_gaugePart 0 243 243 [.ref 235, .int (nI k), .int (nI j)] M R K := by
  show WP γ l mX6_gaugePart 0 243 243 0 [some (.ref 235), some (.int (nI k)), some (.int (nI j))] [] 243 M R K
  refine wp_aload_n dX6_gaugePart_0 rfl ?_
  refine wp_getQ fX6_7 tA_235 rfl hM.f0 (by decide) (Nat.le_of_ble_eq_true rfl) dX6_gaugePart_1 ?_
  refine wp_bipush (v := 122) dX6_gaugePart_4 (by decide) ?_
  refine wp_bipush (v := 62) dX6_gaugePart_6 (by decide) ?_
  refine wp_iload_n dX6_gaugePart_8 rfl ?_
  refine wp_imul dX6_gaugePart_9 ?_
  refine wp_iadd dX6_gaugePart_10 ?_
  refine wp_iload_n dX6_gaugePart_11 rfl ?_
  refine wp_iadd dX6_gaugePart_12 ?_
  refine wp_iadn (i := ((122 + (62 * k)) + j)) (ix_add (ix_add rfl (ix_mul rfl rfl)) rfl) tA_236 (Nat.le_of_ble_eq_true rfl) (by rw [lA_236]; omega) (Nat.le_of_ble_eq_true rfl) dX6_gaugePart_13 (congrFun hs _) ?_
  exact wp_iret dX6_gaugePart_14 rfl rfl rfl (hK)

set_option maxRecDepth 100000 in
set_option maxHeartbeats 4000000 in
theorem s_X6_setPaddle {γ : Gm} {l : Launch} {M : Mm} {R : Rm} {K : KT} {k j : Nat} {v : Int32} {sg : Nat → Int32} (hs : M 236 = sg) (hM : RM R) (hk : k < 6) (hj : j < 6) (hK : K none 243 (up M 236 (up sg (86 + 6 * k + j) v)) R) : CL γ l mX6_setPaddle 0 243 243 [.ref 235, .int (nI k), .int (nI j), .int v] M R K := by
  show WP γ l mX6_setPaddle 0 243 243 0 [some (.ref 235), some (.int (nI k)), some (.int (nI j)), some (.int v)] [] 243 M R K
  refine wp_aload_n dX6_setPaddle_0 rfl ?_
  refine wp_getQ fX6_7 tA_235 rfl hM.f0 (by decide) (Nat.le_of_ble_eq_true rfl) dX6_setPaddle_1 ?_
  refine wp_bipush (v := 86) dX6_setPaddle_4 (by decide) ?_
  refine wp_bipush (v := 6) dX6_setPaddle_6 (by decide) ?_
  refine wp_iload_n dX6_setPaddle_8 rfl ?_
  refine wp_imul dX6_setPaddle_9 ?_
  refine wp_iadd dX6_setPaddle_10 ?_
  refine wp_iload_n dX6_setPaddle_11 rfl ?_
  refine wp_iadd dX6_setPaddle_12 ?_
  refine wp_iload_n dX6_setPaddle_13 rfl ?_
  refine wp_iast (i := ((86 + (6 * k)) + j)) (ix_add (ix_add rfl (ix_mul rfl rfl)) rfl) tA_236 (Nat.le_of_ble_eq_true rfl) (by rw [lA_236]; omega) (Nat.le_of_ble_eq_true rfl) dX6_setPaddle_14 ?_
  exact wp_vret dX6_setPaddle_15 rfl rfl (by rw [u2_eq, hs]; exact hK)

/-- the paddle in a cell, by its rank, among the first m of them: the last one; -6 if there is none -/
def rkU (sg : Nat → Int32) (c : Int32) : Nat → Int32
  | 0 => -6
  | m + 1 => if sg (86 + 6 * m) = c then nI m else rkU sg c m
set_option maxRecDepth 100000 in
set_option maxHeartbeats 4000000 in
theorem s_X6_rankIn {γ : Gm} {l : Launch} {M : Mm} {R : Rm} {K : KT} {c : Int32} {np : Nat} {sg : Nat → Int32} (hs : M 236 = sg) (hM : RM R) (hn : sg 4 = nI np) (hp : np ≤ 6) (hK : K (some (.int (rkU sg c np))) 243 M R) : CL γ l mX6_rankIn 1 243 243 [.ref 235, .int c] M R K := by
  show WP γ l mX6_rankIn 1 243 243 0 [some (.ref 235), some (.int c), none, none] [] 243 M R K
  have loop : ∀ (f k : Nat), np - k < f → k ≤ np → WP γ l mX6_rankIn 1 243 243 5 [some (.ref 235), some (.int c), some (.int (rkU sg c k)), some (.int (nI k))] [] 243 M R K := by
    intro f
    induction f with
    | zero => intro k h; omega
    | succ f ih =>
      intro k hf hk
      refine wp_iload_n dX6_rankIn_5 rfl ?_
      refine wp_aload_n dX6_rankIn_6 rfl ?_
      refine wp_getQ fX6_7 tA_235 rfl hM.f0 (by decide) (Nat.le_of_ble_eq_true rfl) dX6_rankIn_7 ?_
      refine wp_iconst (v := 4) dX6_rankIn_10 (by decide) ?_
      refine wp_iadn (i := 4) rfl tA_236 (Nat.le_of_ble_eq_true rfl) (by rw [lA_236]; omega) (Nat.le_of_ble_eq_true rfl) dX6_rankIn_11 ((congrFun hs _).trans (hn)) ?_
      refine wp_icN_ge (a := k) (b := np) (tgt := 37) dX6_rankIn_12 (by decide) rfl rfl (by omega) (by omega) (fun h12 => ?_) (fun h12 => ?_)
      · refine wp_iload_n dX6_rankIn_37 rfl ?_
        exact wp_iret dX6_rankIn_38 rfl rfl rfl ((show k = np by omega) ▸ hK)
      · refine wp_aload_n dX6_rankIn_15 rfl ?_
        refine wp_iload_n dX6_rankIn_16 rfl ?_
        refine wp_iconst (v := 0) dX6_rankIn_17 (by decide) ?_
        refine wp_cV2 (z := mX6_paddlePart) (n' := 243) kX6_43 dX6_rankIn_18 (Nat.le_of_ble_eq_true rfl) (Nat.le_of_ble_eq_true rfl) tA_235 (Nat.le_of_ble_eq_true rfl) (Nat.le_of_ble_eq_true rfl) (Nat.le_refl _) (Nat.le_refl _) (s_X6_paddlePart hs (k := k) (j := 0) hM (by omega) (by omega) (wp_af ?_))
        refine wp_iload_n dX6_rankIn_21 rfl ?_
        refine wp_icmp_ne (tgt := 29) dX6_rankIn_22 (by decide) (fun h22 => ?_) (fun h22 => ?_)
        · refine wp_iload_n dX6_rankIn_29 rfl ?_
          refine wp_istore_n (L' := [_, _, _, _]) dX6_rankIn_30 (by decide) rfl ?_
          refine wp_iinc (v := nI (k + 1)) (L' := [_, _, _, _]) dX6_rankIn_31 (by decide) rfl (inc_1 _) rfl ?_
          refine wp_goto (tgt := 5) dX6_rankIn_34 (by decide) ?_
          have e : rkU sg c (k + 1) = if sg (86 + 6 * k) = c then nI k else rkU sg c k := rfl
          have g := ih (k + 1) (by omega) (by omega)
          rw [e] at g
          first | (rw [if_pos (by assumption)] at g; exact g) | (rw [if_neg (by assumption)] at g; exact g)
        · refine wp_iload_n dX6_rankIn_25 rfl ?_
          refine wp_goto (tgt := 30) dX6_rankIn_26 (by decide) ?_
          refine wp_istore_n (L' := [_, _, _, _]) dX6_rankIn_30 (by decide) rfl ?_
          refine wp_iinc (v := nI (k + 1)) (L' := [_, _, _, _]) dX6_rankIn_31 (by decide) rfl (inc_1 _) rfl ?_
          refine wp_goto (tgt := 5) dX6_rankIn_34 (by decide) ?_
          have e : rkU sg c (k + 1) = if sg (86 + 6 * k) = c then nI k else rkU sg c k := rfl
          have g := ih (k + 1) (by omega) (by omega)
          rw [e] at g
          first | (rw [if_pos (by assumption)] at g; exact g) | (rw [if_neg (by assumption)] at g; exact g)
  refine wp_bipush (v := (-6)) dX6_rankIn_0 (by decide) ?_
  refine wp_istore_n (L' := [_, _, _, _]) dX6_rankIn_2 (by decide) rfl ?_
  refine wp_iconst (v := 0) dX6_rankIn_3 (by decide) ?_
  refine wp_istore_n (L' := [_, _, _, _]) dX6_rankIn_4 (by decide) rfl ?_
  exact loop (np + 1) 0 (by omega) (by omega)

def crest (sg : Nat → Int32) (c : Nat) : Int32 := if (0 < c ∧ c < 39) ∧ sg (6 + (c - 1)) < sg (6 + c) ∧ sg (6 + (c + 1)) < sg (6 + c) then 1 else 0
def trough (sg : Nat → Int32) (c : Nat) : Int32 := if (0 < c ∧ c < 39) ∧ sg (6 + c) < sg (6 + (c - 1)) ∧ sg (6 + c) < sg (6 + (c + 1)) then 1 else 0
set_option maxRecDepth 100000 in
set_option maxHeartbeats 4000000 in
theorem s_X6_isCrest {γ : Gm} {l : Launch} {M : Mm} {R : Rm} {K : KT} {c : Nat} {sg : Nat → Int32} (hs : M 236 = sg) (hM : RM R) (hc : c < 40) (hK : K (some (.int (crest sg c))) 243 M R) : CL γ l mX6_isCrest 1 243 243 [.ref 235, .int (nI c)] M R K := by
  show WP γ l mX6_isCrest 1 243 243 0 [some (.ref 235), some (.int (nI c))] [] 243 M R K
  refine wp_iload_n dX6_isCrest_0 rfl ?_
  refine wp_ifN_le (a := c) (tgt := 44) dX6_isCrest_1 (by decide) rfl (by omega) (fun h1 => ?_) (fun h1 => ?_)
  · refine wp_iconst (v := 0) dX6_isCrest_44 (by decide) ?_
    exact wp_iret dX6_isCrest_45 rfl rfl rfl (by unfold crest at hK; (repeat' split at hK) <;> first | exact hK | (exfalso; simp only [Int32.lt_iff_toInt_lt, Int32.le_iff_toInt_le, ← Int32.toInt_inj] at *; omega))
  · refine wp_iload_n dX6_isCrest_4 rfl ?_
    refine wp_bipush (v := 39) dX6_isCrest_5 (by decide) ?_
    refine wp_icN_ge (a := c) (b := 39) (tgt := 44) dX6_isCrest_7 (by decide) rfl rfl (by omega) (by omega) (fun h7 => ?_) (fun h7 => ?_)
    · refine wp_iconst (v := 0) dX6_isCrest_44 (by decide) ?_
      exact wp_iret dX6_isCrest_45 rfl rfl rfl (by unfold crest at hK; (repeat' split at hK) <;> first | exact hK | (exfalso; simp only [Int32.lt_iff_toInt_lt, Int32.le_iff_toInt_le, ← Int32.toInt_inj] at *; omega))
    · refine wp_aload_n dX6_isCrest_10 rfl ?_
      refine wp_iload_n dX6_isCrest_11 rfl ?_
      refine wp_cV1 (z := mX6_levelOf) (n' := 243) kX6_47 dX6_isCrest_12 (Nat.le_of_ble_eq_true rfl) (Nat.le_of_ble_eq_true rfl) tA_235 (Nat.le_of_ble_eq_true rfl) (Nat.le_of_ble_eq_true rfl) (Nat.le_refl _) (Nat.le_refl _) (s_X6_levelOf hs (c := c) hM (by omega) (wp_af ?_))
      refine wp_aload_n dX6_isCrest_15 rfl ?_
      refine wp_iload_n dX6_isCrest_16 rfl ?_
      refine wp_iconst (v := 1) dX6_isCrest_17 (by decide) ?_
      refine wp_isub dX6_isCrest_18 ?_
      refine wp_top (z := nI (c - 1)) (ix_sub rfl rfl (by omega)) ?_
      refine wp_cV1 (z := mX6_levelOf) (n' := 243) kX6_47 dX6_isCrest_19 (Nat.le_of_ble_eq_true rfl) (Nat.le_of_ble_eq_true rfl) tA_235 (Nat.le_of_ble_eq_true rfl) (Nat.le_of_ble_eq_true rfl) (Nat.le_refl _) (Nat.le_refl _) (s_X6_levelOf hs (c := (c - 1)) hM (by omega) (wp_af ?_))
      refine wp_icmp_le (tgt := 44) dX6_isCrest_22 (by decide) (fun h22 => ?_) (fun h22 => ?_)
      · refine wp_iconst (v := 0) dX6_isCrest_44 (by decide) ?_
        exact wp_iret dX6_isCrest_45 rfl rfl rfl (by unfold crest at hK; (repeat' split at hK) <;> first | exact hK | (exfalso; simp only [Int32.lt_iff_toInt_lt, Int32.le_iff_toInt_le, ← Int32.toInt_inj] at *; omega))
      · refine wp_aload_n dX6_isCrest_25 rfl ?_
        refine wp_iload_n dX6_isCrest_26 rfl ?_
        refine wp_cV1 (z := mX6_levelOf) (n' := 243) kX6_47 dX6_isCrest_27 (Nat.le_of_ble_eq_true rfl) (Nat.le_of_ble_eq_true rfl) tA_235 (Nat.le_of_ble_eq_true rfl) (Nat.le_of_ble_eq_true rfl) (Nat.le_refl _) (Nat.le_refl _) (s_X6_levelOf hs (c := c) hM (by omega) (wp_af ?_))
        refine wp_aload_n dX6_isCrest_30 rfl ?_
        refine wp_iload_n dX6_isCrest_31 rfl ?_
        refine wp_iconst (v := 1) dX6_isCrest_32 (by decide) ?_
        refine wp_iadd dX6_isCrest_33 ?_
        refine wp_top (z := nI (c + 1)) (ix_add rfl rfl) ?_
        refine wp_cV1 (z := mX6_levelOf) (n' := 243) kX6_47 dX6_isCrest_34 (Nat.le_of_ble_eq_true rfl) (Nat.le_of_ble_eq_true rfl) tA_235 (Nat.le_of_ble_eq_true rfl) (Nat.le_of_ble_eq_true rfl) (Nat.le_refl _) (Nat.le_refl _) (s_X6_levelOf hs (c := (c + 1)) hM (by omega) (wp_af ?_))
        refine wp_icmp_le (tgt := 44) dX6_isCrest_37 (by decide) (fun h37 => ?_) (fun h37 => ?_)
        · refine wp_iconst (v := 0) dX6_isCrest_44 (by decide) ?_
          exact wp_iret dX6_isCrest_45 rfl rfl rfl (by unfold crest at hK; (repeat' split at hK) <;> first | exact hK | (exfalso; simp only [Int32.lt_iff_toInt_lt, Int32.le_iff_toInt_le, ← Int32.toInt_inj] at *; omega))
        · refine wp_iconst (v := 1) dX6_isCrest_40 (by decide) ?_
          refine wp_goto (tgt := 45) dX6_isCrest_41 (by decide) ?_
          exact wp_iret dX6_isCrest_45 rfl rfl rfl (by unfold crest at hK; (repeat' split at hK) <;> first | exact hK | (exfalso; simp only [Int32.lt_iff_toInt_lt, Int32.le_iff_toInt_le, ← Int32.toInt_inj] at *; omega))

set_option maxRecDepth 100000 in
set_option maxHeartbeats 4000000 in
theorem s_X6_isTrough {γ : Gm} {l : Launch} {M : Mm} {R : Rm} {K : KT} {c : Nat} {sg : Nat → Int32} (hs : M 236 = sg) (hM : RM R) (hc : c < 40) (hK : K (some (.int (trough sg c))) 243 M R) : CL γ l mX6_isTrough 1 243 243 [.ref 235, .int (nI c)] M R K := by
  show WP γ l mX6_isTrough 1 243 243 0 [some (.ref 235), some (.int (nI c))] [] 243 M R K
  refine wp_iload_n dX6_isTrough_0 rfl ?_
  refine wp_ifN_le (a := c) (tgt := 44) dX6_isTrough_1 (by decide) rfl (by omega) (fun h1 => ?_) (fun h1 => ?_)
  · refine wp_iconst (v := 0) dX6_isTrough_44 (by decide) ?_
    exact wp_iret dX6_isTrough_45 rfl rfl rfl (by unfold trough at hK; (repeat' split at hK) <;> first | exact hK | (exfalso; simp only [Int32.lt_iff_toInt_lt, Int32.le_iff_toInt_le, ← Int32.toInt_inj] at *; omega))
  · refine wp_iload_n dX6_isTrough_4 rfl ?_
    refine wp_bipush (v := 39) dX6_isTrough_5 (by decide) ?_
    refine wp_icN_ge (a := c) (b := 39) (tgt := 44) dX6_isTrough_7 (by decide) rfl rfl (by omega) (by omega) (fun h7 => ?_) (fun h7 => ?_)
    · refine wp_iconst (v := 0) dX6_isTrough_44 (by decide) ?_
      exact wp_iret dX6_isTrough_45 rfl rfl rfl (by unfold trough at hK; (repeat' split at hK) <;> first | exact hK | (exfalso; simp only [Int32.lt_iff_toInt_lt, Int32.le_iff_toInt_le, ← Int32.toInt_inj] at *; omega))
    · refine wp_aload_n dX6_isTrough_10 rfl ?_
      refine wp_iload_n dX6_isTrough_11 rfl ?_
      refine wp_cV1 (z := mX6_levelOf) (n' := 243) kX6_47 dX6_isTrough_12 (Nat.le_of_ble_eq_true rfl) (Nat.le_of_ble_eq_true rfl) tA_235 (Nat.le_of_ble_eq_true rfl) (Nat.le_of_ble_eq_true rfl) (Nat.le_refl _) (Nat.le_refl _) (s_X6_levelOf hs (c := c) hM (by omega) (wp_af ?_))
      refine wp_aload_n dX6_isTrough_15 rfl ?_
      refine wp_iload_n dX6_isTrough_16 rfl ?_
      refine wp_iconst (v := 1) dX6_isTrough_17 (by decide) ?_
      refine wp_isub dX6_isTrough_18 ?_
      refine wp_top (z := nI (c - 1)) (ix_sub rfl rfl (by omega)) ?_
      refine wp_cV1 (z := mX6_levelOf) (n' := 243) kX6_47 dX6_isTrough_19 (Nat.le_of_ble_eq_true rfl) (Nat.le_of_ble_eq_true rfl) tA_235 (Nat.le_of_ble_eq_true rfl) (Nat.le_of_ble_eq_true rfl) (Nat.le_refl _) (Nat.le_refl _) (s_X6_levelOf hs (c := (c - 1)) hM (by omega) (wp_af ?_))
      refine wp_icmp_ge (tgt := 44) dX6_isTrough_22 (by decide) (fun h22 => ?_) (fun h22 => ?_)
      · refine wp_iconst (v := 0) dX6_isTrough_44 (by decide) ?_
        exact wp_iret dX6_isTrough_45 rfl rfl rfl (by unfold trough at hK; (repeat' split at hK) <;> first | exact hK | (exfalso; simp only [Int32.lt_iff_toInt_lt, Int32.le_iff_toInt_le, ← Int32.toInt_inj] at *; omega))
      · refine wp_aload_n dX6_isTrough_25 rfl ?_
        refine wp_iload_n dX6_isTrough_26 rfl ?_
        refine wp_cV1 (z := mX6_levelOf) (n' := 243) kX6_47 dX6_isTrough_27 (Nat.le_of_ble_eq_true rfl) (Nat.le_of_ble_eq_true rfl) tA_235 (Nat.le_of_ble_eq_true rfl) (Nat.le_of_ble_eq_true rfl) (Nat.le_refl _) (Nat.le_refl _) (s_X6_levelOf hs (c := c) hM (by omega) (wp_af ?_))
        refine wp_aload_n dX6_isTrough_30 rfl ?_
        refine wp_iload_n dX6_isTrough_31 rfl ?_
        refine wp_iconst (v := 1) dX6_isTrough_32 (by decide) ?_
        refine wp_iadd dX6_isTrough_33 ?_
        refine wp_top (z := nI (c + 1)) (ix_add rfl rfl) ?_
        refine wp_cV1 (z := mX6_levelOf) (n' := 243) kX6_47 dX6_isTrough_34 (Nat.le_of_ble_eq_true rfl) (Nat.le_of_ble_eq_true rfl) tA_235 (Nat.le_of_ble_eq_true rfl) (Nat.le_of_ble_eq_true rfl) (Nat.le_refl _) (Nat.le_refl _) (s_X6_levelOf hs (c := (c + 1)) hM (by omega) (wp_af ?_))
        refine wp_icmp_ge (tgt := 44) dX6_isTrough_37 (by decide) (fun h37 => ?_) (fun h37 => ?_)
        · refine wp_iconst (v := 0) dX6_isTrough_44 (by decide) ?_
          exact wp_iret dX6_isTrough_45 rfl rfl rfl (by unfold trough at hK; (repeat' split at hK) <;> first | exact hK | (exfalso; simp only [Int32.lt_iff_toInt_lt, Int32.le_iff_toInt_le, ← Int32.toInt_inj] at *; omega))
        · refine wp_iconst (v := 1) dX6_isTrough_40 (by decide) ?_
          refine wp_goto (tgt := 45) dX6_isTrough_41 (by decide) ?_
          exact wp_iret dX6_isTrough_45 rfl rfl rfl (by unfold trough at hK; (repeat' split at hK) <;> first | exact hK | (exfalso; simp only [Int32.lt_iff_toInt_lt, Int32.le_iff_toInt_le, ← Int32.toInt_inj] at *; omega))
end
section
/-! THE REFERENCE: a step -/
def remI (x z : Int32) : Int32 := x - x / z * z
/-- a recipe's push, t of its period gone -/
def pushV (sort height period t : Int32) : Int32 := if sort = 0 then height else if sort = 1 then height * (2 * t - period) / period else if sort = 2 then (if 2 * t < period then height else -height) else height * (4 * (if t < period - t then t else period - t) - period) / period
def pushS (sg : Nat → Int32) (k : Nat) : Int32 := pushV (sg (86 + 6 * k + 1)) (sg (86 + 6 * k + 2)) (sg (86 + 6 * k + 3)) (remI (sg 3 + sg (86 + 6 * k + 4)) (sg (86 + 6 * k + 3)))
theorem pushS_up (sg : Nat → Int32) (k : Nat) (v : Int32) : pushS (up sg (86 + 6 * k + 5) v) k = pushS sg k := by
  unfold pushS
  rw [up_n _ _ (by omega), up_n _ _ (by omega), up_n _ _ (by omega), up_n _ _ (by omega), up_n _ _ (by omega)]
set_option maxRecDepth 100000 in
set_option maxHeartbeats 4000000 in
theorem s_X6_push {γ : Gm} {l : Launch} {M : Mm} {R : Rm} {K : KT} {k : Nat} {sg : Nat → Int32} (hs : M 236 = sg) (hM : RM R) (hk : k < 6) (hz : ¬ sg (86 + 6 * k + 3) = 0) (hK : K (some (.int (pushS sg k))) 243 M R) : CL γ l mX6_push 1 243 243 [.ref 235, .int (nI k)] M R K := by
  show WP γ l mX6_push 1 243 243 0 [some (.ref 235), some (.int (nI k)), none, none, none, none] [] 243 M R K
  rw [pushS] at hK
  refine wp_aload_n dX6_push_0 rfl ?_
  refine wp_iload_n dX6_push_1 rfl ?_
  refine wp_iconst (v := 2) dX6_push_2 (by decide) ?_
  refine wp_cV2 (z := mX6_paddlePart) (n' := 243) kX6_43 dX6_push_3 (Nat.le_of_ble_eq_true rfl) (Nat.le_of_ble_eq_true rfl) tA_235 (Nat.le_of_ble_eq_true rfl) (Nat.le_of_ble_eq_true rfl) (Nat.le_refl _) (Nat.le_refl _) (s_X6_paddlePart hs (k := k) (j := 2) hM (by omega) (by omega) (wp_af ?_))
  refine wp_topv (fun hg e_hg => ?_)
  refine wp_istore_n (L' := [some (.ref 235), some (.int (nI k)), some (.int hg), none, none, none]) dX6_push_6 (by decide) rfl ?_
  refine wp_aload_n dX6_push_7 rfl ?_
  refine wp_iload_n dX6_push_8 rfl ?_
  refine wp_iconst (v := 3) dX6_push_9 (by decide) ?_
  refine wp_cV2 (z := mX6_paddlePart) (n' := 243) kX6_43 dX6_push_10 (Nat.le_of_ble_eq_true rfl) (Nat.le_of_ble_eq_true rfl) tA_235 (Nat.le_of_ble_eq_true rfl) (Nat.le_of_ble_eq_true rfl) (Nat.le_refl _) (Nat.le_refl _) (s_X6_paddlePart hs (k := k) (j := 3) hM (by omega) (by omega) (wp_af ?_))
  refine wp_topv (fun pd e_pd => ?_)
  refine wp_istore_n (L' := [some (.ref 235), some (.int (nI k)), some (.int hg), some (.int pd), none, none]) dX6_push_13 (by decide) rfl ?_
  refine wp_aload_n dX6_push_14 rfl ?_
  refine wp_getQ fX6_7 tA_235 rfl hM.f0 (by decide) (Nat.le_of_ble_eq_true rfl) dX6_push_15 ?_
  refine wp_iconst (v := 3) dX6_push_18 (by decide) ?_
  refine wp_iadn (i := 3) rfl tA_236 (Nat.le_of_ble_eq_true rfl) (by rw [lA_236]; omega) (Nat.le_of_ble_eq_true rfl) dX6_push_19 (congrFun hs _) ?_
  refine wp_aload_n dX6_push_20 rfl ?_
  refine wp_iload_n dX6_push_21 rfl ?_
  refine wp_iconst (v := 4) dX6_push_22 (by decide) ?_
  refine wp_cV2 (z := mX6_paddlePart) (n' := 243) kX6_43 dX6_push_23 (Nat.le_of_ble_eq_true rfl) (Nat.le_of_ble_eq_true rfl) tA_235 (Nat.le_of_ble_eq_true rfl) (Nat.le_of_ble_eq_true rfl) (Nat.le_refl _) (Nat.le_refl _) (s_X6_paddlePart hs (k := k) (j := 4) hM (by omega) (by omega) (wp_af ?_))
  refine wp_iadd dX6_push_26 ?_
  refine wp_iload_n dX6_push_27 rfl ?_
  refine wp_irem dX6_push_28 (by rw [e_pd]; exact hz) ?_
  refine wp_topv (fun t e_t => ?_)
  refine wp_istore (L' := [some (.ref 235), some (.int (nI k)), some (.int hg), some (.int pd), some (.int t), none]) dX6_push_29 (by decide) rfl ?_
  refine wp_iload dX6_push_31 rfl ?_
  refine wp_iload_n dX6_push_33 rfl ?_
  refine wp_iload dX6_push_34 rfl ?_
  refine wp_isub dX6_push_36 ?_
  refine wp_icmp_ge (tgt := 45) dX6_push_37 (by decide) (fun h37 => ?_) (fun h37 => ?_)
  · have e_d : (if t < pd - t then t else pd - t) = pd - t := if_neg (Int32.not_lt.mpr h37)
    refine wp_iload_n dX6_push_45 rfl ?_
    refine wp_iload dX6_push_46 rfl ?_
    refine wp_isub dX6_push_48 ?_
    refine wp_istore (L' := [some (.ref 235), some (.int (nI k)), some (.int hg), some (.int pd), some (.int t), some (.int _)]) dX6_push_49 (by decide) rfl ?_
    refine wp_aload_n dX6_push_51 rfl ?_
    refine wp_iload_n dX6_push_52 rfl ?_
    refine wp_iconst (v := 1) dX6_push_53 (by decide) ?_
    refine wp_cV2 (z := mX6_paddlePart) (n' := 243) kX6_43 dX6_push_54 (Nat.le_of_ble_eq_true rfl) (Nat.le_of_ble_eq_true rfl) tA_235 (Nat.le_of_ble_eq_true rfl) (Nat.le_of_ble_eq_true rfl) (Nat.le_refl _) (Nat.le_refl _) (s_X6_paddlePart hs (k := k) (j := 1) hM (by omega) (by omega) (wp_af ?_))
    refine wp_tswitch [(0, 84), (1, 86), (2, 97)] 112 dX6_push_57 (by decide) (by decide) (by decide +kernel) ?_
    refine wp_sw (fun h57_0 => ?_) (fun h57_0 => ?_)
    · refine wp_iload_n dX6_push_84 rfl ?_
      exact wp_iret dX6_push_85 rfl rfl rfl (by rw [← e_hg, ← e_pd, show remI (sg 3 + sg (86 + 6 * k + 4)) pd = t from e_t.symm, pushV, e_d] at hK; (repeat' split at hK) <;> first | exact hK | contradiction | (exfalso; simp only [Int32.lt_iff_toInt_lt, Int32.le_iff_toInt_le, ← Int32.toInt_inj] at *; omega))
    refine wp_sw (fun h57_1 => ?_) (fun h57_1 => ?_)
    · refine wp_iload_n dX6_push_86 rfl ?_
      refine wp_iconst (v := 2) dX6_push_87 (by decide) ?_
      refine wp_iload dX6_push_88 rfl ?_
      refine wp_imul dX6_push_90 ?_
      refine wp_iload_n dX6_push_91 rfl ?_
      refine wp_isub dX6_push_92 ?_
      refine wp_imul dX6_push_93 ?_
      refine wp_iload_n dX6_push_94 rfl ?_
      refine wp_idiv dX6_push_95 (by rw [e_pd]; exact hz) ?_
      exact wp_iret dX6_push_96 rfl rfl rfl (by rw [← e_hg, ← e_pd, show remI (sg 3 + sg (86 + 6 * k + 4)) pd = t from e_t.symm, pushV, e_d] at hK; (repeat' split at hK) <;> first | exact hK | contradiction | (exfalso; simp only [Int32.lt_iff_toInt_lt, Int32.le_iff_toInt_le, ← Int32.toInt_inj] at *; omega))
    refine wp_sw (fun h57_2 => ?_) (fun h57_2 => ?_)
    · refine wp_iconst (v := 2) dX6_push_97 (by decide) ?_
      refine wp_iload dX6_push_98 rfl ?_
      refine wp_imul dX6_push_100 ?_
      refine wp_iload_n dX6_push_101 rfl ?_
      refine wp_icmp_ge (tgt := 109) dX6_push_102 (by decide) (fun h102 => ?_) (fun h102 => ?_)
      · refine wp_iload_n dX6_push_109 rfl ?_
        refine wp_ineg dX6_push_110 ?_
        exact wp_iret dX6_push_111 rfl rfl rfl (by rw [← e_hg, ← e_pd, show remI (sg 3 + sg (86 + 6 * k + 4)) pd = t from e_t.symm, pushV, e_d] at hK; (repeat' split at hK) <;> first | exact hK | contradiction | (exfalso; simp only [Int32.lt_iff_toInt_lt, Int32.le_iff_toInt_le, ← Int32.toInt_inj] at *; omega))
      · refine wp_iload_n dX6_push_105 rfl ?_
        refine wp_goto (tgt := 111) dX6_push_106 (by decide) ?_
        exact wp_iret dX6_push_111 rfl rfl rfl (by rw [← e_hg, ← e_pd, show remI (sg 3 + sg (86 + 6 * k + 4)) pd = t from e_t.symm, pushV, e_d] at hK; (repeat' split at hK) <;> first | exact hK | contradiction | (exfalso; simp only [Int32.lt_iff_toInt_lt, Int32.le_iff_toInt_le, ← Int32.toInt_inj] at *; omega))
    refine wp_sw0 ?_
    refine wp_iload_n dX6_push_112 rfl ?_
    refine wp_iconst (v := 4) dX6_push_113 (by decide) ?_
    refine wp_iload dX6_push_114 rfl ?_
    refine wp_imul dX6_push_116 ?_
    refine wp_iload_n dX6_push_117 rfl ?_
    refine wp_isub dX6_push_118 ?_
    refine wp_imul dX6_push_119 ?_
    refine wp_iload_n dX6_push_120 rfl ?_
    refine wp_idiv dX6_push_121 (by rw [e_pd]; exact hz) ?_
    exact wp_iret dX6_push_122 rfl rfl rfl (by rw [← e_hg, ← e_pd, show remI (sg 3 + sg (86 + 6 * k + 4)) pd = t from e_t.symm, pushV, e_d] at hK; (repeat' split at hK) <;> first | exact hK | contradiction | (exfalso; simp only [Int32.lt_iff_toInt_lt, Int32.le_iff_toInt_le, ← Int32.toInt_inj] at *; omega))
  · have e_d : (if t < pd - t then t else pd - t) = t := if_pos (Int32.not_le.mp h37)
    refine wp_iload dX6_push_40 rfl ?_
    refine wp_goto (tgt := 49) dX6_push_42 (by decide) ?_
    refine wp_istore (L' := [some (.ref 235), some (.int (nI k)), some (.int hg), some (.int pd), some (.int t), some (.int t)]) dX6_push_49 (by decide) rfl ?_
    refine wp_aload_n dX6_push_51 rfl ?_
    refine wp_iload_n dX6_push_52 rfl ?_
    refine wp_iconst (v := 1) dX6_push_53 (by decide) ?_
    refine wp_cV2 (z := mX6_paddlePart) (n' := 243) kX6_43 dX6_push_54 (Nat.le_of_ble_eq_true rfl) (Nat.le_of_ble_eq_true rfl) tA_235 (Nat.le_of_ble_eq_true rfl) (Nat.le_of_ble_eq_true rfl) (Nat.le_refl _) (Nat.le_refl _) (s_X6_paddlePart hs (k := k) (j := 1) hM (by omega) (by omega) (wp_af ?_))
    refine wp_tswitch [(0, 84), (1, 86), (2, 97)] 112 dX6_push_57 (by decide) (by decide) (by decide +kernel) ?_
    refine wp_sw (fun h57_0 => ?_) (fun h57_0 => ?_)
    · refine wp_iload_n dX6_push_84 rfl ?_
      exact wp_iret dX6_push_85 rfl rfl rfl (by rw [← e_hg, ← e_pd, show remI (sg 3 + sg (86 + 6 * k + 4)) pd = t from e_t.symm, pushV, e_d] at hK; (repeat' split at hK) <;> first | exact hK | contradiction | (exfalso; simp only [Int32.lt_iff_toInt_lt, Int32.le_iff_toInt_le, ← Int32.toInt_inj] at *; omega))
    refine wp_sw (fun h57_1 => ?_) (fun h57_1 => ?_)
    · refine wp_iload_n dX6_push_86 rfl ?_
      refine wp_iconst (v := 2) dX6_push_87 (by decide) ?_
      refine wp_iload dX6_push_88 rfl ?_
      refine wp_imul dX6_push_90 ?_
      refine wp_iload_n dX6_push_91 rfl ?_
      refine wp_isub dX6_push_92 ?_
      refine wp_imul dX6_push_93 ?_
      refine wp_iload_n dX6_push_94 rfl ?_
      refine wp_idiv dX6_push_95 (by rw [e_pd]; exact hz) ?_
      exact wp_iret dX6_push_96 rfl rfl rfl (by rw [← e_hg, ← e_pd, show remI (sg 3 + sg (86 + 6 * k + 4)) pd = t from e_t.symm, pushV, e_d] at hK; (repeat' split at hK) <;> first | exact hK | contradiction | (exfalso; simp only [Int32.lt_iff_toInt_lt, Int32.le_iff_toInt_le, ← Int32.toInt_inj] at *; omega))
    refine wp_sw (fun h57_2 => ?_) (fun h57_2 => ?_)
    · refine wp_iconst (v := 2) dX6_push_97 (by decide) ?_
      refine wp_iload dX6_push_98 rfl ?_
      refine wp_imul dX6_push_100 ?_
      refine wp_iload_n dX6_push_101 rfl ?_
      refine wp_icmp_ge (tgt := 109) dX6_push_102 (by decide) (fun h102 => ?_) (fun h102 => ?_)
      · refine wp_iload_n dX6_push_109 rfl ?_
        refine wp_ineg dX6_push_110 ?_
        exact wp_iret dX6_push_111 rfl rfl rfl (by rw [← e_hg, ← e_pd, show remI (sg 3 + sg (86 + 6 * k + 4)) pd = t from e_t.symm, pushV, e_d] at hK; (repeat' split at hK) <;> first | exact hK | contradiction | (exfalso; simp only [Int32.lt_iff_toInt_lt, Int32.le_iff_toInt_le, ← Int32.toInt_inj] at *; omega))
      · refine wp_iload_n dX6_push_105 rfl ?_
        refine wp_goto (tgt := 111) dX6_push_106 (by decide) ?_
        exact wp_iret dX6_push_111 rfl rfl rfl (by rw [← e_hg, ← e_pd, show remI (sg 3 + sg (86 + 6 * k + 4)) pd = t from e_t.symm, pushV, e_d] at hK; (repeat' split at hK) <;> first | exact hK | contradiction | (exfalso; simp only [Int32.lt_iff_toInt_lt, Int32.le_iff_toInt_le, ← Int32.toInt_inj] at *; omega))
    refine wp_sw0 ?_
    refine wp_iload_n dX6_push_112 rfl ?_
    refine wp_iconst (v := 4) dX6_push_113 (by decide) ?_
    refine wp_iload dX6_push_114 rfl ?_
    refine wp_imul dX6_push_116 ?_
    refine wp_iload_n dX6_push_117 rfl ?_
    refine wp_isub dX6_push_118 ?_
    refine wp_imul dX6_push_119 ?_
    refine wp_iload_n dX6_push_120 rfl ?_
    refine wp_idiv dX6_push_121 (by rw [e_pd]; exact hz) ?_
    exact wp_iret dX6_push_122 rfl rfl rfl (by rw [← e_hg, ← e_pd, show remI (sg 3 + sg (86 + 6 * k + 4)) pd = t from e_t.symm, pushV, e_d] at hK; (repeat' split at hK) <;> first | exact hK | contradiction | (exfalso; simp only [Int32.lt_iff_toInt_lt, Int32.le_iff_toInt_le, ← Int32.toInt_inj] at *; omega))

/-- the cell of the paddle of rank k -/
def cel (sg : Nat → Int32) (k : Nat) : Nat := (sg (86 + 6 * k)).toNatClampNeg
/-- what a paddle does in a step: the numbers behind it, and whether it stops -/
def pa1 (sg : Nat → Int32) (k : Nat) : Nat → Int32 := if sg (86 + 6 * k + 5) = 1 then (if sg 2 < szI (sg (6 + cel sg k)) then up sg (86 + 6 * k + 5) 0 else up (up sg (86 + 6 * k + 5) 1) (6 + cel sg k) (pushS sg k)) else sg
def pc1 (sg : Nat → Int32) (k : Nat) : Int32 := if sg (86 + 6 * k + 5) = 1 then (if sg 2 < szI (sg (6 + cel sg k)) then 1 else 0) else 0
def paN (sg : Nat → Int32) : Nat → Nat → Int32
  | 0 => sg
  | k + 1 => pa1 (paN sg k) k
def pcN (sg : Nat → Int32) : Nat → Int32
  | 0 => 0
  | k + 1 => pcN sg k + pc1 (paN sg k) k
/-- what the rows of the paddles must be for a step -/
def PdS (sg : Nat → Int32) (np : Nat) : Prop := ∀ k, k < np → (∃ c, c < 36 ∧ sg (86 + 6 * k) = nI c) ∧ ¬ sg (86 + 6 * k + 3) = 0
theorem pa1_same {sg : Nat → Int32} {k j c : Nat} (hc : sg (86 + 6 * k) = nI c) (h36 : c < 36) (hj : j < 6 ∨ 46 ≤ j) (hn : j ≠ 86 + 6 * k + 5) : pa1 sg k j = sg j := by
  have e : cel sg k = c := by rw [cel, hc, nI_clamp (by omega)]
  unfold pa1
  rw [e]
  split
  · split
    · rw [up_n _ _ hn]
    · rw [up_n _ _ (by omega), up_n _ _ hn]
  · rfl
theorem paN_same {sg : Nat → Int32} {np : Nat} (h : PdS sg np) : ∀ {k : Nat}, k ≤ np → ∀ {j : Nat}, (j < 6 ∨ 46 ≤ j) → (∀ i, j ≠ 91 + 6 * i) → paN sg k j = sg j
  | 0, _, _, _, _ => rfl
  | k + 1, hk, j, hj, hn => by
    obtain ⟨⟨c, h36, hc⟩, -⟩ := h k (by omega)
    have e1 := paN_same h (k := k) (by omega) (j := 86 + 6 * k) (by omega) (fun i => by omega)
    show pa1 (paN sg k) k j = _
    rw [pa1_same (e1.trans hc) h36 hj (by have := hn k; omega)]
    exact paN_same h (by omega) hj hn
set_option maxRecDepth 100000 in
set_option maxHeartbeats 4000000 in
theorem s_X6_pushAll {γ : Gm} {l : Launch} {M : Mm} {R : Rm} {K : KT} {np : Nat} {sg : Nat → Int32} (hs : M 236 = sg) (hM : RM R) (hn : sg 4 = nI np) (h6 : np ≤ 6) (hp : PdS sg np) (hK : K (some (.int (pcN sg np))) 243 (up M 236 (paN sg np)) R) : CL γ l mX6_pushAll 2 243 243 [.ref 235] M R K := by
  show WP γ l mX6_pushAll 2 243 243 0 [some (.ref 235), none, none, none, none] [] 243 M R K
  have loop : ∀ (f k : Nat) (st : Int32) (ro : Nat → Int32), st = pcN sg k → ro = paN sg k → np - k < f → k ≤ np → WP γ l mX6_pushAll 2 243 243 4 [some (.ref 235), some (.int st), some (.int (nI k)), none, none] [] 243 (up M 236 ro) R K := by
    intro f
    induction f with
    | zero => intro k st ro _ _ h; omega
    | succ f ih =>
      intro k st ro hst hro hf hk
      have r4 : ro 4 = nI np := by rw [hro, paN_same hp hk (by omega) (fun i => by omega), hn]
      refine wp_iload_n dX6_pushAll_4 rfl ?_
      refine wp_aload_n dX6_pushAll_5 rfl ?_
      refine wp_getQ fX6_7 tA_235 rfl hM.f0 (by decide) (Nat.le_of_ble_eq_true rfl) dX6_pushAll_6 ?_
      refine wp_iconst (v := 4) dX6_pushAll_9 (by decide) ?_
      refine wp_iadn (i := 4) rfl tA_236 (Nat.le_of_ble_eq_true rfl) (by rw [lA_236]; omega) (Nat.le_of_ble_eq_true rfl) dX6_pushAll_10 ((congrFun (up_s _ _ _) _).trans (r4)) ?_
      refine wp_icN_ge (a := k) (b := np) (tgt := 117) dX6_pushAll_11 (by decide) rfl rfl (by omega) (by omega) (fun h11 => ?_) (fun h11 => ?_)
      · refine wp_iload_n dX6_pushAll_117 rfl ?_
        exact wp_iret dX6_pushAll_118 rfl rfl rfl (by rw [hst, hro, show k = np by omega]; exact hK)
      · obtain ⟨⟨c, h36, hc0⟩, hz0⟩ := hp k h11
        have hc : ro (86 + 6 * k + 0) = nI c := by rw [hro, paN_same hp hk (by omega) (fun i => by omega)]; exact hc0
        have hz : ¬ ro (86 + 6 * k + 3) = 0 := by rw [hro, paN_same hp hk (by omega) (fun i => by omega)]; exact hz0
        have hcel : cel ro k = c := by rw [cel, show ro (86 + 6 * k) = nI c from hc, nI_clamp (by omega)]
        refine wp_aload_n dX6_pushAll_14 rfl ?_
        refine wp_iload_n dX6_pushAll_15 rfl ?_
        refine wp_iconst (v := 0) dX6_pushAll_16 (by decide) ?_
        refine wp_cV2 (z := mX6_paddlePart) (n' := 243) kX6_43 dX6_pushAll_17 (Nat.le_of_ble_eq_true rfl) (Nat.le_of_ble_eq_true rfl) tA_235 (Nat.le_of_ble_eq_true rfl) (Nat.le_of_ble_eq_true rfl) (Nat.le_refl _) (Nat.le_refl _) (s_X6_paddlePart (up_s _ _ _) (k := k) (j := 0) hM (by omega) (by omega) (wp_af ?_))
        refine wp_top (hc) ?_
        refine wp_istore_n (L' := [some (.ref 235), some (.int st), some (.int (nI k)), some (.int (nI c)), none]) dX6_pushAll_20 (by decide) rfl ?_
        refine wp_aload_n dX6_pushAll_21 rfl ?_
        refine wp_iload_n dX6_pushAll_22 rfl ?_
        refine wp_iconst (v := 5) dX6_pushAll_23 (by decide) ?_
        refine wp_cV2 (z := mX6_paddlePart) (n' := 243) kX6_43 dX6_pushAll_24 (Nat.le_of_ble_eq_true rfl) (Nat.le_of_ble_eq_true rfl) tA_235 (Nat.le_of_ble_eq_true rfl) (Nat.le_of_ble_eq_true rfl) (Nat.le_refl _) (Nat.le_refl _) (s_X6_paddlePart (up_s _ _ _) (k := k) (j := 5) hM (by omega) (by omega) (wp_af ?_))
        refine wp_iconst (v := 1) dX6_pushAll_27 (by decide) ?_
        refine wp_icmp_ne (tgt := 111) dX6_pushAll_28 (by decide) (fun h28 => ?_) (fun h28 => ?_)
        · refine wp_iinc (v := nI (k + 1)) (L' := [some (.ref 235), some (.int st), some (.int (nI (k + 1))), some (.int (nI c)), none]) dX6_pushAll_111 (by decide) rfl (inc_1 _) rfl ?_
          refine wp_goto (tgt := 4) dX6_pushAll_114 (by decide) ?_
          refine wp_drop [some (.ref 235), some (.int _), some (.int _), none, none] (by repeat constructor) ?_
          refine ih (k + 1) _ _ ?_ ?_ (by omega) (by omega)
          · show _ = pcN sg k + pc1 (paN sg k) k
            rw [← hst, ← hro, pc1, hcel]
            clear hst hro ih hK
            simp [*]
          · show _ = pa1 (paN sg k) k
            rw [← hro, pa1, hcel]
            clear hst hro ih hK
            simp [*, pushS_up, up_eta]
        · refine wp_aload_n dX6_pushAll_31 rfl ?_
          refine wp_iload_n dX6_pushAll_32 rfl ?_
          refine wp_cV1 (z := mX6_levelOf) (n' := 243) kX6_47 dX6_pushAll_33 (Nat.le_of_ble_eq_true rfl) (Nat.le_of_ble_eq_true rfl) tA_235 (Nat.le_of_ble_eq_true rfl) (Nat.le_of_ble_eq_true rfl) (Nat.le_refl _) (Nat.le_refl _) (s_X6_levelOf (up_s _ _ _) (c := c) hM (by omega) (wp_af ?_))
          refine wp_cS1 (z := mX6_size) (n' := 243) kX6_51 dX6_pushAll_36 (Nat.le_of_ble_eq_true rfl) (Nat.le_of_ble_eq_true rfl) (Nat.le_of_ble_eq_true rfl) (Nat.le_refl _) (Nat.le_refl _) (s_X6_size (wp_af ?_))
          refine wp_aload_n dX6_pushAll_39 rfl ?_
          refine wp_getQ fX6_7 tA_235 rfl hM.f0 (by decide) (Nat.le_of_ble_eq_true rfl) dX6_pushAll_40 ?_
          refine wp_iconst (v := 2) dX6_pushAll_43 (by decide) ?_
          refine wp_iadn (i := 2) rfl tA_236 (Nat.le_of_ble_eq_true rfl) (by rw [lA_236]; omega) (Nat.le_of_ble_eq_true rfl) dX6_pushAll_44 (congrFun (up_s _ _ _) _) ?_
          refine wp_icmp_le (tgt := 52) dX6_pushAll_45 (by decide) (fun h45 => ?_) (fun h45 => ?_)
          · have g45 := Int32.not_lt.mpr h45
            refine wp_iconst (v := 0) dX6_pushAll_52 (by decide) ?_
            refine wp_istore (L' := [some (.ref 235), some (.int st), some (.int (nI k)), some (.int (nI c)), some (.int _)]) dX6_pushAll_53 (by decide) rfl ?_
            refine wp_iload_n dX6_pushAll_55 rfl ?_
            refine wp_iload dX6_pushAll_56 rfl ?_
            refine wp_ifN_eq (a := 0) (tgt := 65) dX6_pushAll_58 (by decide) rfl (by omega) (fun _ => ?_) (fun h => absurd h (by decide))
            refine wp_iconst (v := 0) dX6_pushAll_65 (by decide) ?_
            refine wp_iadd dX6_pushAll_66 ?_
            refine wp_istore_n (L' := [some (.ref 235), some (.int _), some (.int (nI k)), some (.int (nI c)), some (.int _)]) dX6_pushAll_67 (by decide) rfl ?_
            refine wp_aload_n dX6_pushAll_68 rfl ?_
            refine wp_iload_n dX6_pushAll_69 rfl ?_
            refine wp_iconst (v := 5) dX6_pushAll_70 (by decide) ?_
            refine wp_iload dX6_pushAll_71 rfl ?_
            refine wp_ifN_eq (a := 0) (tgt := 80) dX6_pushAll_73 (by decide) rfl (by omega) (fun _ => ?_) (fun h => absurd h (by decide))
            refine wp_iconst (v := 1) dX6_pushAll_80 (by decide) ?_
            refine wp_cV3 (z := mX6_setPaddle) (n' := 243) kX6_54 dX6_pushAll_81 (Nat.le_of_ble_eq_true rfl) (Nat.le_of_ble_eq_true rfl) tA_235 (Nat.le_of_ble_eq_true rfl) (Nat.le_of_ble_eq_true rfl) (Nat.le_refl _) (Nat.le_refl _) (s_X6_setPaddle (up_s _ _ _) (k := k) (j := 5) hM (by omega) (by omega) (wp_af0 ?_))
            refine wp_mem (up_up _ _ _ _) ?_
            refine wp_aload_n dX6_pushAll_84 rfl ?_
            refine wp_getQ fX6_7 tA_235 rfl hM.f0 (by decide) (Nat.le_of_ble_eq_true rfl) dX6_pushAll_85 ?_
            refine wp_bipush (v := 6) dX6_pushAll_88 (by decide) ?_
            refine wp_iload_n dX6_pushAll_90 rfl ?_
            refine wp_iadd dX6_pushAll_91 ?_
            refine wp_iload dX6_pushAll_92 rfl ?_
            refine wp_ifN_eq (a := 0) (tgt := 105) dX6_pushAll_94 (by decide) rfl (by omega) (fun _ => ?_) (fun h => absurd h (by decide))
            refine wp_aload_n dX6_pushAll_105 rfl ?_
            refine wp_iload_n dX6_pushAll_106 rfl ?_
            refine wp_cV1 (z := mX6_push) (n' := 243) kX6_58 dX6_pushAll_107 (Nat.le_of_ble_eq_true rfl) (Nat.le_of_ble_eq_true rfl) tA_235 (Nat.le_of_ble_eq_true rfl) (Nat.le_of_ble_eq_true rfl) (Nat.le_refl _) (Nat.le_refl _) (s_X6_push (up_s _ _ _) (k := k) hM (by omega) (by rw [up_n _ _ (by omega)]; exact hz) (wp_af ?_))
            refine wp_iast (i := (6 + c)) (ix_add rfl rfl) tA_236 (Nat.le_of_ble_eq_true rfl) (by rw [lA_236]; omega) (Nat.le_of_ble_eq_true rfl) dX6_pushAll_110 ?_
            refine wp_mem (u2_up _ _ _ _ _) ?_
            refine wp_iinc (v := nI (k + 1)) (L' := [some (.ref 235), some (.int _), some (.int (nI (k + 1))), some (.int (nI c)), some (.int _)]) dX6_pushAll_111 (by decide) rfl (inc_1 _) rfl ?_
            refine wp_goto (tgt := 4) dX6_pushAll_114 (by decide) ?_
            refine wp_drop [some (.ref 235), some (.int _), some (.int _), none, none] (by repeat constructor) ?_
            refine ih (k + 1) _ _ ?_ ?_ (by omega) (by omega)
            · show _ = pcN sg k + pc1 (paN sg k) k
              rw [← hst, ← hro, pc1, hcel]
              clear hst hro ih hK
              simp [*]
            · show _ = pa1 (paN sg k) k
              rw [← hro, pa1, hcel]
              clear hst hro ih hK
              simp [*, pushS_up, up_eta]
          · have g45 := Int32.not_le.mp h45
            refine wp_iconst (v := 1) dX6_pushAll_48 (by decide) ?_
            refine wp_goto (tgt := 53) dX6_pushAll_49 (by decide) ?_
            refine wp_istore (L' := [some (.ref 235), some (.int st), some (.int (nI k)), some (.int (nI c)), some (.int _)]) dX6_pushAll_53 (by decide) rfl ?_
            refine wp_iload_n dX6_pushAll_55 rfl ?_
            refine wp_iload dX6_pushAll_56 rfl ?_
            refine wp_ifN_eq (a := 1) (tgt := 65) dX6_pushAll_58 (by decide) rfl (by omega) (fun h => absurd h (by decide)) (fun _ => ?_)
            refine wp_iconst (v := 1) dX6_pushAll_61 (by decide) ?_
            refine wp_goto (tgt := 66) dX6_pushAll_62 (by decide) ?_
            refine wp_iadd dX6_pushAll_66 ?_
            refine wp_istore_n (L' := [some (.ref 235), some (.int _), some (.int (nI k)), some (.int (nI c)), some (.int _)]) dX6_pushAll_67 (by decide) rfl ?_
            refine wp_aload_n dX6_pushAll_68 rfl ?_
            refine wp_iload_n dX6_pushAll_69 rfl ?_
            refine wp_iconst (v := 5) dX6_pushAll_70 (by decide) ?_
            refine wp_iload dX6_pushAll_71 rfl ?_
            refine wp_ifN_eq (a := 1) (tgt := 80) dX6_pushAll_73 (by decide) rfl (by omega) (fun h => absurd h (by decide)) (fun _ => ?_)
            refine wp_iconst (v := 0) dX6_pushAll_76 (by decide) ?_
            refine wp_goto (tgt := 81) dX6_pushAll_77 (by decide) ?_
            refine wp_cV3 (z := mX6_setPaddle) (n' := 243) kX6_54 dX6_pushAll_81 (Nat.le_of_ble_eq_true rfl) (Nat.le_of_ble_eq_true rfl) tA_235 (Nat.le_of_ble_eq_true rfl) (Nat.le_of_ble_eq_true rfl) (Nat.le_refl _) (Nat.le_refl _) (s_X6_setPaddle (up_s _ _ _) (k := k) (j := 5) hM (by omega) (by omega) (wp_af0 ?_))
            refine wp_mem (up_up _ _ _ _) ?_
            refine wp_aload_n dX6_pushAll_84 rfl ?_
            refine wp_getQ fX6_7 tA_235 rfl hM.f0 (by decide) (Nat.le_of_ble_eq_true rfl) dX6_pushAll_85 ?_
            refine wp_bipush (v := 6) dX6_pushAll_88 (by decide) ?_
            refine wp_iload_n dX6_pushAll_90 rfl ?_
            refine wp_iadd dX6_pushAll_91 ?_
            refine wp_iload dX6_pushAll_92 rfl ?_
            refine wp_ifN_eq (a := 1) (tgt := 105) dX6_pushAll_94 (by decide) rfl (by omega) (fun h => absurd h (by decide)) (fun _ => ?_)
            refine wp_aload_n dX6_pushAll_97 rfl ?_
            refine wp_iload_n dX6_pushAll_98 rfl ?_
            refine wp_cV1 (z := mX6_levelOf) (n' := 243) kX6_47 dX6_pushAll_99 (Nat.le_of_ble_eq_true rfl) (Nat.le_of_ble_eq_true rfl) tA_235 (Nat.le_of_ble_eq_true rfl) (Nat.le_of_ble_eq_true rfl) (Nat.le_refl _) (Nat.le_refl _) (s_X6_levelOf (up_s _ _ _) (c := c) hM (by omega) (wp_af ?_))
            refine wp_goto (tgt := 110) dX6_pushAll_102 (by decide) ?_
            refine wp_iast (i := (6 + c)) (ix_add rfl rfl) tA_236 (Nat.le_of_ble_eq_true rfl) (by rw [lA_236]; omega) (Nat.le_of_ble_eq_true rfl) dX6_pushAll_110 ?_
            refine wp_mem (u2_up _ _ _ _ _) ?_
            refine wp_iinc (v := nI (k + 1)) (L' := [some (.ref 235), some (.int _), some (.int (nI (k + 1))), some (.int (nI c)), some (.int _)]) dX6_pushAll_111 (by decide) rfl (inc_1 _) rfl ?_
            refine wp_goto (tgt := 4) dX6_pushAll_114 (by decide) ?_
            refine wp_drop [some (.ref 235), some (.int _), some (.int _), none, none] (by repeat constructor) ?_
            refine ih (k + 1) _ _ ?_ ?_ (by omega) (by omega)
            · show _ = pcN sg k + pc1 (paN sg k) k
              rw [← hst, ← hro, pc1, hcel]
              clear hst hro ih hK
              simp [*]
            · show _ = pa1 (paN sg k) k
              rw [← hro, pa1, hcel]
              clear hst hro ih hK
              simp [*, pushS_up, up_eta]
  refine wp_iconst (v := 0) dX6_pushAll_0 (by decide) ?_
  refine wp_istore_n (L' := [some (.ref 235), some (.int _), none, none, none]) dX6_pushAll_1 (by decide) rfl ?_
  refine wp_iconst (v := 0) dX6_pushAll_2 (by decide) ?_
  refine wp_istore_n (L' := [some (.ref 235), some (.int _), some (.int _), none, none]) dX6_pushAll_3 (by decide) rfl ?_
  refine wp_mem (M' := up M 236 sg) (by rw [← hs, up_eta]) ?_
  exact loop (np + 1) 0 _ _ rfl rfl (by omega) (by omega)

/-- a cell's speed behind a step -/
def spdV (sg : Nat → Int32) (c : Nat) : Int32 := bnd (sg (46 + c) + (sg (6 + (if c = 0 then c else c - 1)) + sg (6 + (if c = 39 then c else c + 1)) - 2 * sg (6 + c)) / 4) - bnd (sg (46 + c) + (sg (6 + (if c = 0 then c else c - 1)) + sg (6 + (if c = 39 then c else c + 1)) - 2 * sg (6 + c)) / 4) * sg 1 / 100
def swA (sg : Nat → Int32) (i : Nat) : Nat → Int32 := fun j => if 46 ≤ j ∧ j < 46 + i then spdV sg (j - 46) else sg j
def swB (sg : Nat → Int32) (i : Nat) : Nat → Int32 := fun j => if 6 ≤ j ∧ j < 6 + i then bnd (sg j + spdV sg (j - 6)) else swA sg 40 j
theorem swA_lo {sg : Nat → Int32} {i j : Nat} (h : j < 46 ∨ 46 + i ≤ j) : swA sg i j = sg j := by rw [swA, if_neg (by omega)]
theorem swA_0 (sg : Nat → Int32) : swA sg 0 = sg := by
  funext j
  exact swA_lo (by omega)
theorem swA_s {sg : Nat → Int32} {i : Nat} {v : Int32} (h : v = spdV sg i) : up (swA sg i) (46 + i) v = swA sg (i + 1) := by
  funext j
  by_cases hj : j = 46 + i
  · subst hj
    rw [up_s, swA, if_pos (by omega), h, Nat.add_sub_cancel_left]
  · rw [up_n _ _ hj]
    by_cases h2 : 46 ≤ j ∧ j < 46 + i
    · rw [swA, swA, if_pos h2, if_pos (by omega)]
    · rw [swA, swA, if_neg h2, if_neg (by omega)]
theorem swB_0 (sg : Nat → Int32) : swB sg 0 = swA sg 40 := by
  funext j
  rw [swB, if_neg (by omega)]
theorem swB_s {sg : Nat → Int32} {i : Nat} {v : Int32} (h : v = bnd (sg (6 + i) + spdV sg i)) : up (swB sg i) (6 + i) v = swB sg (i + 1) := by
  funext j
  by_cases hj : j = 6 + i
  · subst hj
    rw [up_s, swB, if_pos (by omega), h, Nat.add_sub_cancel_left]
  · rw [up_n _ _ hj]
    by_cases h2 : 6 ≤ j ∧ j < 6 + i
    · rw [swB, swB, if_pos h2, if_pos (by omega)]
    · rw [swB, swB, if_neg h2, if_neg (by omega)]
set_option maxRecDepth 100000 in
set_option maxHeartbeats 4000000 in
theorem s_X6_swing {γ : Gm} {l : Launch} {M : Mm} {R : Rm} {K : KT} {sg : Nat → Int32} (hs : M 236 = sg) (hM : RM R) (hK : K none 243 (up M 236 (swB sg 40)) R) : CL γ l mX6_swing 1 243 243 [.ref 235] M R K := by
  show WP γ l mX6_swing 1 243 243 0 [some (.ref 235), none, none, none, none] [] 243 M R K
  have lB : ∀ (f c : Nat) (ro : Nat → Int32), ro = swB sg c → 40 - c < f → c ≤ 40 → WP γ l mX6_swing 1 243 243 102 [some (.ref 235), some (.int (nI c)), none, none, none] [] 243 (up M 236 ro) R K := by
    intro f
    induction f with
    | zero => intro c ro _ h; omega
    | succ f ih =>
      intro c ro hro hf hc
      refine wp_iload_n dX6_swing_102 rfl ?_
      refine wp_bipush (v := 40) dX6_swing_103 (by decide) ?_
      refine wp_icN_ge (a := c) (b := 40) (tgt := 141) dX6_swing_105 (by decide) rfl rfl (by omega) (by omega) (fun h105 => ?_) (fun h105 => ?_)
      · exact wp_vret dX6_swing_141 rfl rfl (by rw [hro, show c = 40 by omega]; exact hK)
      · refine wp_aload_n dX6_swing_108 rfl ?_
        refine wp_getQ fX6_7 tA_235 rfl hM.f0 (by decide) (Nat.le_of_ble_eq_true rfl) dX6_swing_109 ?_
        refine wp_bipush (v := 6) dX6_swing_112 (by decide) ?_
        refine wp_iload_n dX6_swing_114 rfl ?_
        refine wp_iadd dX6_swing_115 ?_
        refine wp_aload_n dX6_swing_116 rfl ?_
        refine wp_iload_n dX6_swing_117 rfl ?_
        refine wp_cV1 (z := mX6_levelOf) (n' := 243) kX6_47 dX6_swing_118 (Nat.le_of_ble_eq_true rfl) (Nat.le_of_ble_eq_true rfl) tA_235 (Nat.le_of_ble_eq_true rfl) (Nat.le_of_ble_eq_true rfl) (Nat.le_refl _) (Nat.le_refl _) (s_X6_levelOf (up_s _ _ _) (c := c) hM (by omega) (wp_af ?_))
        refine wp_aload_n dX6_swing_121 rfl ?_
        refine wp_getQ fX6_7 tA_235 rfl hM.f0 (by decide) (Nat.le_of_ble_eq_true rfl) dX6_swing_122 ?_
        refine wp_bipush (v := 46) dX6_swing_125 (by decide) ?_
        refine wp_iload_n dX6_swing_127 rfl ?_
        refine wp_iadd dX6_swing_128 ?_
        refine wp_iadn (i := (46 + c)) (ix_add rfl rfl) tA_236 (Nat.le_of_ble_eq_true rfl) (by rw [lA_236]; omega) (Nat.le_of_ble_eq_true rfl) dX6_swing_129 (congrFun (up_s _ _ _) _) ?_
        refine wp_iadd dX6_swing_130 ?_
        refine wp_cS1 (z := mX6_bounded) (n' := 243) kX6_61 dX6_swing_131 (Nat.le_of_ble_eq_true rfl) (Nat.le_of_ble_eq_true rfl) (Nat.le_of_ble_eq_true rfl) (Nat.le_refl _) (Nat.le_refl _) (s_X6_bounded (wp_af ?_))
        refine wp_iast (i := (6 + c)) (ix_add rfl rfl) tA_236 (Nat.le_of_ble_eq_true rfl) (by rw [lA_236]; omega) (Nat.le_of_ble_eq_true rfl) dX6_swing_134 ?_
        refine wp_mem (u2_up _ _ _ _ _) ?_
        refine wp_iinc (v := nI (c + 1)) (L' := [some (.ref 235), some (.int (nI (c + 1))), none, none, none]) dX6_swing_135 (by decide) rfl (inc_1 _) rfl ?_
        refine wp_goto (tgt := 102) dX6_swing_138 (by decide) ?_
        refine ih (c + 1) _ ?_ (by omega) (by omega)
        rw [← swB_s (i := c) rfl, ← hro]
        congr 2
        rw [hro, swB, if_neg (by omega), swA_lo (by omega), swB, if_neg (by omega), swA, if_pos (by omega), Nat.add_sub_cancel_left]
  have lA : ∀ (f c : Nat) (ro : Nat → Int32), ro = swA sg c → 40 - c < f → c ≤ 40 → WP γ l mX6_swing 1 243 243 2 [some (.ref 235), some (.int (nI c)), none, none, none] [] 243 (up M 236 ro) R K := by
    intro f
    induction f with
    | zero => intro c ro _ h; omega
    | succ f ih =>
      intro c ro hro hf hc
      refine wp_iload_n dX6_swing_2 rfl ?_
      refine wp_bipush (v := 40) dX6_swing_3 (by decide) ?_
      refine wp_icN_ge (a := c) (b := 40) (tgt := 100) dX6_swing_5 (by decide) rfl rfl (by omega) (by omega) (fun h5 => ?_) (fun h5 => ?_)
      · refine wp_iconst (v := 0) dX6_swing_100 (by decide) ?_
        refine wp_istore_n (L' := [some (.ref 235), some (.int _), none, none, none]) dX6_swing_101 (by decide) rfl ?_
        refine wp_drop [some (.ref 235), some (.int _), none, none, none] (by repeat constructor) ?_
        exact lB 41 0 _ (by rw [swB_0, hro, show c = 40 by omega]) (by omega) (by omega)
      · refine wp_aload_n dX6_swing_8 rfl ?_
        refine wp_iload_n dX6_swing_9 rfl ?_
        refine wp_ifN_ne (a := c) (tgt := 17) dX6_swing_10 (by decide) rfl (by omega) (fun h10 => ?_) (fun h10 => ?_)
        · refine wp_iload_n dX6_swing_17 rfl ?_
          refine wp_iconst (v := 1) dX6_swing_18 (by decide) ?_
          refine wp_isub dX6_swing_19 ?_
          refine wp_top (z := nI (c - 1)) (ix_sub (a := c) (b := 1) rfl rfl (by omega)) ?_
          refine wp_cV1 (z := mX6_levelOf) (n' := 243) kX6_47 dX6_swing_20 (Nat.le_of_ble_eq_true rfl) (Nat.le_of_ble_eq_true rfl) tA_235 (Nat.le_of_ble_eq_true rfl) (Nat.le_of_ble_eq_true rfl) (Nat.le_refl _) (Nat.le_refl _) (s_X6_levelOf (up_s _ _ _) (c := (c - 1)) hM (by omega) (wp_af ?_))
          refine wp_topv (fun lf e_lf => ?_)
          refine wp_istore_n (L' := [some (.ref 235), some (.int (nI c)), some (.int lf), none, none]) dX6_swing_23 (by decide) rfl ?_
          refine wp_aload_n dX6_swing_24 rfl ?_
          refine wp_iload_n dX6_swing_25 rfl ?_
          refine wp_bipush (v := 39) dX6_swing_26 (by decide) ?_
          refine wp_icN_ne (a := c) (b := 39) (tgt := 35) dX6_swing_28 (by decide) rfl rfl (by omega) (by omega) (fun h28 => ?_) (fun h28 => ?_)
          · refine wp_iload_n dX6_swing_35 rfl ?_
            refine wp_iconst (v := 1) dX6_swing_36 (by decide) ?_
            refine wp_iadd dX6_swing_37 ?_
            refine wp_top (z := nI (c + 1)) (ix_add rfl rfl) ?_
            refine wp_cV1 (z := mX6_levelOf) (n' := 243) kX6_47 dX6_swing_38 (Nat.le_of_ble_eq_true rfl) (Nat.le_of_ble_eq_true rfl) tA_235 (Nat.le_of_ble_eq_true rfl) (Nat.le_of_ble_eq_true rfl) (Nat.le_refl _) (Nat.le_refl _) (s_X6_levelOf (up_s _ _ _) (c := (c + 1)) hM (by omega) (wp_af ?_))
            refine wp_topv (fun rg e_rg => ?_)
            refine wp_istore_n (L' := [some (.ref 235), some (.int (nI c)), some (.int lf), some (.int rg), none]) dX6_swing_41 (by decide) rfl ?_
            refine wp_aload_n dX6_swing_42 rfl ?_
            refine wp_getQ fX6_7 tA_235 rfl hM.f0 (by decide) (Nat.le_of_ble_eq_true rfl) dX6_swing_43 ?_
            refine wp_bipush (v := 46) dX6_swing_46 (by decide) ?_
            refine wp_iload_n dX6_swing_48 rfl ?_
            refine wp_iadd dX6_swing_49 ?_
            refine wp_iadn (i := (46 + c)) (ix_add rfl rfl) tA_236 (Nat.le_of_ble_eq_true rfl) (by rw [lA_236]; omega) (Nat.le_of_ble_eq_true rfl) dX6_swing_50 (congrFun (up_s _ _ _) _) ?_
            refine wp_iload_n dX6_swing_51 rfl ?_
            refine wp_iload_n dX6_swing_52 rfl ?_
            refine wp_iadd dX6_swing_53 ?_
            refine wp_iconst (v := 2) dX6_swing_54 (by decide) ?_
            refine wp_aload_n dX6_swing_55 rfl ?_
            refine wp_iload_n dX6_swing_56 rfl ?_
            refine wp_cV1 (z := mX6_levelOf) (n' := 243) kX6_47 dX6_swing_57 (Nat.le_of_ble_eq_true rfl) (Nat.le_of_ble_eq_true rfl) tA_235 (Nat.le_of_ble_eq_true rfl) (Nat.le_of_ble_eq_true rfl) (Nat.le_refl _) (Nat.le_refl _) (s_X6_levelOf (up_s _ _ _) (c := c) hM (by omega) (wp_af ?_))
            refine wp_imul dX6_swing_60 ?_
            refine wp_isub dX6_swing_61 ?_
            refine wp_iconst (v := 4) dX6_swing_62 (by decide) ?_
            refine wp_idiv dX6_swing_63 (by decide) ?_
            refine wp_iadd dX6_swing_64 ?_
            refine wp_cS1 (z := mX6_bounded) (n' := 243) kX6_61 dX6_swing_65 (Nat.le_of_ble_eq_true rfl) (Nat.le_of_ble_eq_true rfl) (Nat.le_of_ble_eq_true rfl) (Nat.le_refl _) (Nat.le_refl _) (s_X6_bounded (wp_af ?_))
            refine wp_topv (fun sp e_sp => ?_)
            refine wp_istore (L' := [some (.ref 235), some (.int (nI c)), some (.int lf), some (.int rg), some (.int sp)]) dX6_swing_68 (by decide) rfl ?_
            refine wp_aload_n dX6_swing_70 rfl ?_
            refine wp_getQ fX6_7 tA_235 rfl hM.f0 (by decide) (Nat.le_of_ble_eq_true rfl) dX6_swing_71 ?_
            refine wp_bipush (v := 46) dX6_swing_74 (by decide) ?_
            refine wp_iload_n dX6_swing_76 rfl ?_
            refine wp_iadd dX6_swing_77 ?_
            refine wp_iload dX6_swing_78 rfl ?_
            refine wp_iload dX6_swing_80 rfl ?_
            refine wp_aload_n dX6_swing_82 rfl ?_
            refine wp_getQ fX6_7 tA_235 rfl hM.f0 (by decide) (Nat.le_of_ble_eq_true rfl) dX6_swing_83 ?_
            refine wp_iconst (v := 1) dX6_swing_86 (by decide) ?_
            refine wp_iadn (i := 1) rfl tA_236 (Nat.le_of_ble_eq_true rfl) (by rw [lA_236]; omega) (Nat.le_of_ble_eq_true rfl) dX6_swing_87 (congrFun (up_s _ _ _) _) ?_
            refine wp_imul dX6_swing_88 ?_
            refine wp_bipush (v := 100) dX6_swing_89 (by decide) ?_
            refine wp_idiv dX6_swing_91 (by decide) ?_
            refine wp_isub dX6_swing_92 ?_
            refine wp_iast (i := (46 + c)) (ix_add rfl rfl) tA_236 (Nat.le_of_ble_eq_true rfl) (by rw [lA_236]; omega) (Nat.le_of_ble_eq_true rfl) dX6_swing_93 ?_
            refine wp_mem (u2_up _ _ _ _ _) ?_
            refine wp_iinc (v := nI (c + 1)) (L' := [some (.ref 235), some (.int (nI (c + 1))), some (.int lf), some (.int rg), some (.int sp)]) dX6_swing_94 (by decide) rfl (inc_1 _) rfl ?_
            refine wp_goto (tgt := 2) dX6_swing_97 (by decide) ?_
            refine wp_drop [some (.ref 235), some (.int _), none, none, none] (by repeat constructor) ?_
            refine ih (c + 1) _ ?_ (by omega) (by omega)
            rw [← swA_s (i := c) rfl, ← hro]
            congr 1
            rw [e_sp, e_lf, e_rg, hro, spdV]
            simp (disch := omega) only [swA_lo, if_pos, if_neg]
          · refine wp_iload_n dX6_swing_31 rfl ?_
            refine wp_goto (tgt := 38) dX6_swing_32 (by decide) ?_
            refine wp_cV1 (z := mX6_levelOf) (n' := 243) kX6_47 dX6_swing_38 (Nat.le_of_ble_eq_true rfl) (Nat.le_of_ble_eq_true rfl) tA_235 (Nat.le_of_ble_eq_true rfl) (Nat.le_of_ble_eq_true rfl) (Nat.le_refl _) (Nat.le_refl _) (s_X6_levelOf (up_s _ _ _) (c := c) hM (by omega) (wp_af ?_))
            refine wp_topv (fun rg e_rg => ?_)
            refine wp_istore_n (L' := [some (.ref 235), some (.int (nI c)), some (.int lf), some (.int rg), none]) dX6_swing_41 (by decide) rfl ?_
            refine wp_aload_n dX6_swing_42 rfl ?_
            refine wp_getQ fX6_7 tA_235 rfl hM.f0 (by decide) (Nat.le_of_ble_eq_true rfl) dX6_swing_43 ?_
            refine wp_bipush (v := 46) dX6_swing_46 (by decide) ?_
            refine wp_iload_n dX6_swing_48 rfl ?_
            refine wp_iadd dX6_swing_49 ?_
            refine wp_iadn (i := (46 + c)) (ix_add rfl rfl) tA_236 (Nat.le_of_ble_eq_true rfl) (by rw [lA_236]; omega) (Nat.le_of_ble_eq_true rfl) dX6_swing_50 (congrFun (up_s _ _ _) _) ?_
            refine wp_iload_n dX6_swing_51 rfl ?_
            refine wp_iload_n dX6_swing_52 rfl ?_
            refine wp_iadd dX6_swing_53 ?_
            refine wp_iconst (v := 2) dX6_swing_54 (by decide) ?_
            refine wp_aload_n dX6_swing_55 rfl ?_
            refine wp_iload_n dX6_swing_56 rfl ?_
            refine wp_cV1 (z := mX6_levelOf) (n' := 243) kX6_47 dX6_swing_57 (Nat.le_of_ble_eq_true rfl) (Nat.le_of_ble_eq_true rfl) tA_235 (Nat.le_of_ble_eq_true rfl) (Nat.le_of_ble_eq_true rfl) (Nat.le_refl _) (Nat.le_refl _) (s_X6_levelOf (up_s _ _ _) (c := c) hM (by omega) (wp_af ?_))
            refine wp_imul dX6_swing_60 ?_
            refine wp_isub dX6_swing_61 ?_
            refine wp_iconst (v := 4) dX6_swing_62 (by decide) ?_
            refine wp_idiv dX6_swing_63 (by decide) ?_
            refine wp_iadd dX6_swing_64 ?_
            refine wp_cS1 (z := mX6_bounded) (n' := 243) kX6_61 dX6_swing_65 (Nat.le_of_ble_eq_true rfl) (Nat.le_of_ble_eq_true rfl) (Nat.le_of_ble_eq_true rfl) (Nat.le_refl _) (Nat.le_refl _) (s_X6_bounded (wp_af ?_))
            refine wp_topv (fun sp e_sp => ?_)
            refine wp_istore (L' := [some (.ref 235), some (.int (nI c)), some (.int lf), some (.int rg), some (.int sp)]) dX6_swing_68 (by decide) rfl ?_
            refine wp_aload_n dX6_swing_70 rfl ?_
            refine wp_getQ fX6_7 tA_235 rfl hM.f0 (by decide) (Nat.le_of_ble_eq_true rfl) dX6_swing_71 ?_
            refine wp_bipush (v := 46) dX6_swing_74 (by decide) ?_
            refine wp_iload_n dX6_swing_76 rfl ?_
            refine wp_iadd dX6_swing_77 ?_
            refine wp_iload dX6_swing_78 rfl ?_
            refine wp_iload dX6_swing_80 rfl ?_
            refine wp_aload_n dX6_swing_82 rfl ?_
            refine wp_getQ fX6_7 tA_235 rfl hM.f0 (by decide) (Nat.le_of_ble_eq_true rfl) dX6_swing_83 ?_
            refine wp_iconst (v := 1) dX6_swing_86 (by decide) ?_
            refine wp_iadn (i := 1) rfl tA_236 (Nat.le_of_ble_eq_true rfl) (by rw [lA_236]; omega) (Nat.le_of_ble_eq_true rfl) dX6_swing_87 (congrFun (up_s _ _ _) _) ?_
            refine wp_imul dX6_swing_88 ?_
            refine wp_bipush (v := 100) dX6_swing_89 (by decide) ?_
            refine wp_idiv dX6_swing_91 (by decide) ?_
            refine wp_isub dX6_swing_92 ?_
            refine wp_iast (i := (46 + c)) (ix_add rfl rfl) tA_236 (Nat.le_of_ble_eq_true rfl) (by rw [lA_236]; omega) (Nat.le_of_ble_eq_true rfl) dX6_swing_93 ?_
            refine wp_mem (u2_up _ _ _ _ _) ?_
            refine wp_iinc (v := nI (c + 1)) (L' := [some (.ref 235), some (.int (nI (c + 1))), some (.int lf), some (.int rg), some (.int sp)]) dX6_swing_94 (by decide) rfl (inc_1 _) rfl ?_
            refine wp_goto (tgt := 2) dX6_swing_97 (by decide) ?_
            refine wp_drop [some (.ref 235), some (.int _), none, none, none] (by repeat constructor) ?_
            refine ih (c + 1) _ ?_ (by omega) (by omega)
            rw [← swA_s (i := c) rfl, ← hro]
            congr 1
            rw [e_sp, e_lf, e_rg, hro, spdV]
            simp (disch := omega) only [swA_lo, if_pos, if_neg]
        · refine wp_iload_n dX6_swing_13 rfl ?_
          refine wp_goto (tgt := 20) dX6_swing_14 (by decide) ?_
          refine wp_cV1 (z := mX6_levelOf) (n' := 243) kX6_47 dX6_swing_20 (Nat.le_of_ble_eq_true rfl) (Nat.le_of_ble_eq_true rfl) tA_235 (Nat.le_of_ble_eq_true rfl) (Nat.le_of_ble_eq_true rfl) (Nat.le_refl _) (Nat.le_refl _) (s_X6_levelOf (up_s _ _ _) (c := c) hM (by omega) (wp_af ?_))
          refine wp_topv (fun lf e_lf => ?_)
          refine wp_istore_n (L' := [some (.ref 235), some (.int (nI c)), some (.int lf), none, none]) dX6_swing_23 (by decide) rfl ?_
          refine wp_aload_n dX6_swing_24 rfl ?_
          refine wp_iload_n dX6_swing_25 rfl ?_
          refine wp_bipush (v := 39) dX6_swing_26 (by decide) ?_
          refine wp_icN_ne (a := c) (b := 39) (tgt := 35) dX6_swing_28 (by decide) rfl rfl (by omega) (by omega) (fun h28 => ?_) (fun h28 => ?_)
          · refine wp_iload_n dX6_swing_35 rfl ?_
            refine wp_iconst (v := 1) dX6_swing_36 (by decide) ?_
            refine wp_iadd dX6_swing_37 ?_
            refine wp_top (z := nI (c + 1)) (ix_add rfl rfl) ?_
            refine wp_cV1 (z := mX6_levelOf) (n' := 243) kX6_47 dX6_swing_38 (Nat.le_of_ble_eq_true rfl) (Nat.le_of_ble_eq_true rfl) tA_235 (Nat.le_of_ble_eq_true rfl) (Nat.le_of_ble_eq_true rfl) (Nat.le_refl _) (Nat.le_refl _) (s_X6_levelOf (up_s _ _ _) (c := (c + 1)) hM (by omega) (wp_af ?_))
            refine wp_topv (fun rg e_rg => ?_)
            refine wp_istore_n (L' := [some (.ref 235), some (.int (nI c)), some (.int lf), some (.int rg), none]) dX6_swing_41 (by decide) rfl ?_
            refine wp_aload_n dX6_swing_42 rfl ?_
            refine wp_getQ fX6_7 tA_235 rfl hM.f0 (by decide) (Nat.le_of_ble_eq_true rfl) dX6_swing_43 ?_
            refine wp_bipush (v := 46) dX6_swing_46 (by decide) ?_
            refine wp_iload_n dX6_swing_48 rfl ?_
            refine wp_iadd dX6_swing_49 ?_
            refine wp_iadn (i := (46 + c)) (ix_add rfl rfl) tA_236 (Nat.le_of_ble_eq_true rfl) (by rw [lA_236]; omega) (Nat.le_of_ble_eq_true rfl) dX6_swing_50 (congrFun (up_s _ _ _) _) ?_
            refine wp_iload_n dX6_swing_51 rfl ?_
            refine wp_iload_n dX6_swing_52 rfl ?_
            refine wp_iadd dX6_swing_53 ?_
            refine wp_iconst (v := 2) dX6_swing_54 (by decide) ?_
            refine wp_aload_n dX6_swing_55 rfl ?_
            refine wp_iload_n dX6_swing_56 rfl ?_
            refine wp_cV1 (z := mX6_levelOf) (n' := 243) kX6_47 dX6_swing_57 (Nat.le_of_ble_eq_true rfl) (Nat.le_of_ble_eq_true rfl) tA_235 (Nat.le_of_ble_eq_true rfl) (Nat.le_of_ble_eq_true rfl) (Nat.le_refl _) (Nat.le_refl _) (s_X6_levelOf (up_s _ _ _) (c := c) hM (by omega) (wp_af ?_))
            refine wp_imul dX6_swing_60 ?_
            refine wp_isub dX6_swing_61 ?_
            refine wp_iconst (v := 4) dX6_swing_62 (by decide) ?_
            refine wp_idiv dX6_swing_63 (by decide) ?_
            refine wp_iadd dX6_swing_64 ?_
            refine wp_cS1 (z := mX6_bounded) (n' := 243) kX6_61 dX6_swing_65 (Nat.le_of_ble_eq_true rfl) (Nat.le_of_ble_eq_true rfl) (Nat.le_of_ble_eq_true rfl) (Nat.le_refl _) (Nat.le_refl _) (s_X6_bounded (wp_af ?_))
            refine wp_topv (fun sp e_sp => ?_)
            refine wp_istore (L' := [some (.ref 235), some (.int (nI c)), some (.int lf), some (.int rg), some (.int sp)]) dX6_swing_68 (by decide) rfl ?_
            refine wp_aload_n dX6_swing_70 rfl ?_
            refine wp_getQ fX6_7 tA_235 rfl hM.f0 (by decide) (Nat.le_of_ble_eq_true rfl) dX6_swing_71 ?_
            refine wp_bipush (v := 46) dX6_swing_74 (by decide) ?_
            refine wp_iload_n dX6_swing_76 rfl ?_
            refine wp_iadd dX6_swing_77 ?_
            refine wp_iload dX6_swing_78 rfl ?_
            refine wp_iload dX6_swing_80 rfl ?_
            refine wp_aload_n dX6_swing_82 rfl ?_
            refine wp_getQ fX6_7 tA_235 rfl hM.f0 (by decide) (Nat.le_of_ble_eq_true rfl) dX6_swing_83 ?_
            refine wp_iconst (v := 1) dX6_swing_86 (by decide) ?_
            refine wp_iadn (i := 1) rfl tA_236 (Nat.le_of_ble_eq_true rfl) (by rw [lA_236]; omega) (Nat.le_of_ble_eq_true rfl) dX6_swing_87 (congrFun (up_s _ _ _) _) ?_
            refine wp_imul dX6_swing_88 ?_
            refine wp_bipush (v := 100) dX6_swing_89 (by decide) ?_
            refine wp_idiv dX6_swing_91 (by decide) ?_
            refine wp_isub dX6_swing_92 ?_
            refine wp_iast (i := (46 + c)) (ix_add rfl rfl) tA_236 (Nat.le_of_ble_eq_true rfl) (by rw [lA_236]; omega) (Nat.le_of_ble_eq_true rfl) dX6_swing_93 ?_
            refine wp_mem (u2_up _ _ _ _ _) ?_
            refine wp_iinc (v := nI (c + 1)) (L' := [some (.ref 235), some (.int (nI (c + 1))), some (.int lf), some (.int rg), some (.int sp)]) dX6_swing_94 (by decide) rfl (inc_1 _) rfl ?_
            refine wp_goto (tgt := 2) dX6_swing_97 (by decide) ?_
            refine wp_drop [some (.ref 235), some (.int _), none, none, none] (by repeat constructor) ?_
            refine ih (c + 1) _ ?_ (by omega) (by omega)
            rw [← swA_s (i := c) rfl, ← hro]
            congr 1
            rw [e_sp, e_lf, e_rg, hro, spdV]
            simp (disch := omega) only [swA_lo, if_pos, if_neg]
          · refine wp_iload_n dX6_swing_31 rfl ?_
            refine wp_goto (tgt := 38) dX6_swing_32 (by decide) ?_
            refine wp_cV1 (z := mX6_levelOf) (n' := 243) kX6_47 dX6_swing_38 (Nat.le_of_ble_eq_true rfl) (Nat.le_of_ble_eq_true rfl) tA_235 (Nat.le_of_ble_eq_true rfl) (Nat.le_of_ble_eq_true rfl) (Nat.le_refl _) (Nat.le_refl _) (s_X6_levelOf (up_s _ _ _) (c := c) hM (by omega) (wp_af ?_))
            refine wp_topv (fun rg e_rg => ?_)
            refine wp_istore_n (L' := [some (.ref 235), some (.int (nI c)), some (.int lf), some (.int rg), none]) dX6_swing_41 (by decide) rfl ?_
            refine wp_aload_n dX6_swing_42 rfl ?_
            refine wp_getQ fX6_7 tA_235 rfl hM.f0 (by decide) (Nat.le_of_ble_eq_true rfl) dX6_swing_43 ?_
            refine wp_bipush (v := 46) dX6_swing_46 (by decide) ?_
            refine wp_iload_n dX6_swing_48 rfl ?_
            refine wp_iadd dX6_swing_49 ?_
            refine wp_iadn (i := (46 + c)) (ix_add rfl rfl) tA_236 (Nat.le_of_ble_eq_true rfl) (by rw [lA_236]; omega) (Nat.le_of_ble_eq_true rfl) dX6_swing_50 (congrFun (up_s _ _ _) _) ?_
            refine wp_iload_n dX6_swing_51 rfl ?_
            refine wp_iload_n dX6_swing_52 rfl ?_
            refine wp_iadd dX6_swing_53 ?_
            refine wp_iconst (v := 2) dX6_swing_54 (by decide) ?_
            refine wp_aload_n dX6_swing_55 rfl ?_
            refine wp_iload_n dX6_swing_56 rfl ?_
            refine wp_cV1 (z := mX6_levelOf) (n' := 243) kX6_47 dX6_swing_57 (Nat.le_of_ble_eq_true rfl) (Nat.le_of_ble_eq_true rfl) tA_235 (Nat.le_of_ble_eq_true rfl) (Nat.le_of_ble_eq_true rfl) (Nat.le_refl _) (Nat.le_refl _) (s_X6_levelOf (up_s _ _ _) (c := c) hM (by omega) (wp_af ?_))
            refine wp_imul dX6_swing_60 ?_
            refine wp_isub dX6_swing_61 ?_
            refine wp_iconst (v := 4) dX6_swing_62 (by decide) ?_
            refine wp_idiv dX6_swing_63 (by decide) ?_
            refine wp_iadd dX6_swing_64 ?_
            refine wp_cS1 (z := mX6_bounded) (n' := 243) kX6_61 dX6_swing_65 (Nat.le_of_ble_eq_true rfl) (Nat.le_of_ble_eq_true rfl) (Nat.le_of_ble_eq_true rfl) (Nat.le_refl _) (Nat.le_refl _) (s_X6_bounded (wp_af ?_))
            refine wp_topv (fun sp e_sp => ?_)
            refine wp_istore (L' := [some (.ref 235), some (.int (nI c)), some (.int lf), some (.int rg), some (.int sp)]) dX6_swing_68 (by decide) rfl ?_
            refine wp_aload_n dX6_swing_70 rfl ?_
            refine wp_getQ fX6_7 tA_235 rfl hM.f0 (by decide) (Nat.le_of_ble_eq_true rfl) dX6_swing_71 ?_
            refine wp_bipush (v := 46) dX6_swing_74 (by decide) ?_
            refine wp_iload_n dX6_swing_76 rfl ?_
            refine wp_iadd dX6_swing_77 ?_
            refine wp_iload dX6_swing_78 rfl ?_
            refine wp_iload dX6_swing_80 rfl ?_
            refine wp_aload_n dX6_swing_82 rfl ?_
            refine wp_getQ fX6_7 tA_235 rfl hM.f0 (by decide) (Nat.le_of_ble_eq_true rfl) dX6_swing_83 ?_
            refine wp_iconst (v := 1) dX6_swing_86 (by decide) ?_
            refine wp_iadn (i := 1) rfl tA_236 (Nat.le_of_ble_eq_true rfl) (by rw [lA_236]; omega) (Nat.le_of_ble_eq_true rfl) dX6_swing_87 (congrFun (up_s _ _ _) _) ?_
            refine wp_imul dX6_swing_88 ?_
            refine wp_bipush (v := 100) dX6_swing_89 (by decide) ?_
            refine wp_idiv dX6_swing_91 (by decide) ?_
            refine wp_isub dX6_swing_92 ?_
            refine wp_iast (i := (46 + c)) (ix_add rfl rfl) tA_236 (Nat.le_of_ble_eq_true rfl) (by rw [lA_236]; omega) (Nat.le_of_ble_eq_true rfl) dX6_swing_93 ?_
            refine wp_mem (u2_up _ _ _ _ _) ?_
            refine wp_iinc (v := nI (c + 1)) (L' := [some (.ref 235), some (.int (nI (c + 1))), some (.int lf), some (.int rg), some (.int sp)]) dX6_swing_94 (by decide) rfl (inc_1 _) rfl ?_
            refine wp_goto (tgt := 2) dX6_swing_97 (by decide) ?_
            refine wp_drop [some (.ref 235), some (.int _), none, none, none] (by repeat constructor) ?_
            refine ih (c + 1) _ ?_ (by omega) (by omega)
            rw [← swA_s (i := c) rfl, ← hro]
            congr 1
            rw [e_sp, e_lf, e_rg, hro, spdV]
            simp (disch := omega) only [swA_lo, if_pos, if_neg]
  refine wp_iconst (v := 0) dX6_swing_0 (by decide) ?_
  refine wp_istore_n (L' := [some (.ref 235), some (.int _), none, none, none]) dX6_swing_1 (by decide) rfl ?_
  refine wp_mem (M' := up M 236 sg) (by rw [← hs, up_eta]) ?_
  exact lA 41 0 _ (swA_0 sg).symm (by omega) (by omega)

def bcV (sg : Nat → Int32) (c j : Nat) : Int32 := sg j - sg j * (sg 0 * nI (c - 35)) / 400
def bcN (sg : Nat → Int32) (i : Nat) : Nat → Int32 := fun j => if 42 ≤ j ∧ j < 6 + i then bcV sg (j - 6) j else if 82 ≤ j ∧ j < 46 + i then bcV sg (j - 46) j else sg j
theorem bcN_lo {sg : Nat → Int32} {i j : Nat} (h1 : j < 42 ∨ 6 + i ≤ j) (h2 : j < 82 ∨ 46 + i ≤ j) : bcN sg i j = sg j := by rw [bcN, if_neg (by omega), if_neg (by omega)]
theorem bcN_0 (sg : Nat → Int32) : bcN sg 36 = sg := by
  funext j
  exact bcN_lo (by omega) (by omega)
theorem bcN_s {sg : Nat → Int32} {i : Nat} {v w : Int32} (h36 : 36 ≤ i) (h40 : i < 40) (hv : v = bcV sg i (6 + i)) (hw : w = bcV sg i (46 + i)) : up (up (bcN sg i) (6 + i) v) (46 + i) w = bcN sg (i + 1) := by
  funext j
  by_cases hj : j = 46 + i
  · subst hj
    rw [up_s, bcN, if_neg (by omega), if_pos (by omega), hw, Nat.add_sub_cancel_left]
  · rw [up_n _ _ hj]
    by_cases hj2 : j = 6 + i
    · subst hj2
      rw [up_s, bcN, if_pos (by omega), hv, Nat.add_sub_cancel_left]
    · rw [up_n _ _ hj2]
      by_cases h2 : 42 ≤ j ∧ j < 6 + i
      · rw [bcN, bcN, if_pos h2, if_pos (by omega)]
      · rw [bcN, bcN, if_neg h2, if_neg (c := 42 ≤ j ∧ j < 6 + (i + 1)) (by omega)]
        by_cases h3 : 82 ≤ j ∧ j < 46 + i
        · rw [if_pos h3, if_pos (by omega)]
        · rw [if_neg h3, if_neg (by omega)]
set_option maxRecDepth 100000 in
set_option maxHeartbeats 4000000 in
theorem s_X6_beach {γ : Gm} {l : Launch} {M : Mm} {R : Rm} {K : KT} {sg : Nat → Int32} (hs : M 236 = sg) (hM : RM R) (hK : K none 243 (up M 236 (bcN sg 40)) R) : CL γ l mX6_beach 1 243 243 [.ref 235] M R K := by
  show WP γ l mX6_beach 1 243 243 0 [some (.ref 235), none, none] [] 243 M R K
  have loop : ∀ (f c : Nat) (ro : Nat → Int32), ro = bcN sg c → 40 - c < f → 36 ≤ c → c ≤ 40 → WP γ l mX6_beach 1 243 243 3 [some (.ref 235), some (.int (nI c)), none] [] 243 (up M 236 ro) R K := by
    intro f
    induction f with
    | zero => intro c ro _ h; omega
    | succ f ih =>
      intro c ro hro hf h36 hc
      refine wp_iload_n dX6_beach_3 rfl ?_
      refine wp_bipush (v := 40) dX6_beach_4 (by decide) ?_
      refine wp_icN_ge (a := c) (b := 40) (tgt := 77) dX6_beach_6 (by decide) rfl rfl (by omega) (by omega) (fun h6 => ?_) (fun h6 => ?_)
      · exact wp_vret dX6_beach_77 rfl rfl (by rw [hro, show c = 40 by omega]; exact hK)
      · refine wp_aload_n dX6_beach_9 rfl ?_
        refine wp_getQ fX6_7 tA_235 rfl hM.f0 (by decide) (Nat.le_of_ble_eq_true rfl) dX6_beach_10 ?_
        refine wp_iconst (v := 0) dX6_beach_13 (by decide) ?_
        refine wp_iadn (i := 0) rfl tA_236 (Nat.le_of_ble_eq_true rfl) (by rw [lA_236]; omega) (Nat.le_of_ble_eq_true rfl) dX6_beach_14 (congrFun (up_s _ _ _) _) ?_
        refine wp_iload_n dX6_beach_15 rfl ?_
        refine wp_bipush (v := 35) dX6_beach_16 (by decide) ?_
        refine wp_isub dX6_beach_18 ?_
        refine wp_top (ix_sub (a := c) (b := 35) rfl rfl (by omega)) ?_
        refine wp_imul dX6_beach_19 ?_
        refine wp_topv (fun by_ e_by_ => ?_)
        refine wp_istore_n (L' := [some (.ref 235), some (.int (nI c)), some (.int by_)]) dX6_beach_20 (by decide) rfl ?_
        refine wp_aload_n dX6_beach_21 rfl ?_
        refine wp_getQ fX6_7 tA_235 rfl hM.f0 (by decide) (Nat.le_of_ble_eq_true rfl) dX6_beach_22 ?_
        refine wp_bipush (v := 6) dX6_beach_25 (by decide) ?_
        refine wp_iload_n dX6_beach_27 rfl ?_
        refine wp_iadd dX6_beach_28 ?_
        refine wp_dup2 dX6_beach_29 rfl rfl ?_
        refine wp_iadn (i := (6 + c)) (ix_add rfl rfl) tA_236 (Nat.le_of_ble_eq_true rfl) (by rw [lA_236]; omega) (Nat.le_of_ble_eq_true rfl) dX6_beach_30 (congrFun (up_s _ _ _) _) ?_
        refine wp_aload_n dX6_beach_31 rfl ?_
        refine wp_iload_n dX6_beach_32 rfl ?_
        refine wp_cV1 (z := mX6_levelOf) (n' := 243) kX6_47 dX6_beach_33 (Nat.le_of_ble_eq_true rfl) (Nat.le_of_ble_eq_true rfl) tA_235 (Nat.le_of_ble_eq_true rfl) (Nat.le_of_ble_eq_true rfl) (Nat.le_refl _) (Nat.le_refl _) (s_X6_levelOf (up_s _ _ _) (c := c) hM (by omega) (wp_af ?_))
        refine wp_iload_n dX6_beach_36 rfl ?_
        refine wp_imul dX6_beach_37 ?_
        refine wp_sipush (v := 400) dX6_beach_38 (by decide) ?_
        refine wp_idiv dX6_beach_41 (by decide) ?_
        refine wp_isub dX6_beach_42 ?_
        refine wp_iast (i := (6 + c)) (ix_add rfl rfl) tA_236 (Nat.le_of_ble_eq_true rfl) (by rw [lA_236]; omega) (Nat.le_of_ble_eq_true rfl) dX6_beach_43 ?_
        refine wp_mem (u2_up _ _ _ _ _) ?_
        refine wp_aload_n dX6_beach_44 rfl ?_
        refine wp_getQ fX6_7 tA_235 rfl hM.f0 (by decide) (Nat.le_of_ble_eq_true rfl) dX6_beach_45 ?_
        refine wp_bipush (v := 46) dX6_beach_48 (by decide) ?_
        refine wp_iload_n dX6_beach_50 rfl ?_
        refine wp_iadd dX6_beach_51 ?_
        refine wp_dup2 dX6_beach_52 rfl rfl ?_
        refine wp_iadn (i := (46 + c)) (ix_add rfl rfl) tA_236 (Nat.le_of_ble_eq_true rfl) (by rw [lA_236]; omega) (Nat.le_of_ble_eq_true rfl) dX6_beach_53 (congrFun (up_s _ _ _) _) ?_
        refine wp_aload_n dX6_beach_54 rfl ?_
        refine wp_getQ fX6_7 tA_235 rfl hM.f0 (by decide) (Nat.le_of_ble_eq_true rfl) dX6_beach_55 ?_
        refine wp_bipush (v := 46) dX6_beach_58 (by decide) ?_
        refine wp_iload_n dX6_beach_60 rfl ?_
        refine wp_iadd dX6_beach_61 ?_
        refine wp_iadn (i := (46 + c)) (ix_add rfl rfl) tA_236 (Nat.le_of_ble_eq_true rfl) (by rw [lA_236]; omega) (Nat.le_of_ble_eq_true rfl) dX6_beach_62 (congrFun (up_s _ _ _) _) ?_
        refine wp_iload_n dX6_beach_63 rfl ?_
        refine wp_imul dX6_beach_64 ?_
        refine wp_sipush (v := 400) dX6_beach_65 (by decide) ?_
        refine wp_idiv dX6_beach_68 (by decide) ?_
        refine wp_isub dX6_beach_69 ?_
        refine wp_iast (i := (46 + c)) (ix_add rfl rfl) tA_236 (Nat.le_of_ble_eq_true rfl) (by rw [lA_236]; omega) (Nat.le_of_ble_eq_true rfl) dX6_beach_70 ?_
        refine wp_mem (u2_up _ _ _ _ _) ?_
        refine wp_iinc (v := nI (c + 1)) (L' := [some (.ref 235), some (.int (nI (c + 1))), some (.int by_)]) dX6_beach_71 (by decide) rfl (inc_1 _) rfl ?_
        refine wp_goto (tgt := 3) dX6_beach_74 (by decide) ?_
        refine wp_drop [some (.ref 235), some (.int _), none] (by repeat constructor) ?_
        refine ih (c + 1) _ ?_ (by omega) (by omega) (by omega)
        rw [← bcN_s (i := c) (by omega) (by omega) rfl rfl, ← hro]
        congr 1
        · congr 1
          rw [e_by_, hro, bcV]
          simp (disch := omega) only [bcN_lo]
        · rw [up_n _ _ (by omega), e_by_, hro, bcV]
          simp (disch := omega) only [bcN_lo]
  refine wp_bipush (v := 36) dX6_beach_0 (by decide) ?_
  refine wp_istore_n (L' := [some (.ref 235), some (.int _), none]) dX6_beach_2 (by decide) rfl ?_
  refine wp_mem (M' := up M 236 sg) (by rw [← hs, up_eta]) ?_
  exact loop 41 36 _ (bcN_0 sg).symm (by omega) (by omega) (by omega)

/-- what a gauge notes; n of them known -/
def ntV (sg : Nat → Int32) (g : Nat) : Int32 := sg (6 + (sg (122 + 62 * g)).toNatClampNeg)
def ntS (sg : Nat → Int32) (g i : Nat) : Nat → Int32 := fun j => if 124 + 62 * g ≤ j ∧ j < 123 + 62 * g + i then sg (j + 1) else sg j
def nt1 (sg : Nat → Int32) (g : Nat) : Nat → Int32 := if sg (122 + 62 * g + 1) = 60 then up (up (up (ntS sg g 60) (122 + 62 * g + 1) 59) (122 + 62 * g + 2 + 59) (ntV sg g)) (122 + 62 * g + 1) 60
  else up (up sg (122 + 62 * g + 2 + (sg (122 + 62 * g + 1)).toNatClampNeg) (ntV sg g)) (122 + 62 * g + 1) (sg (122 + 62 * g + 1) + 1)
def ntN (sg : Nat → Int32) : Nat → Nat → Int32
  | 0 => sg
  | g + 1 => nt1 (ntN sg g) g
/-- what the rows of the gauges must be for a step -/
def GgS (sg : Nat → Int32) (ng : Nat) : Prop := ∀ g, g < ng → (∃ c, c < 40 ∧ sg (122 + 62 * g) = nI c) ∧ ∃ m, m ≤ 60 ∧ sg (122 + 62 * g + 1) = nI m
theorem ntS_0 (sg : Nat → Int32) (g : Nat) : ntS sg g 1 = sg := by
  funext j
  rw [ntS, if_neg (by omega)]
theorem ntS_s {sg : Nat → Int32} {g i : Nat} (h1 : 1 ≤ i) : up (ntS sg g i) (123 + 62 * g + i) (ntS sg g i (124 + 62 * g + i)) = ntS sg g (i + 1) := by
  funext j
  by_cases hj : j = 123 + 62 * g + i
  · subst hj
    rw [up_s, ntS, ntS, if_neg (by omega), if_pos (by omega)]
    congr 1
    omega
  · rw [up_n _ _ hj]
    by_cases h2 : 124 + 62 * g ≤ j ∧ j < 123 + 62 * g + i
    · rw [ntS, ntS, if_pos h2, if_pos (by omega)]
    · rw [ntS, ntS, if_neg h2, if_neg (by omega)]
theorem nt1_same {sg : Nat → Int32} {g m j : Nat} (hm : m ≤ 60) (hn : sg (122 + 62 * g + 1) = nI m) (hj : j ≤ 122 + 62 * g ∨ 184 + 62 * g ≤ j) : nt1 sg g j = sg j := by
  unfold nt1
  rw [hn, nI_clamp (by omega)]
  split
  · rw [up_n _ _ (by omega), up_n _ _ (by omega), up_n _ _ (by omega), ntS, if_neg (by omega)]
  · rename_i h
    have : m ≠ 60 := fun q => h (by rw [q]; rfl)
    rw [up_n _ _ (by omega), up_n _ _ (by omega)]
theorem ntN_same {sg : Nat → Int32} {ng : Nat} (h : GgS sg ng) : ∀ {g : Nat}, g ≤ ng → ∀ {j : Nat}, (j < 122 ∨ 122 + 62 * g ≤ j) → ntN sg g j = sg j
  | 0, _, _, _ => rfl
  | g + 1, hg, j, hj => by
    obtain ⟨-, m, hm, hn⟩ := h g (by omega)
    have e1 := ntN_same h (g := g) (by omega) (j := 122 + 62 * g + 1) (by omega)
    show nt1 (ntN sg g) g j = _
    rw [nt1_same hm (e1.trans hn) (by omega)]
    exact ntN_same h (by omega) (by omega)
end
section
/-! THE REFERENCE: the gauges note; a step; steps -/
set_option maxRecDepth 100000 in
set_option maxHeartbeats 4000000 in
theorem s_X6_note {γ : Gm} {l : Launch} {M : Mm} {R : Rm} {K : KT} {ng : Nat} {sg : Nat → Int32} (hs : M 236 = sg) (hM : RM R) (hn : sg 5 = nI ng) (h4 : ng ≤ 4) (hp : GgS sg ng) (hK : K none 243 (up M 236 (ntN sg ng)) R) : CL γ l mX6_note 1 243 243 [.ref 235] M R K := by
  show WP γ l mX6_note 1 243 243 0 [some (.ref 235), none, none, none] [] 243 M R K
  have loop : ∀ (f g : Nat) (ro : Nat → Int32), ro = ntN sg g → ng - g < f → g ≤ ng → WP γ l mX6_note 1 243 243 2 [some (.ref 235), some (.int (nI g)), none, none] [] 243 (up M 236 ro) R K := by
    intro f
    induction f with
    | zero => intro g ro _ h; omega
    | succ f ih =>
      intro g ro hro hf hg
      have r5 : ro 5 = nI ng := by rw [hro, ntN_same hp hg (by omega), hn]
      have tail : ∀ (c m2 : Nat) (r : Nat → Int32), g < 4 → g < ng → m2 < 60 → c < 40 → r (122 + 62 * g + 1) = nI m2 → r (122 + 62 * g) = nI c → up (up r (122 + 62 * g + 2 + m2) (r (6 + c))) (122 + 62 * g + 1) (nI (m2 + 1)) = nt1 ro g → WP γ l mX6_note 1 243 243 81 [some (.ref 235), some (.int (nI g)), some (.int (nI (122 + 62 * g))), none] [] 243 (up M 236 r) R K := by
        intro c m2 r hg4 hgn h60 h40 hm2 hc hrow
        refine wp_aload_n dX6_note_81 rfl ?_
        refine wp_getQ fX6_7 tA_235 rfl hM.f0 (by decide) (Nat.le_of_ble_eq_true rfl) dX6_note_82 ?_
        refine wp_iload_n dX6_note_85 rfl ?_
        refine wp_iconst (v := 2) dX6_note_86 (by decide) ?_
        refine wp_iadd dX6_note_87 ?_
        refine wp_aload_n dX6_note_88 rfl ?_
        refine wp_getQ fX6_7 tA_235 rfl hM.f0 (by decide) (Nat.le_of_ble_eq_true rfl) dX6_note_89 ?_
        refine wp_iload_n dX6_note_92 rfl ?_
        refine wp_iconst (v := 1) dX6_note_93 (by decide) ?_
        refine wp_iadd dX6_note_94 ?_
        refine wp_iadn (i := ((122 + 62 * g) + 1)) (ix_add rfl rfl) tA_236 (Nat.le_of_ble_eq_true rfl) (by rw [lA_236]; omega) (Nat.le_of_ble_eq_true rfl) dX6_note_95 ((congrFun (up_s _ _ _) _).trans (hm2)) ?_
        refine wp_iadd dX6_note_96 ?_
        refine wp_aload_n dX6_note_97 rfl ?_
        refine wp_aload_n dX6_note_98 rfl ?_
        refine wp_getQ fX6_7 tA_235 rfl hM.f0 (by decide) (Nat.le_of_ble_eq_true rfl) dX6_note_99 ?_
        refine wp_iload_n dX6_note_102 rfl ?_
        refine wp_iadn (i := (122 + 62 * g)) rfl tA_236 (Nat.le_of_ble_eq_true rfl) (by rw [lA_236]; omega) (Nat.le_of_ble_eq_true rfl) dX6_note_103 ((congrFun (up_s _ _ _) _).trans ((by exact hc))) ?_
        refine wp_cV1 (z := mX6_levelOf) (n' := 243) kX6_47 dX6_note_104 (Nat.le_of_ble_eq_true rfl) (Nat.le_of_ble_eq_true rfl) tA_235 (Nat.le_of_ble_eq_true rfl) (Nat.le_of_ble_eq_true rfl) (Nat.le_refl _) (Nat.le_refl _) (s_X6_levelOf (up_s _ _ _) (c := c) hM (by omega) (wp_af ?_))
        refine wp_iast (i := (((122 + 62 * g) + 2) + m2)) (ix_add (ix_add rfl rfl) rfl) tA_236 (Nat.le_of_ble_eq_true rfl) (by rw [lA_236]; omega) (Nat.le_of_ble_eq_true rfl) dX6_note_107 ?_
        refine wp_mem (u2_up _ _ _ _ _) ?_
        refine wp_aload_n dX6_note_108 rfl ?_
        refine wp_getQ fX6_7 tA_235 rfl hM.f0 (by decide) (Nat.le_of_ble_eq_true rfl) dX6_note_109 ?_
        refine wp_iload_n dX6_note_112 rfl ?_
        refine wp_iconst (v := 1) dX6_note_113 (by decide) ?_
        refine wp_iadd dX6_note_114 ?_
        refine wp_dup2 dX6_note_115 rfl rfl ?_
        refine wp_iadn (i := ((122 + 62 * g) + 1)) (ix_add rfl rfl) tA_236 (Nat.le_of_ble_eq_true rfl) (by rw [lA_236]; omega) (Nat.le_of_ble_eq_true rfl) dX6_note_116 ((congrFun (up_s _ _ _) _).trans ((up_n _ _ (by omega)).trans hm2)) ?_
        refine wp_iconst (v := 1) dX6_note_117 (by decide) ?_
        refine wp_iadd dX6_note_118 ?_
        refine wp_top (nI_1 _) ?_
        refine wp_iast (i := ((122 + 62 * g) + 1)) (ix_add rfl rfl) tA_236 (Nat.le_of_ble_eq_true rfl) (by rw [lA_236]; omega) (Nat.le_of_ble_eq_true rfl) dX6_note_119 ?_
        refine wp_mem (u2_up _ _ _ _ _) ?_
        refine wp_iinc (v := nI (g + 1)) (L' := [some (.ref 235), some (.int (nI (g + 1))), some (.int (nI (122 + 62 * g))), none]) dX6_note_120 (by decide) rfl (inc_1 _) rfl ?_
        refine wp_goto (tgt := 2) dX6_note_123 (by decide) ?_
        refine wp_drop [some (.ref 235), some (.int _), none, none] (by repeat constructor) ?_
        refine ih (g + 1) _ ?_ (by omega) (by omega)
        show _ = nt1 (ntN sg g) g
        rw [← hro]
        exact hrow
      refine wp_iload_n dX6_note_2 rfl ?_
      refine wp_aload_n dX6_note_3 rfl ?_
      refine wp_getQ fX6_7 tA_235 rfl hM.f0 (by decide) (Nat.le_of_ble_eq_true rfl) dX6_note_4 ?_
      refine wp_iconst (v := 5) dX6_note_7 (by decide) ?_
      refine wp_iadn (i := 5) rfl tA_236 (Nat.le_of_ble_eq_true rfl) (by rw [lA_236]; omega) (Nat.le_of_ble_eq_true rfl) dX6_note_8 ((congrFun (up_s _ _ _) _).trans (r5)) ?_
      refine wp_icN_ge (a := g) (b := ng) (tgt := 126) dX6_note_9 (by decide) rfl rfl (by omega) (by omega) (fun h9 => ?_) (fun h9 => ?_)
      · exact wp_vret dX6_note_126 rfl rfl (by rw [hro, show g = ng by omega]; exact hK)
      · obtain ⟨⟨c, h40, hc0⟩, m, h60, hm0⟩ := hp g h9
        have hc : ro (122 + 62 * g) = nI c := by rw [hro, ntN_same hp hg (by omega)]; exact hc0
        have hm : ro (122 + 62 * g + 1) = nI m := by rw [hro, ntN_same hp hg (by omega)]; exact hm0
        have hV : ntV ro g = ro (6 + c) := by rw [ntV, hc, nI_clamp (by omega)]
        refine wp_bipush (v := 122) dX6_note_12 (by decide) ?_
        refine wp_bipush (v := 62) dX6_note_14 (by decide) ?_
        refine wp_iload_n dX6_note_16 rfl ?_
        refine wp_imul dX6_note_17 ?_
        refine wp_iadd dX6_note_18 ?_
        refine wp_top (ix_add rfl (ix_mul rfl rfl)) ?_
        refine wp_istore_n (L' := [some (.ref 235), some (.int (nI g)), some (.int (nI (122 + 62 * g))), none]) dX6_note_19 (by decide) rfl ?_
        refine wp_aload_n dX6_note_20 rfl ?_
        refine wp_getQ fX6_7 tA_235 rfl hM.f0 (by decide) (Nat.le_of_ble_eq_true rfl) dX6_note_21 ?_
        refine wp_iload_n dX6_note_24 rfl ?_
        refine wp_iconst (v := 1) dX6_note_25 (by decide) ?_
        refine wp_iadd dX6_note_26 ?_
        refine wp_iadn (i := ((122 + 62 * g) + 1)) (ix_add rfl rfl) tA_236 (Nat.le_of_ble_eq_true rfl) (by rw [lA_236]; omega) (Nat.le_of_ble_eq_true rfl) dX6_note_27 ((congrFun (up_s _ _ _) _).trans (hm)) ?_
        refine wp_bipush (v := 60) dX6_note_28 (by decide) ?_
        refine wp_icN_ne (a := m) (b := 60) (tgt := 81) dX6_note_30 (by decide) rfl rfl (by omega) (by omega) (fun h30 => ?_) (fun h30 => ?_)
        · refine wp_drop [some (.ref 235), some (.int (nI g)), some (.int (nI (122 + 62 * g))), none] (by repeat constructor) ?_
          refine tail c m ro (by omega) (by omega) (by omega) h40 hm hc ?_
          rw [nt1, if_neg (by rw [hm]; exact fun q => h30 ((nI_eq (by omega) (by omega)).mp q)), hm, nI_clamp (by omega), hV, nI_1]
        · refine wp_iconst (v := 1) dX6_note_33 (by decide) ?_
          refine wp_istore_n (L' := [some (.ref 235), some (.int (nI g)), some (.int (nI (122 + 62 * g))), some (.int _)]) dX6_note_34 (by decide) rfl ?_
          have loop2 : ∀ (f2 i : Nat) (r2 : Nat → Int32), r2 = ntS ro g i → 60 - i < f2 → 1 ≤ i → i ≤ 60 → WP γ l mX6_note 1 243 243 35 [some (.ref 235), some (.int (nI g)), some (.int (nI (122 + 62 * g))), some (.int (nI i))] [] 243 (up M 236 r2) R K := by
            intro f2
            induction f2 with
            | zero => intro i r2 _ h; omega
            | succ f2 ih2 =>
              intro i r2 hr2 hf2 h1i hi
              have hm60 : ro (122 + 62 * g + 1) = 60 := by rw [hm, h30]; rfl
              have ra : ∀ j, j < 124 + 62 * g → r2 j = ro j := fun j hj => by rw [hr2, ntS, if_neg (by omega)]
              refine wp_iload_n dX6_note_35 rfl ?_
              refine wp_bipush (v := 60) dX6_note_36 (by decide) ?_
              refine wp_icN_ge (a := i) (b := 60) (tgt := 69) dX6_note_38 (by decide) rfl rfl (by omega) (by omega) (fun h38 => ?_) (fun h38 => ?_)
              · refine wp_aload_n dX6_note_69 rfl ?_
                refine wp_getQ fX6_7 tA_235 rfl hM.f0 (by decide) (Nat.le_of_ble_eq_true rfl) dX6_note_70 ?_
                refine wp_iload_n dX6_note_73 rfl ?_
                refine wp_iconst (v := 1) dX6_note_74 (by decide) ?_
                refine wp_iadd dX6_note_75 ?_
                refine wp_dup2 dX6_note_76 rfl rfl ?_
                refine wp_iadn (i := ((122 + 62 * g) + 1)) (ix_add rfl rfl) tA_236 (Nat.le_of_ble_eq_true rfl) (by rw [lA_236]; omega) (Nat.le_of_ble_eq_true rfl) dX6_note_77 ((congrFun (up_s _ _ _) _).trans ((ra _ (by omega)).trans hm60)) ?_
                refine wp_iconst (v := 1) dX6_note_78 (by decide) ?_
                refine wp_isub dX6_note_79 ?_
                refine wp_top (ix_sub (a := 60) (b := 1) rfl rfl (by omega)) ?_
                refine wp_iast (i := ((122 + 62 * g) + 1)) (ix_add rfl rfl) tA_236 (Nat.le_of_ble_eq_true rfl) (by rw [lA_236]; omega) (Nat.le_of_ble_eq_true rfl) dX6_note_80 ?_
                refine wp_mem (u2_up _ _ _ _ _) ?_
                refine wp_drop [some (.ref 235), some (.int (nI g)), some (.int (nI (122 + 62 * g))), none] (by repeat constructor) ?_
                refine tail c 59 _ (by omega) (by omega) (by omega) h40 (up_s _ _ _) ((up_n _ _ (by omega)).trans ((ra _ (by omega)).trans hc)) ?_
                rw [nt1, if_pos hm60, hV, hr2, show i = 60 by omega, up_n _ _ (show 6 + c ≠ 122 + 62 * g + 1 by omega), ntS, if_neg (by omega)]
                rfl
              · refine wp_aload_n dX6_note_41 rfl ?_
                refine wp_getQ fX6_7 tA_235 rfl hM.f0 (by decide) (Nat.le_of_ble_eq_true rfl) dX6_note_42 ?_
                refine wp_iload_n dX6_note_45 rfl ?_
                refine wp_iconst (v := 2) dX6_note_46 (by decide) ?_
                refine wp_iadd dX6_note_47 ?_
                refine wp_iload_n dX6_note_48 rfl ?_
                refine wp_iadd dX6_note_49 ?_
                refine wp_iconst (v := 1) dX6_note_50 (by decide) ?_
                refine wp_isub dX6_note_51 ?_
                refine wp_aload_n dX6_note_52 rfl ?_
                refine wp_getQ fX6_7 tA_235 rfl hM.f0 (by decide) (Nat.le_of_ble_eq_true rfl) dX6_note_53 ?_
                refine wp_iload_n dX6_note_56 rfl ?_
                refine wp_iconst (v := 2) dX6_note_57 (by decide) ?_
                refine wp_iadd dX6_note_58 ?_
                refine wp_iload_n dX6_note_59 rfl ?_
                refine wp_iadd dX6_note_60 ?_
                refine wp_iadn (i := (((122 + 62 * g) + 2) + i)) (ix_add (ix_add rfl rfl) rfl) tA_236 (Nat.le_of_ble_eq_true rfl) (by rw [lA_236]; omega) (Nat.le_of_ble_eq_true rfl) dX6_note_61 (congrFun (up_s _ _ _) _) ?_
                refine wp_iast (i := ((((122 + 62 * g) + 2) + i) - 1)) (ix_sub (a := (((122 + 62 * g) + 2) + i)) (b := 1) (ix_add (ix_add rfl rfl) rfl) rfl (by omega)) tA_236 (Nat.le_of_ble_eq_true rfl) (by rw [lA_236]; omega) (Nat.le_of_ble_eq_true rfl) dX6_note_62 ?_
                refine wp_mem (u2_up _ _ _ _ _) ?_
                refine wp_iinc (v := nI (i + 1)) (L' := [some (.ref 235), some (.int (nI g)), some (.int (nI (122 + 62 * g))), some (.int (nI (i + 1)))]) dX6_note_63 (by decide) rfl (inc_1 _) rfl ?_
                refine wp_goto (tgt := 35) dX6_note_66 (by decide) ?_
                refine ih2 (i + 1) _ ?_ (by omega) (by omega) (by omega)
                rw [← ntS_s (by omega), ← hr2, show 122 + 62 * g + 2 + i - 1 = 123 + 62 * g + i by omega, show 122 + 62 * g + 2 + i = 124 + 62 * g + i by omega]
          exact loop2 60 1 _ (ntS_0 ro g).symm (by omega) (by omega) (by omega)
  refine wp_iconst (v := 0) dX6_note_0 (by decide) ?_
  refine wp_istore_n (L' := [some (.ref 235), some (.int _), none, none]) dX6_note_1 (by decide) rfl ?_
  refine wp_mem (M' := up M 236 sg) (by rw [← hs, up_eta]) ?_
  exact loop (ng + 1) 0 _ rfl (by omega) (by omega)
end
