section
-- ===== PART A: goes FIRST, ahead of the names: the tables' words, and 'selects' of the private methods out of them =====
/-- a private method of a class that the tables say can be made, by its rows of tables_1 -/
def lw_okq (q : MethodName × Nat) : Prop := (q.1.cls ≠ "java/lang/invoke/MethodHandle" ∧ q.1.cls ≠ "java/lang/invoke/VarHandle") ∧ Cond.instantiable q.1.cls q.2 ∈ tables_1 ∧ Cond.privateMethod q.1 ∈ tables_1 ∧ Cond.instanceMethod q.1 ∈ tables_1
theorem lw_p0 : lw_okq (⟨"RescanMill", "beginAnew", "(I)V"⟩, 10) := ⟨⟨by decide +kernel, by decide +kernel⟩, List.mem_of_getElem? (i := 22) (by decide +kernel), List.mem_of_getElem? (i := 389) (by decide +kernel), List.mem_of_getElem? (i := 390) (by decide +kernel)⟩
theorem lw_p1 : lw_okq (⟨"RescanMill$Meanings", "addOnTop", "(LRescanMill$Bytes;II)LRescanMill$Meaning;"⟩, 6) := ⟨⟨by decide +kernel, by decide +kernel⟩, List.mem_of_getElem? (i := 153) (by decide +kernel), List.mem_of_getElem? (i := 484) (by decide +kernel), List.mem_of_getElem? (i := 485) (by decide +kernel)⟩
theorem lw_p2 : lw_okq (⟨"RescanMill$Cells", "isCell", "(I)Z"⟩, 5) := ⟨⟨by decide +kernel, by decide +kernel⟩, List.mem_of_getElem? (i := 159) (by decide +kernel), List.mem_of_getElem? (i := 499) (by decide +kernel), List.mem_of_getElem? (i := 500) (by decide +kernel)⟩
theorem lw_p3 : lw_okq (⟨"RescanMill$Cells", "hang", "(LRescanMill$Chain;III)V"⟩, 5) := ⟨⟨by decide +kernel, by decide +kernel⟩, List.mem_of_getElem? (i := 159) (by decide +kernel), List.mem_of_getElem? (i := 504) (by decide +kernel), List.mem_of_getElem? (i := 505) (by decide +kernel)⟩
theorem lw_p4 : lw_okq (⟨"RescanMill$Input", "begins", "(LRescanMill$Bytes;)Z"⟩, 12) := ⟨⟨by decide +kernel, by decide +kernel⟩, List.mem_of_getElem? (i := 59) (by decide +kernel), List.mem_of_getElem? (i := 524) (by decide +kernel), List.mem_of_getElem? (i := 525) (by decide +kernel)⟩
theorem lw_p5 : lw_okq (⟨"RescanMill$Input", "readQuoted", "()I"⟩, 12) := ⟨⟨by decide +kernel, by decide +kernel⟩, List.mem_of_getElem? (i := 59) (by decide +kernel), List.mem_of_getElem? (i := 528) (by decide +kernel), List.mem_of_getElem? (i := 529) (by decide +kernel)⟩
theorem lw_p6 : lw_okq (⟨"RescanMill$Input", "takeSome", "(IZ)I"⟩, 12) := ⟨⟨by decide +kernel, by decide +kernel⟩, List.mem_of_getElem? (i := 59) (by decide +kernel), List.mem_of_getElem? (i := 532) (by decide +kernel), List.mem_of_getElem? (i := 533) (by decide +kernel)⟩
theorem lw_p7 : lw_okq (⟨"RescanMill$Input", "readRemark", "()I"⟩, 12) := ⟨⟨by decide +kernel, by decide +kernel⟩, List.mem_of_getElem? (i := 59) (by decide +kernel), List.mem_of_getElem? (i := 544) (by decide +kernel), List.mem_of_getElem? (i := 545) (by decide +kernel)⟩
theorem lw_p8 : lw_okq (⟨"RescanMill$Input", "readName", "()I"⟩, 12) := ⟨⟨by decide +kernel, by decide +kernel⟩, List.mem_of_getElem? (i := 59) (by decide +kernel), List.mem_of_getElem? (i := 551) (by decide +kernel), List.mem_of_getElem? (i := 552) (by decide +kernel)⟩
theorem lw_p9 : lw_okq (⟨"RescanMill", "useToken", "()I"⟩, 10) := ⟨⟨by decide +kernel, by decide +kernel⟩, List.mem_of_getElem? (i := 22) (by decide +kernel), List.mem_of_getElem? (i := 562) (by decide +kernel), List.mem_of_getElem? (i := 563) (by decide +kernel)⟩
theorem lw_p10 : lw_okq (⟨"RescanMill", "isCalled", "()Z"⟩, 10) := ⟨⟨by decide +kernel, by decide +kernel⟩, List.mem_of_getElem? (i := 22) (by decide +kernel), List.mem_of_getElem? (i := 566) (by decide +kernel), List.mem_of_getElem? (i := 567) (by decide +kernel)⟩
theorem lw_p11 : lw_okq (⟨"RescanMill$Meanings", "isNamed", "(LRescanMill$Meaning;LRescanMill$Bytes;II)Z"⟩, 6) := ⟨⟨by decide +kernel, by decide +kernel⟩, List.mem_of_getElem? (i := 153) (by decide +kernel), List.mem_of_getElem? (i := 574) (by decide +kernel), List.mem_of_getElem? (i := 575) (by decide +kernel)⟩
theorem lw_p12 : lw_okq (⟨"RescanMill", "openCall", "()I"⟩, 10) := ⟨⟨by decide +kernel, by decide +kernel⟩, List.mem_of_getElem? (i := 22) (by decide +kernel), List.mem_of_getElem? (i := 587) (by decide +kernel), List.mem_of_getElem? (i := 588) (by decide +kernel)⟩
theorem lw_p13 : lw_okq (⟨"RescanMill$Calls", "hasTop", "()Z"⟩, 9) := ⟨⟨by decide +kernel, by decide +kernel⟩, List.mem_of_getElem? (i := 111) (by decide +kernel), List.mem_of_getElem? (i := 595) (by decide +kernel), List.mem_of_getElem? (i := 596) (by decide +kernel)⟩
theorem lw_p14 : lw_okq (⟨"RescanMill", "useInArgument", "()I"⟩, 10) := ⟨⟨by decide +kernel, by decide +kernel⟩, List.mem_of_getElem? (i := 22) (by decide +kernel), List.mem_of_getElem? (i := 610) (by decide +kernel), List.mem_of_getElem? (i := 611) (by decide +kernel)⟩
theorem lw_p15 : lw_okq (⟨"RescanMill", "finishCall", "()I"⟩, 10) := ⟨⟨by decide +kernel, by decide +kernel⟩, List.mem_of_getElem? (i := 22) (by decide +kernel), List.mem_of_getElem? (i := 639) (by decide +kernel), List.mem_of_getElem? (i := 640) (by decide +kernel)⟩
def lw_privs_1 : List (MethodName × Nat) := [(⟨"RescanMill", "beginAnew", "(I)V"⟩, 10), (⟨"RescanMill$Meanings", "addOnTop", "(LRescanMill$Bytes;II)LRescanMill$Meaning;"⟩, 6), (⟨"RescanMill$Cells", "isCell", "(I)Z"⟩, 5), (⟨"RescanMill$Cells", "hang", "(LRescanMill$Chain;III)V"⟩, 5), (⟨"RescanMill$Input", "begins", "(LRescanMill$Bytes;)Z"⟩, 12), (⟨"RescanMill$Input", "readQuoted", "()I"⟩, 12), (⟨"RescanMill$Input", "takeSome", "(IZ)I"⟩, 12), (⟨"RescanMill$Input", "readRemark", "()I"⟩, 12), (⟨"RescanMill$Input", "readName", "()I"⟩, 12), (⟨"RescanMill", "useToken", "()I"⟩, 10), (⟨"RescanMill", "isCalled", "()Z"⟩, 10), (⟨"RescanMill$Meanings", "isNamed", "(LRescanMill$Meaning;LRescanMill$Bytes;II)Z"⟩, 6), (⟨"RescanMill", "openCall", "()I"⟩, 10), (⟨"RescanMill$Calls", "hasTop", "()Z"⟩, 9), (⟨"RescanMill", "useInArgument", "()I"⟩, 10), (⟨"RescanMill", "finishCall", "()I"⟩, 10)]
theorem lw_r1 : ∀ q ∈ lw_privs_1, lw_okq q := List.forall_mem_cons.mpr ⟨lw_p0, List.forall_mem_cons.mpr ⟨lw_p1, List.forall_mem_cons.mpr ⟨lw_p2, List.forall_mem_cons.mpr ⟨lw_p3, List.forall_mem_cons.mpr ⟨lw_p4, List.forall_mem_cons.mpr ⟨lw_p5, List.forall_mem_cons.mpr ⟨lw_p6, List.forall_mem_cons.mpr ⟨lw_p7, List.forall_mem_cons.mpr ⟨lw_p8, List.forall_mem_cons.mpr ⟨lw_p9, List.forall_mem_cons.mpr ⟨lw_p10, List.forall_mem_cons.mpr ⟨lw_p11, List.forall_mem_cons.mpr ⟨lw_p12, List.forall_mem_cons.mpr ⟨lw_p13, List.forall_mem_cons.mpr ⟨lw_p14, List.forall_mem_cons.mpr ⟨lw_p15, fun _ h => absurd h List.not_mem_nil⟩⟩⟩⟩⟩⟩⟩⟩⟩⟩⟩⟩⟩⟩⟩⟩
theorem lw_p16 : lw_okq (⟨"RescanMill", "expand", "(LRescanMill$Chain;)V"⟩, 10) := ⟨⟨by decide +kernel, by decide +kernel⟩, List.mem_of_getElem? (i := 22) (by decide +kernel), List.mem_of_getElem? (i := 656) (by decide +kernel), List.mem_of_getElem? (i := 657) (by decide +kernel)⟩
theorem lw_p17 : lw_okq (⟨"RescanMill", "addMarked", "(I)Z"⟩, 10) := ⟨⟨by decide +kernel, by decide +kernel⟩, List.mem_of_getElem? (i := 22) (by decide +kernel), List.mem_of_getElem? (i := 662) (by decide +kernel), List.mem_of_getElem? (i := 663) (by decide +kernel)⟩
theorem lw_p18 : lw_okq (⟨"RescanMill", "addArgument", "(I)V"⟩, 10) := ⟨⟨by decide +kernel, by decide +kernel⟩, List.mem_of_getElem? (i := 22) (by decide +kernel), List.mem_of_getElem? (i := 666) (by decide +kernel), List.mem_of_getElem? (i := 667) (by decide +kernel)⟩
theorem lw_p19 : lw_okq (⟨"RescanMill", "addArguments", "(IZ)V"⟩, 10) := ⟨⟨by decide +kernel, by decide +kernel⟩, List.mem_of_getElem? (i := 22) (by decide +kernel), List.mem_of_getElem? (i := 684) (by decide +kernel), List.mem_of_getElem? (i := 685) (by decide +kernel)⟩
theorem lw_p20 : lw_okq (⟨"RescanMill", "useBuiltIn", "(LRescanMill$BuiltIn;)I"⟩, 10) := ⟨⟨by decide +kernel, by decide +kernel⟩, List.mem_of_getElem? (i := 22) (by decide +kernel), List.mem_of_getElem? (i := 688) (by decide +kernel), List.mem_of_getElem? (i := 689) (by decide +kernel)⟩
theorem lw_p21 : lw_okq (⟨"RescanMill", "define", "(Z)I"⟩, 10) := ⟨⟨by decide +kernel, by decide +kernel⟩, List.mem_of_getElem? (i := 22) (by decide +kernel), List.mem_of_getElem? (i := 700) (by decide +kernel), List.mem_of_getElem? (i := 701) (by decide +kernel)⟩
theorem lw_p22 : lw_okq (⟨"RescanMill", "isName", "(II)Z"⟩, 10) := ⟨⟨by decide +kernel, by decide +kernel⟩, List.mem_of_getElem? (i := 22) (by decide +kernel), List.mem_of_getElem? (i := 704) (by decide +kernel), List.mem_of_getElem? (i := 705) (by decide +kernel)⟩
theorem lw_p23 : lw_okq (⟨"RescanMill", "takeMeanings", "(Z)I"⟩, 10) := ⟨⟨by decide +kernel, by decide +kernel⟩, List.mem_of_getElem? (i := 22) (by decide +kernel), List.mem_of_getElem? (i := 721) (by decide +kernel), List.mem_of_getElem? (i := 722) (by decide +kernel)⟩
theorem lw_p24 : lw_okq (⟨"RescanMill$Meanings", "release", "(LRescanMill$Meaning;)V"⟩, 6) := ⟨⟨by decide +kernel, by decide +kernel⟩, List.mem_of_getElem? (i := 153) (by decide +kernel), List.mem_of_getElem? (i := 729) (by decide +kernel), List.mem_of_getElem? (i := 730) (by decide +kernel)⟩
theorem lw_p25 : lw_okq (⟨"RescanMill", "chooseByMacro", "()I"⟩, 10) := ⟨⟨by decide +kernel, by decide +kernel⟩, List.mem_of_getElem? (i := 22) (by decide +kernel), List.mem_of_getElem? (i := 733) (by decide +kernel), List.mem_of_getElem? (i := 734) (by decide +kernel)⟩
theorem lw_p26 : lw_okq (⟨"RescanMill", "chooseBySameness", "()I"⟩, 10) := ⟨⟨by decide +kernel, by decide +kernel⟩, List.mem_of_getElem? (i := 22) (by decide +kernel), List.mem_of_getElem? (i := 737) (by decide +kernel), List.mem_of_getElem? (i := 738) (by decide +kernel)⟩
theorem lw_p27 : lw_okq (⟨"RescanMill", "areSame", "(II)Z"⟩, 10) := ⟨⟨by decide +kernel, by decide +kernel⟩, List.mem_of_getElem? (i := 22) (by decide +kernel), List.mem_of_getElem? (i := 741) (by decide +kernel), List.mem_of_getElem? (i := 742) (by decide +kernel)⟩
theorem lw_p28 : lw_okq (⟨"RescanMill$Expression", "begin", "(LRescanMill$Bytes;II)V"⟩, 10) := ⟨⟨by decide +kernel, by decide +kernel⟩, List.mem_of_getElem? (i := 281) (by decide +kernel), List.mem_of_getElem? (i := 749) (by decide +kernel), List.mem_of_getElem? (i := 750) (by decide +kernel)⟩
theorem lw_p29 : lw_okq (⟨"RescanMill$Expression", "takeNumber", "()Z"⟩, 10) := ⟨⟨by decide +kernel, by decide +kernel⟩, List.mem_of_getElem? (i := 281) (by decide +kernel), List.mem_of_getElem? (i := 756) (by decide +kernel), List.mem_of_getElem? (i := 757) (by decide +kernel)⟩
theorem lw_p30 : lw_okq (⟨"RescanMill$Expression", "reckon", "(I)V"⟩, 10) := ⟨⟨by decide +kernel, by decide +kernel⟩, List.mem_of_getElem? (i := 281) (by decide +kernel), List.mem_of_getElem? (i := 760) (by decide +kernel), List.mem_of_getElem? (i := 761) (by decide +kernel)⟩
theorem lw_p31 : lw_okq (⟨"RescanMill$Expression", "ofTwo", "(LRescanMill$Operator;II)I"⟩, 10) := ⟨⟨by decide +kernel, by decide +kernel⟩, List.mem_of_getElem? (i := 281) (by decide +kernel), List.mem_of_getElem? (i := 776) (by decide +kernel), List.mem_of_getElem? (i := 777) (by decide +kernel)⟩
def lw_privs_2 : List (MethodName × Nat) := [(⟨"RescanMill", "expand", "(LRescanMill$Chain;)V"⟩, 10), (⟨"RescanMill", "addMarked", "(I)Z"⟩, 10), (⟨"RescanMill", "addArgument", "(I)V"⟩, 10), (⟨"RescanMill", "addArguments", "(IZ)V"⟩, 10), (⟨"RescanMill", "useBuiltIn", "(LRescanMill$BuiltIn;)I"⟩, 10), (⟨"RescanMill", "define", "(Z)I"⟩, 10), (⟨"RescanMill", "isName", "(II)Z"⟩, 10), (⟨"RescanMill", "takeMeanings", "(Z)I"⟩, 10), (⟨"RescanMill$Meanings", "release", "(LRescanMill$Meaning;)V"⟩, 6), (⟨"RescanMill", "chooseByMacro", "()I"⟩, 10), (⟨"RescanMill", "chooseBySameness", "()I"⟩, 10), (⟨"RescanMill", "areSame", "(II)Z"⟩, 10), (⟨"RescanMill$Expression", "begin", "(LRescanMill$Bytes;II)V"⟩, 10), (⟨"RescanMill$Expression", "takeNumber", "()Z"⟩, 10), (⟨"RescanMill$Expression", "reckon", "(I)V"⟩, 10), (⟨"RescanMill$Expression", "ofTwo", "(LRescanMill$Operator;II)I"⟩, 10)]
theorem lw_r2 : ∀ q ∈ lw_privs_2, lw_okq q := List.forall_mem_cons.mpr ⟨lw_p16, List.forall_mem_cons.mpr ⟨lw_p17, List.forall_mem_cons.mpr ⟨lw_p18, List.forall_mem_cons.mpr ⟨lw_p19, List.forall_mem_cons.mpr ⟨lw_p20, List.forall_mem_cons.mpr ⟨lw_p21, List.forall_mem_cons.mpr ⟨lw_p22, List.forall_mem_cons.mpr ⟨lw_p23, List.forall_mem_cons.mpr ⟨lw_p24, List.forall_mem_cons.mpr ⟨lw_p25, List.forall_mem_cons.mpr ⟨lw_p26, List.forall_mem_cons.mpr ⟨lw_p27, List.forall_mem_cons.mpr ⟨lw_p28, List.forall_mem_cons.mpr ⟨lw_p29, List.forall_mem_cons.mpr ⟨lw_p30, List.forall_mem_cons.mpr ⟨lw_p31, fun _ h => absurd h List.not_mem_nil⟩⟩⟩⟩⟩⟩⟩⟩⟩⟩⟩⟩⟩⟩⟩⟩
theorem lw_p32 : lw_okq (⟨"RescanMill$Expression", "takeInFront", "(I)Z"⟩, 10) := ⟨⟨by decide +kernel, by decide +kernel⟩, List.mem_of_getElem? (i := 281) (by decide +kernel), List.mem_of_getElem? (i := 780) (by decide +kernel), List.mem_of_getElem? (i := 781) (by decide +kernel)⟩
theorem lw_p33 : lw_okq (⟨"RescanMill$Expression", "inFront", "(I)LRescanMill$Operator;"⟩, 10) := ⟨⟨by decide +kernel, by decide +kernel⟩, List.mem_of_getElem? (i := 281) (by decide +kernel), List.mem_of_getElem? (i := 784) (by decide +kernel), List.mem_of_getElem? (i := 785) (by decide +kernel)⟩
theorem lw_p34 : lw_okq (⟨"RescanMill$Expression", "await", "(LRescanMill$Operator;)Z"⟩, 10) := ⟨⟨by decide +kernel, by decide +kernel⟩, List.mem_of_getElem? (i := 281) (by decide +kernel), List.mem_of_getElem? (i := 798) (by decide +kernel), List.mem_of_getElem? (i := 799) (by decide +kernel)⟩
theorem lw_p35 : lw_okq (⟨"RescanMill$Expression", "takeClosing", "()Z"⟩, 10) := ⟨⟨by decide +kernel, by decide +kernel⟩, List.mem_of_getElem? (i := 281) (by decide +kernel), List.mem_of_getElem? (i := 802) (by decide +kernel), List.mem_of_getElem? (i := 803) (by decide +kernel)⟩
theorem lw_p36 : lw_okq (⟨"RescanMill$Expression", "takeBetween", "()Z"⟩, 10) := ⟨⟨by decide +kernel, by decide +kernel⟩, List.mem_of_getElem? (i := 281) (by decide +kernel), List.mem_of_getElem? (i := 806) (by decide +kernel), List.mem_of_getElem? (i := 807) (by decide +kernel)⟩
theorem lw_p37 : lw_okq (⟨"RescanMill$Expression", "between", "()LRescanMill$Operator;"⟩, 10) := ⟨⟨by decide +kernel, by decide +kernel⟩, List.mem_of_getElem? (i := 281) (by decide +kernel), List.mem_of_getElem? (i := 810) (by decide +kernel), List.mem_of_getElem? (i := 811) (by decide +kernel)⟩
theorem lw_p38 : lw_okq (⟨"RescanMill$Expression", "isNext", "(Ljava/lang/String;)Z"⟩, 10) := ⟨⟨by decide +kernel, by decide +kernel⟩, List.mem_of_getElem? (i := 281) (by decide +kernel), List.mem_of_getElem? (i := 816) (by decide +kernel), List.mem_of_getElem? (i := 817) (by decide +kernel)⟩
theorem lw_p39 : lw_okq (⟨"RescanMill", "addTo", "(I)I"⟩, 10) := ⟨⟨by decide +kernel, by decide +kernel⟩, List.mem_of_getElem? (i := 22) (by decide +kernel), List.mem_of_getElem? (i := 823) (by decide +kernel), List.mem_of_getElem? (i := 824) (by decide +kernel)⟩
theorem lw_p40 : lw_okq (⟨"RescanMill", "number", "(I)I"⟩, 10) := ⟨⟨by decide +kernel, by decide +kernel⟩, List.mem_of_getElem? (i := 22) (by decide +kernel), List.mem_of_getElem? (i := 827) (by decide +kernel), List.mem_of_getElem? (i := 828) (by decide +kernel)⟩
theorem lw_p41 : lw_okq (⟨"RescanMill", "findPlace", "(IIII)I"⟩, 10) := ⟨⟨by decide +kernel, by decide +kernel⟩, List.mem_of_getElem? (i := 22) (by decide +kernel), List.mem_of_getElem? (i := 832) (by decide +kernel), List.mem_of_getElem? (i := 833) (by decide +kernel)⟩
theorem lw_p42 : lw_okq (⟨"RescanMill", "fillFallBack", "(II)V"⟩, 10) := ⟨⟨by decide +kernel, by decide +kernel⟩, List.mem_of_getElem? (i := 22) (by decide +kernel), List.mem_of_getElem? (i := 836) (by decide +kernel), List.mem_of_getElem? (i := 837) (by decide +kernel)⟩
theorem lw_p43 : lw_okq (⟨"RescanMill", "extend", "(III)I"⟩, 10) := ⟨⟨by decide +kernel, by decide +kernel⟩, List.mem_of_getElem? (i := 22) (by decide +kernel), List.mem_of_getElem? (i := 840) (by decide +kernel), List.mem_of_getElem? (i := 841) (by decide +kernel)⟩
theorem lw_p44 : lw_okq (⟨"RescanMill", "cutOut", "()I"⟩, 10) := ⟨⟨by decide +kernel, by decide +kernel⟩, List.mem_of_getElem? (i := 22) (by decide +kernel), List.mem_of_getElem? (i := 847) (by decide +kernel), List.mem_of_getElem? (i := 848) (by decide +kernel)⟩
theorem lw_p45 : lw_okq (⟨"RescanMill", "divert", "()I"⟩, 10) := ⟨⟨by decide +kernel, by decide +kernel⟩, List.mem_of_getElem? (i := 22) (by decide +kernel), List.mem_of_getElem? (i := 855) (by decide +kernel), List.mem_of_getElem? (i := 856) (by decide +kernel)⟩
theorem lw_p46 : lw_okq (⟨"RescanMill", "undivert", "()I"⟩, 10) := ⟨⟨by decide +kernel, by decide +kernel⟩, List.mem_of_getElem? (i := 22) (by decide +kernel), List.mem_of_getElem? (i := 859) (by decide +kernel), List.mem_of_getElem? (i := 860) (by decide +kernel)⟩
theorem lw_p47 : lw_okq (⟨"RescanMill", "changeQuotes", "()I"⟩, 10) := ⟨⟨by decide +kernel, by decide +kernel⟩, List.mem_of_getElem? (i := 22) (by decide +kernel), List.mem_of_getElem? (i := 872) (by decide +kernel), List.mem_of_getElem? (i := 873) (by decide +kernel)⟩
def lw_privs_3 : List (MethodName × Nat) := [(⟨"RescanMill$Expression", "takeInFront", "(I)Z"⟩, 10), (⟨"RescanMill$Expression", "inFront", "(I)LRescanMill$Operator;"⟩, 10), (⟨"RescanMill$Expression", "await", "(LRescanMill$Operator;)Z"⟩, 10), (⟨"RescanMill$Expression", "takeClosing", "()Z"⟩, 10), (⟨"RescanMill$Expression", "takeBetween", "()Z"⟩, 10), (⟨"RescanMill$Expression", "between", "()LRescanMill$Operator;"⟩, 10), (⟨"RescanMill$Expression", "isNext", "(Ljava/lang/String;)Z"⟩, 10), (⟨"RescanMill", "addTo", "(I)I"⟩, 10), (⟨"RescanMill", "number", "(I)I"⟩, 10), (⟨"RescanMill", "findPlace", "(IIII)I"⟩, 10), (⟨"RescanMill", "fillFallBack", "(II)V"⟩, 10), (⟨"RescanMill", "extend", "(III)I"⟩, 10), (⟨"RescanMill", "cutOut", "()I"⟩, 10), (⟨"RescanMill", "divert", "()I"⟩, 10), (⟨"RescanMill", "undivert", "()I"⟩, 10), (⟨"RescanMill", "changeQuotes", "()I"⟩, 10)]
theorem lw_r3 : ∀ q ∈ lw_privs_3, lw_okq q := List.forall_mem_cons.mpr ⟨lw_p32, List.forall_mem_cons.mpr ⟨lw_p33, List.forall_mem_cons.mpr ⟨lw_p34, List.forall_mem_cons.mpr ⟨lw_p35, List.forall_mem_cons.mpr ⟨lw_p36, List.forall_mem_cons.mpr ⟨lw_p37, List.forall_mem_cons.mpr ⟨lw_p38, List.forall_mem_cons.mpr ⟨lw_p39, List.forall_mem_cons.mpr ⟨lw_p40, List.forall_mem_cons.mpr ⟨lw_p41, List.forall_mem_cons.mpr ⟨lw_p42, List.forall_mem_cons.mpr ⟨lw_p43, List.forall_mem_cons.mpr ⟨lw_p44, List.forall_mem_cons.mpr ⟨lw_p45, List.forall_mem_cons.mpr ⟨lw_p46, List.forall_mem_cons.mpr ⟨lw_p47, fun _ h => absurd h List.not_mem_nil⟩⟩⟩⟩⟩⟩⟩⟩⟩⟩⟩⟩⟩⟩⟩⟩
theorem lw_p48 : lw_okq (⟨"RescanMill", "isQuote", "(II)Z"⟩, 10) := ⟨⟨by decide +kernel, by decide +kernel⟩, List.mem_of_getElem? (i := 22) (by decide +kernel), List.mem_of_getElem? (i := 877) (by decide +kernel), List.mem_of_getElem? (i := 878) (by decide +kernel)⟩
theorem lw_p49 : lw_okq (⟨"RescanMill", "finish", "(I)V"⟩, 10) := ⟨⟨by decide +kernel, by decide +kernel⟩, List.mem_of_getElem? (i := 22) (by decide +kernel), List.mem_of_getElem? (i := 890) (by decide +kernel), List.mem_of_getElem? (i := 891) (by decide +kernel)⟩
theorem lw_p50 : lw_okq (⟨"RescanMillModel", "beginMeanings", "()V"⟩, 47) := ⟨⟨by decide +kernel, by decide +kernel⟩, List.mem_of_getElem? (i := 914) (by decide +kernel), List.mem_of_getElem? (i := 1082) (by decide +kernel), List.mem_of_getElem? (i := 1083) (by decide +kernel)⟩
theorem lw_p51 : lw_okq (⟨"RescanMillModel", "readToken", "()V"⟩, 47) := ⟨⟨by decide +kernel, by decide +kernel⟩, List.mem_of_getElem? (i := 914) (by decide +kernel), List.mem_of_getElem? (i := 1108) (by decide +kernel), List.mem_of_getElem? (i := 1109) (by decide +kernel)⟩
theorem lw_p52 : lw_okq (⟨"RescanMillModel", "peek", "(I)I"⟩, 47) := ⟨⟨by decide +kernel, by decide +kernel⟩, List.mem_of_getElem? (i := 914) (by decide +kernel), List.mem_of_getElem? (i := 1112) (by decide +kernel), List.mem_of_getElem? (i := 1113) (by decide +kernel)⟩
theorem lw_p53 : lw_okq (⟨"RescanMillModel", "isAhead", "([II)Z"⟩, 47) := ⟨⟨by decide +kernel, by decide +kernel⟩, List.mem_of_getElem? (i := 914) (by decide +kernel), List.mem_of_getElem? (i := 1116) (by decide +kernel), List.mem_of_getElem? (i := 1117) (by decide +kernel)⟩
theorem lw_p54 : lw_okq (⟨"RescanMillModel", "readQuoted", "()V"⟩, 47) := ⟨⟨by decide +kernel, by decide +kernel⟩, List.mem_of_getElem? (i := 914) (by decide +kernel), List.mem_of_getElem? (i := 1120) (by decide +kernel), List.mem_of_getElem? (i := 1121) (by decide +kernel)⟩
theorem lw_p55 : lw_okq (⟨"RescanMillModel", "pass", "(IZ)V"⟩, 47) := ⟨⟨by decide +kernel, by decide +kernel⟩, List.mem_of_getElem? (i := 914) (by decide +kernel), List.mem_of_getElem? (i := 1124) (by decide +kernel), List.mem_of_getElem? (i := 1125) (by decide +kernel)⟩
theorem lw_p56 : lw_okq (⟨"RescanMillModel", "take", "()I"⟩, 47) := ⟨⟨by decide +kernel, by decide +kernel⟩, List.mem_of_getElem? (i := 914) (by decide +kernel), List.mem_of_getElem? (i := 1128) (by decide +kernel), List.mem_of_getElem? (i := 1129) (by decide +kernel)⟩
theorem lw_p57 : lw_okq (⟨"RescanMillModel", "fail1", "(I)V"⟩, 47) := ⟨⟨by decide +kernel, by decide +kernel⟩, List.mem_of_getElem? (i := 914) (by decide +kernel), List.mem_of_getElem? (i := 1132) (by decide +kernel), List.mem_of_getElem? (i := 1133) (by decide +kernel)⟩
theorem lw_p58 : lw_okq (⟨"RescanMillModel", "fail", "(II)V"⟩, 47) := ⟨⟨by decide +kernel, by decide +kernel⟩, List.mem_of_getElem? (i := 914) (by decide +kernel), List.mem_of_getElem? (i := 1136) (by decide +kernel), List.mem_of_getElem? (i := 1137) (by decide +kernel)⟩
theorem lw_p59 : lw_okq (⟨"RescanMillModel", "handle", "(Z)V"⟩, 47) := ⟨⟨by decide +kernel, by decide +kernel⟩, List.mem_of_getElem? (i := 914) (by decide +kernel), List.mem_of_getElem? (i := 1146) (by decide +kernel), List.mem_of_getElem? (i := 1147) (by decide +kernel)⟩
theorem lw_p60 : lw_okq (⟨"RescanMillModel", "top", "([BII)I"⟩, 47) := ⟨⟨by decide +kernel, by decide +kernel⟩, List.mem_of_getElem? (i := 914) (by decide +kernel), List.mem_of_getElem? (i := 1150) (by decide +kernel), List.mem_of_getElem? (i := 1151) (by decide +kernel)⟩
theorem lw_p61 : lw_okq (⟨"RescanMillModel", "isNamed", "(I[BII)Z"⟩, 47) := ⟨⟨by decide +kernel, by decide +kernel⟩, List.mem_of_getElem? (i := 914) (by decide +kernel), List.mem_of_getElem? (i := 1154) (by decide +kernel), List.mem_of_getElem? (i := 1155) (by decide +kernel)⟩
theorem lw_p62 : lw_okq (⟨"RescanMillModel", "putToken", "(Z)V"⟩, 47) := ⟨⟨by decide +kernel, by decide +kernel⟩, List.mem_of_getElem? (i := 914) (by decide +kernel), List.mem_of_getElem? (i := 1158) (by decide +kernel), List.mem_of_getElem? (i := 1159) (by decide +kernel)⟩
theorem lw_p63 : lw_okq (⟨"RescanMillModel", "putArgument", "(I)V"⟩, 47) := ⟨⟨by decide +kernel, by decide +kernel⟩, List.mem_of_getElem? (i := 914) (by decide +kernel), List.mem_of_getElem? (i := 1162) (by decide +kernel), List.mem_of_getElem? (i := 1163) (by decide +kernel)⟩
def lw_privs_4 : List (MethodName × Nat) := [(⟨"RescanMill", "isQuote", "(II)Z"⟩, 10), (⟨"RescanMill", "finish", "(I)V"⟩, 10), (⟨"RescanMillModel", "beginMeanings", "()V"⟩, 47), (⟨"RescanMillModel", "readToken", "()V"⟩, 47), (⟨"RescanMillModel", "peek", "(I)I"⟩, 47), (⟨"RescanMillModel", "isAhead", "([II)Z"⟩, 47), (⟨"RescanMillModel", "readQuoted", "()V"⟩, 47), (⟨"RescanMillModel", "pass", "(IZ)V"⟩, 47), (⟨"RescanMillModel", "take", "()I"⟩, 47), (⟨"RescanMillModel", "fail1", "(I)V"⟩, 47), (⟨"RescanMillModel", "fail", "(II)V"⟩, 47), (⟨"RescanMillModel", "handle", "(Z)V"⟩, 47), (⟨"RescanMillModel", "top", "([BII)I"⟩, 47), (⟨"RescanMillModel", "isNamed", "(I[BII)Z"⟩, 47), (⟨"RescanMillModel", "putToken", "(Z)V"⟩, 47), (⟨"RescanMillModel", "putArgument", "(I)V"⟩, 47)]
theorem lw_r4 : ∀ q ∈ lw_privs_4, lw_okq q := List.forall_mem_cons.mpr ⟨lw_p48, List.forall_mem_cons.mpr ⟨lw_p49, List.forall_mem_cons.mpr ⟨lw_p50, List.forall_mem_cons.mpr ⟨lw_p51, List.forall_mem_cons.mpr ⟨lw_p52, List.forall_mem_cons.mpr ⟨lw_p53, List.forall_mem_cons.mpr ⟨lw_p54, List.forall_mem_cons.mpr ⟨lw_p55, List.forall_mem_cons.mpr ⟨lw_p56, List.forall_mem_cons.mpr ⟨lw_p57, List.forall_mem_cons.mpr ⟨lw_p58, List.forall_mem_cons.mpr ⟨lw_p59, List.forall_mem_cons.mpr ⟨lw_p60, List.forall_mem_cons.mpr ⟨lw_p61, List.forall_mem_cons.mpr ⟨lw_p62, List.forall_mem_cons.mpr ⟨lw_p63, fun _ h => absurd h List.not_mem_nil⟩⟩⟩⟩⟩⟩⟩⟩⟩⟩⟩⟩⟩⟩⟩⟩
theorem lw_p64 : lw_okq (⟨"RescanMillModel", "divertByte", "(II)V"⟩, 47) := ⟨⟨by decide +kernel, by decide +kernel⟩, List.mem_of_getElem? (i := 914) (by decide +kernel), List.mem_of_getElem? (i := 1166) (by decide +kernel), List.mem_of_getElem? (i := 1167) (by decide +kernel)⟩
theorem lw_p65 : lw_okq (⟨"RescanMillModel", "readArguments", "()V"⟩, 47) := ⟨⟨by decide +kernel, by decide +kernel⟩, List.mem_of_getElem? (i := 914) (by decide +kernel), List.mem_of_getElem? (i := 1170) (by decide +kernel), List.mem_of_getElem? (i := 1171) (by decide +kernel)⟩
theorem lw_p66 : lw_okq (⟨"RescanMillModel", "beginArgument", "()V"⟩, 47) := ⟨⟨by decide +kernel, by decide +kernel⟩, List.mem_of_getElem? (i := 914) (by decide +kernel), List.mem_of_getElem? (i := 1174) (by decide +kernel), List.mem_of_getElem? (i := 1175) (by decide +kernel)⟩
theorem lw_p67 : lw_okq (⟨"RescanMillModel", "act", "(IIII)V"⟩, 47) := ⟨⟨by decide +kernel, by decide +kernel⟩, List.mem_of_getElem? (i := 914) (by decide +kernel), List.mem_of_getElem? (i := 1181) (by decide +kernel), List.mem_of_getElem? (i := 1182) (by decide +kernel)⟩
theorem lw_p68 : lw_okq (⟨"RescanMillModel", "giveText", "(IIII)V"⟩, 47) := ⟨⟨by decide +kernel, by decide +kernel⟩, List.mem_of_getElem? (i := 914) (by decide +kernel), List.mem_of_getElem? (i := 1185) (by decide +kernel), List.mem_of_getElem? (i := 1186) (by decide +kernel)⟩
theorem lw_p69 : lw_okq (⟨"RescanMillModel", "give", "(I)V"⟩, 47) := ⟨⟨by decide +kernel, by decide +kernel⟩, List.mem_of_getElem? (i := 914) (by decide +kernel), List.mem_of_getElem? (i := 1189) (by decide +kernel), List.mem_of_getElem? (i := 1190) (by decide +kernel)⟩
theorem lw_p70 : lw_okq (⟨"RescanMillModel", "inputLeft", "()I"⟩, 47) := ⟨⟨by decide +kernel, by decide +kernel⟩, List.mem_of_getElem? (i := 914) (by decide +kernel), List.mem_of_getElem? (i := 1193) (by decide +kernel), List.mem_of_getElem? (i := 1194) (by decide +kernel)⟩
theorem lw_p71 : lw_okq (⟨"RescanMillModel", "giveArgument", "(II)V"⟩, 47) := ⟨⟨by decide +kernel, by decide +kernel⟩, List.mem_of_getElem? (i := 914) (by decide +kernel), List.mem_of_getElem? (i := 1197) (by decide +kernel), List.mem_of_getElem? (i := 1198) (by decide +kernel)⟩
theorem lw_p72 : lw_okq (⟨"RescanMillModel", "argumentAt", "(II)I"⟩, 47) := ⟨⟨by decide +kernel, by decide +kernel⟩, List.mem_of_getElem? (i := 914) (by decide +kernel), List.mem_of_getElem? (i := 1201) (by decide +kernel), List.mem_of_getElem? (i := 1202) (by decide +kernel)⟩
theorem lw_p73 : lw_okq (⟨"RescanMillModel", "argumentSize", "(II)I"⟩, 47) := ⟨⟨by decide +kernel, by decide +kernel⟩, List.mem_of_getElem? (i := 914) (by decide +kernel), List.mem_of_getElem? (i := 1205) (by decide +kernel), List.mem_of_getElem? (i := 1206) (by decide +kernel)⟩
theorem lw_p74 : lw_okq (⟨"RescanMillModel", "giveNumber", "(J)V"⟩, 47) := ⟨⟨by decide +kernel, by decide +kernel⟩, List.mem_of_getElem? (i := 914) (by decide +kernel), List.mem_of_getElem? (i := 1209) (by decide +kernel), List.mem_of_getElem? (i := 1210) (by decide +kernel)⟩
theorem lw_p75 : lw_okq (⟨"RescanMillModel", "giveQuotedArgument", "(II)V"⟩, 47) := ⟨⟨by decide +kernel, by decide +kernel⟩, List.mem_of_getElem? (i := 914) (by decide +kernel), List.mem_of_getElem? (i := 1216) (by decide +kernel), List.mem_of_getElem? (i := 1217) (by decide +kernel)⟩
theorem lw_p76 : lw_okq (⟨"RescanMillModel", "define", "(IZ)V"⟩, 47) := ⟨⟨by decide +kernel, by decide +kernel⟩, List.mem_of_getElem? (i := 914) (by decide +kernel), List.mem_of_getElem? (i := 1220) (by decide +kernel), List.mem_of_getElem? (i := 1221) (by decide +kernel)⟩
theorem lw_p77 : lw_okq (⟨"RescanMillModel", "isNameArgument", "(I)Z"⟩, 47) := ⟨⟨by decide +kernel, by decide +kernel⟩, List.mem_of_getElem? (i := 914) (by decide +kernel), List.mem_of_getElem? (i := 1224) (by decide +kernel), List.mem_of_getElem? (i := 1225) (by decide +kernel)⟩
theorem lw_p78 : lw_okq (⟨"RescanMillModel", "forget", "(I)V"⟩, 47) := ⟨⟨by decide +kernel, by decide +kernel⟩, List.mem_of_getElem? (i := 914) (by decide +kernel), List.mem_of_getElem? (i := 1228) (by decide +kernel), List.mem_of_getElem? (i := 1229) (by decide +kernel)⟩
theorem lw_p79 : lw_okq (⟨"RescanMillModel", "addMeaning", "(IIII)V"⟩, 47) := ⟨⟨by decide +kernel, by decide +kernel⟩, List.mem_of_getElem? (i := 914) (by decide +kernel), List.mem_of_getElem? (i := 1232) (by decide +kernel), List.mem_of_getElem? (i := 1233) (by decide +kernel)⟩
def lw_privs_5 : List (MethodName × Nat) := [(⟨"RescanMillModel", "divertByte", "(II)V"⟩, 47), (⟨"RescanMillModel", "readArguments", "()V"⟩, 47), (⟨"RescanMillModel", "beginArgument", "()V"⟩, 47), (⟨"RescanMillModel", "act", "(IIII)V"⟩, 47), (⟨"RescanMillModel", "giveText", "(IIII)V"⟩, 47), (⟨"RescanMillModel", "give", "(I)V"⟩, 47), (⟨"RescanMillModel", "inputLeft", "()I"⟩, 47), (⟨"RescanMillModel", "giveArgument", "(II)V"⟩, 47), (⟨"RescanMillModel", "argumentAt", "(II)I"⟩, 47), (⟨"RescanMillModel", "argumentSize", "(II)I"⟩, 47), (⟨"RescanMillModel", "giveNumber", "(J)V"⟩, 47), (⟨"RescanMillModel", "giveQuotedArgument", "(II)V"⟩, 47), (⟨"RescanMillModel", "define", "(IZ)V"⟩, 47), (⟨"RescanMillModel", "isNameArgument", "(I)Z"⟩, 47), (⟨"RescanMillModel", "forget", "(I)V"⟩, 47), (⟨"RescanMillModel", "addMeaning", "(IIII)V"⟩, 47)]
theorem lw_r5 : ∀ q ∈ lw_privs_5, lw_okq q := List.forall_mem_cons.mpr ⟨lw_p64, List.forall_mem_cons.mpr ⟨lw_p65, List.forall_mem_cons.mpr ⟨lw_p66, List.forall_mem_cons.mpr ⟨lw_p67, List.forall_mem_cons.mpr ⟨lw_p68, List.forall_mem_cons.mpr ⟨lw_p69, List.forall_mem_cons.mpr ⟨lw_p70, List.forall_mem_cons.mpr ⟨lw_p71, List.forall_mem_cons.mpr ⟨lw_p72, List.forall_mem_cons.mpr ⟨lw_p73, List.forall_mem_cons.mpr ⟨lw_p74, List.forall_mem_cons.mpr ⟨lw_p75, List.forall_mem_cons.mpr ⟨lw_p76, List.forall_mem_cons.mpr ⟨lw_p77, List.forall_mem_cons.mpr ⟨lw_p78, List.forall_mem_cons.mpr ⟨lw_p79, fun _ h => absurd h List.not_mem_nil⟩⟩⟩⟩⟩⟩⟩⟩⟩⟩⟩⟩⟩⟩⟩⟩
theorem lw_p80 : lw_okq (⟨"RescanMillModel", "choose", "(II)V"⟩, 47) := ⟨⟨by decide +kernel, by decide +kernel⟩, List.mem_of_getElem? (i := 914) (by decide +kernel), List.mem_of_getElem? (i := 1236) (by decide +kernel), List.mem_of_getElem? (i := 1237) (by decide +kernel)⟩
theorem lw_p81 : lw_okq (⟨"RescanMillModel", "same", "(III)Z"⟩, 47) := ⟨⟨by decide +kernel, by decide +kernel⟩, List.mem_of_getElem? (i := 914) (by decide +kernel), List.mem_of_getElem? (i := 1240) (by decide +kernel), List.mem_of_getElem? (i := 1241) (by decide +kernel)⟩
theorem lw_p82 : lw_okq (⟨"RescanMillModel", "evaluate", "(I)V"⟩, 47) := ⟨⟨by decide +kernel, by decide +kernel⟩, List.mem_of_getElem? (i := 914) (by decide +kernel), List.mem_of_getElem? (i := 1244) (by decide +kernel), List.mem_of_getElem? (i := 1245) (by decide +kernel)⟩
theorem lw_p83 : lw_okq (⟨"RescanMillModel", "operands", "()I"⟩, 47) := ⟨⟨by decide +kernel, by decide +kernel⟩, List.mem_of_getElem? (i := 914) (by decide +kernel), List.mem_of_getElem? (i := 1248) (by decide +kernel), List.mem_of_getElem? (i := 1249) (by decide +kernel)⟩
theorem lw_p84 : lw_okq (⟨"RescanMillModel", "unary", "()I"⟩, 47) := ⟨⟨by decide +kernel, by decide +kernel⟩, List.mem_of_getElem? (i := 914) (by decide +kernel), List.mem_of_getElem? (i := 1252) (by decide +kernel), List.mem_of_getElem? (i := 1253) (by decide +kernel)⟩
theorem lw_p85 : lw_okq (⟨"RescanMillModel", "skipBlanks", "()V"⟩, 47) := ⟨⟨by decide +kernel, by decide +kernel⟩, List.mem_of_getElem? (i := 914) (by decide +kernel), List.mem_of_getElem? (i := 1256) (by decide +kernel), List.mem_of_getElem? (i := 1257) (by decide +kernel)⟩
theorem lw_p86 : lw_okq (⟨"RescanMillModel", "sign", "(I)I"⟩, 47) := ⟨⟨by decide +kernel, by decide +kernel⟩, List.mem_of_getElem? (i := 914) (by decide +kernel), List.mem_of_getElem? (i := 1260) (by decide +kernel), List.mem_of_getElem? (i := 1261) (by decide +kernel)⟩
theorem lw_p87 : lw_okq (⟨"RescanMillModel", "numeral", "()I"⟩, 47) := ⟨⟨by decide +kernel, by decide +kernel⟩, List.mem_of_getElem? (i := 914) (by decide +kernel), List.mem_of_getElem? (i := 1264) (by decide +kernel), List.mem_of_getElem? (i := 1265) (by decide +kernel)⟩
theorem lw_p88 : lw_okq (⟨"RescanMillModel", "operator", "()I"⟩, 47) := ⟨⟨by decide +kernel, by decide +kernel⟩, List.mem_of_getElem? (i := 914) (by decide +kernel), List.mem_of_getElem? (i := 1268) (by decide +kernel), List.mem_of_getElem? (i := 1269) (by decide +kernel)⟩
theorem lw_p89 : lw_okq (⟨"RescanMillModel", "settle", "(I)I"⟩, 47) := ⟨⟨by decide +kernel, by decide +kernel⟩, List.mem_of_getElem? (i := 914) (by decide +kernel), List.mem_of_getElem? (i := 1275) (by decide +kernel), List.mem_of_getElem? (i := 1276) (by decide +kernel)⟩
theorem lw_p90 : lw_okq (⟨"RescanMillModel", "apply", "(III)I"⟩, 47) := ⟨⟨by decide +kernel, by decide +kernel⟩, List.mem_of_getElem? (i := 914) (by decide +kernel), List.mem_of_getElem? (i := 1279) (by decide +kernel), List.mem_of_getElem? (i := 1280) (by decide +kernel)⟩
theorem lw_p91 : lw_okq (⟨"RescanMillModel", "number", "(II)I"⟩, 47) := ⟨⟨by decide +kernel, by decide +kernel⟩, List.mem_of_getElem? (i := 914) (by decide +kernel), List.mem_of_getElem? (i := 1283) (by decide +kernel), List.mem_of_getElem? (i := 1284) (by decide +kernel)⟩
theorem lw_p92 : lw_okq (⟨"RescanMillModel", "giveIfRight", "(J)V"⟩, 47) := ⟨⟨by decide +kernel, by decide +kernel⟩, List.mem_of_getElem? (i := 914) (by decide +kernel), List.mem_of_getElem? (i := 1287) (by decide +kernel), List.mem_of_getElem? (i := 1288) (by decide +kernel)⟩
theorem lw_p93 : lw_okq (⟨"RescanMillModel", "placeOf", "(I)I"⟩, 47) := ⟨⟨by decide +kernel, by decide +kernel⟩, List.mem_of_getElem? (i := 914) (by decide +kernel), List.mem_of_getElem? (i := 1291) (by decide +kernel), List.mem_of_getElem? (i := 1292) (by decide +kernel)⟩
theorem lw_p94 : lw_okq (⟨"RescanMillModel", "giveSome", "(II)V"⟩, 47) := ⟨⟨by decide +kernel, by decide +kernel⟩, List.mem_of_getElem? (i := 914) (by decide +kernel), List.mem_of_getElem? (i := 1295) (by decide +kernel), List.mem_of_getElem? (i := 1296) (by decide +kernel)⟩
theorem lw_p95 : lw_okq (⟨"RescanMillModel", "actOnInput", "(III)V"⟩, 47) := ⟨⟨by decide +kernel, by decide +kernel⟩, List.mem_of_getElem? (i := 914) (by decide +kernel), List.mem_of_getElem? (i := 1299) (by decide +kernel), List.mem_of_getElem? (i := 1300) (by decide +kernel)⟩
def lw_privs_6 : List (MethodName × Nat) := [(⟨"RescanMillModel", "choose", "(II)V"⟩, 47), (⟨"RescanMillModel", "same", "(III)Z"⟩, 47), (⟨"RescanMillModel", "evaluate", "(I)V"⟩, 47), (⟨"RescanMillModel", "operands", "()I"⟩, 47), (⟨"RescanMillModel", "unary", "()I"⟩, 47), (⟨"RescanMillModel", "skipBlanks", "()V"⟩, 47), (⟨"RescanMillModel", "sign", "(I)I"⟩, 47), (⟨"RescanMillModel", "numeral", "()I"⟩, 47), (⟨"RescanMillModel", "operator", "()I"⟩, 47), (⟨"RescanMillModel", "settle", "(I)I"⟩, 47), (⟨"RescanMillModel", "apply", "(III)I"⟩, 47), (⟨"RescanMillModel", "number", "(II)I"⟩, 47), (⟨"RescanMillModel", "giveIfRight", "(J)V"⟩, 47), (⟨"RescanMillModel", "placeOf", "(I)I"⟩, 47), (⟨"RescanMillModel", "giveSome", "(II)V"⟩, 47), (⟨"RescanMillModel", "actOnInput", "(III)V"⟩, 47)]
theorem lw_r6 : ∀ q ∈ lw_privs_6, lw_okq q := List.forall_mem_cons.mpr ⟨lw_p80, List.forall_mem_cons.mpr ⟨lw_p81, List.forall_mem_cons.mpr ⟨lw_p82, List.forall_mem_cons.mpr ⟨lw_p83, List.forall_mem_cons.mpr ⟨lw_p84, List.forall_mem_cons.mpr ⟨lw_p85, List.forall_mem_cons.mpr ⟨lw_p86, List.forall_mem_cons.mpr ⟨lw_p87, List.forall_mem_cons.mpr ⟨lw_p88, List.forall_mem_cons.mpr ⟨lw_p89, List.forall_mem_cons.mpr ⟨lw_p90, List.forall_mem_cons.mpr ⟨lw_p91, List.forall_mem_cons.mpr ⟨lw_p92, List.forall_mem_cons.mpr ⟨lw_p93, List.forall_mem_cons.mpr ⟨lw_p94, List.forall_mem_cons.mpr ⟨lw_p95, fun _ h => absurd h List.not_mem_nil⟩⟩⟩⟩⟩⟩⟩⟩⟩⟩⟩⟩⟩⟩⟩⟩
theorem lw_p96 : lw_okq (⟨"RescanMillModel", "undivert", "(I)V"⟩, 47) := ⟨⟨by decide +kernel, by decide +kernel⟩, List.mem_of_getElem? (i := 914) (by decide +kernel), List.mem_of_getElem? (i := 1303) (by decide +kernel), List.mem_of_getElem? (i := 1304) (by decide +kernel)⟩
theorem lw_p97 : lw_okq (⟨"RescanMillModel", "changeQuotes", "(II)V"⟩, 47) := ⟨⟨by decide +kernel, by decide +kernel⟩, List.mem_of_getElem? (i := 914) (by decide +kernel), List.mem_of_getElem? (i := 1307) (by decide +kernel), List.mem_of_getElem? (i := 1308) (by decide +kernel)⟩
theorem lw_p98 : lw_okq (⟨"RescanMillModel", "isQuote", "(II)Z"⟩, 47) := ⟨⟨by decide +kernel, by decide +kernel⟩, List.mem_of_getElem? (i := 914) (by decide +kernel), List.mem_of_getElem? (i := 1311) (by decide +kernel), List.mem_of_getElem? (i := 1312) (by decide +kernel)⟩
theorem lw_p99 : lw_okq (⟨"RescanMillModel", "putBack", "()V"⟩, 47) := ⟨⟨by decide +kernel, by decide +kernel⟩, List.mem_of_getElem? (i := 914) (by decide +kernel), List.mem_of_getElem? (i := 1315) (by decide +kernel), List.mem_of_getElem? (i := 1316) (by decide +kernel)⟩
def lw_privs_7 : List (MethodName × Nat) := [(⟨"RescanMillModel", "undivert", "(I)V"⟩, 47), (⟨"RescanMillModel", "changeQuotes", "(II)V"⟩, 47), (⟨"RescanMillModel", "isQuote", "(II)Z"⟩, 47), (⟨"RescanMillModel", "putBack", "()V"⟩, 47)]
theorem lw_r7 : ∀ q ∈ lw_privs_7, lw_okq q := List.forall_mem_cons.mpr ⟨lw_p96, List.forall_mem_cons.mpr ⟨lw_p97, List.forall_mem_cons.mpr ⟨lw_p98, List.forall_mem_cons.mpr ⟨lw_p99, fun _ h => absurd h List.not_mem_nil⟩⟩⟩⟩
def lw_privs : List (MethodName × Nat) := lw_privs_1 ++ (lw_privs_2 ++ (lw_privs_3 ++ (lw_privs_4 ++ (lw_privs_5 ++ (lw_privs_6 ++ (lw_privs_7))))))
def lw_tbl : List Cond := k2_sels lw_privs ++ tables_1
theorem lw_privs_ok : ∀ q ∈ lw_privs, lw_okq q := by
  show ∀ q ∈ lw_privs_1 ++ (lw_privs_2 ++ (lw_privs_3 ++ (lw_privs_4 ++ (lw_privs_5 ++ (lw_privs_6 ++ (lw_privs_7)))))), lw_okq q
  exact List.forall_mem_append.mpr ⟨lw_r1, List.forall_mem_append.mpr ⟨lw_r2, List.forall_mem_append.mpr ⟨lw_r3, List.forall_mem_append.mpr ⟨lw_r4, List.forall_mem_append.mpr ⟨lw_r5, List.forall_mem_append.mpr ⟨lw_r6, lw_r7⟩⟩⟩⟩⟩⟩
end
section
def tbG : List Cond := lw_tbl.filter goodWord
theorem tbG_good : ∀ w ∈ tbG, (w.onTables && w.keeps) = true ∨ ∃ ty, w = .arrayClass ty := fun w h => good_of_word (List.mem_filter.mp h).2
theorem tb_in {i : Nat} {w : Cond} (h : tables_1[i]? = some w) (g : goodWord w = true) : w ∈ tbG := List.mem_filter.mpr ⟨List.mem_append_right _ (List.mem_of_getElem? h), g⟩
theorem ts_in {i : Nat} {w : Cond} (h : (k2_sels lw_privs)[i]? = some w) (g : goodWord w = true) : w ∈ tbG := List.mem_filter.mpr ⟨List.mem_append_left _ (List.mem_of_getElem? h), g⟩
theorem in_ps {ws : List Cond} (ps : List Nat) (hp : ws = ps.filterMap (fun i => tables_1[i]?)) (hg : ws.all goodWord = true) : ∀ w ∈ ws, w ∈ tbG := by
  intro w hw
  have h1 := List.all_eq_true.mp hg w hw
  rw [hp] at hw
  obtain ⟨i, -, hi⟩ := List.mem_filterMap.mp hw
  exact tb_in hi h1
def T_Mi : u_T := fun k => match k with
  | 0 => ("RescanMill", "text", "LRescanMill$Bytes;", true)
  | 1 => ("RescanMill", "out", "LRescanMill$Bytes;", true)
  | 2 => ("RescanMill", "result", "LRescanMill$Bytes;", true)
  | 3 => ("RescanMill", "input", "LRescanMill$Input;", true)
  | 4 => ("RescanMill", "calls", "LRescanMill$Calls;", true)
  | 5 => ("RescanMill", "meanings", "LRescanMill$Meanings;", true)
  | 6 => ("RescanMill", "diversions", "LRescanMill$Diversions;", true)
  | 7 => ("RescanMill", "expression", "LRescanMill$Expression;", true)
  | 8 => ("RescanMill", "fallBack", "[I", true)
  | _ => ("RescanMill", "errorLine", "I", false)
def T_By : u_T := fun k => match k with
  | 0 => ("RescanMill$Bytes", "row", "[B", true)
  | 1 => ("RescanMill$Bytes", "count", "I", false)
  | _ => ("RescanMill$Bytes", "over", "Z", false)
def T_Ca : u_T := fun k => match k with
  | 0 => ("RescanMill$Calls", "held", "LRescanMill$Bytes;", true)
  | 1 => ("RescanMill$Calls", "open", "I", false)
  | 2 => ("RescanMill$Calls", "complete", "Z", false)
  | 3 => ("RescanMill$Calls", "argumentStarts", "[I", true)
  | 4 => ("RescanMill$Calls", "argumentsHeld", "I", false)
  | 5 => ("RescanMill$Calls", "nameStarts", "[I", true)
  | 6 => ("RescanMill$Calls", "firstArguments", "[I", true)
  | 7 => ("RescanMill$Calls", "nested", "[I", true)
  | _ => ("RescanMill$Calls", "tokenCame", "[Z", true)
def T_Ce : u_T := fun k => match k with
  | 0 => ("RescanMill$Cells", "bytes", "[B", true)
  | 1 => ("RescanMill$Cells", "next", "[I", true)
  | 2 => ("RescanMill$Cells", "fresh", "I", false)
  | 3 => ("RescanMill$Cells", "free", "I", false)
  | _ => ("RescanMill$Cells", "used", "I", false)
def T_Ch : u_T := fun k => match k with
  | 0 => ("RescanMill$Chain", "first", "I", false)
  | 1 => ("RescanMill$Chain", "last", "I", false)
  | _ => ("RescanMill$Chain", "count", "I", false)
def T_Di : u_T := fun k => match k with
  | 0 => ("RescanMill$Diversions", "current", "I", false)
  | 1 => ("RescanMill$Diversions", "cells", "LRescanMill$Cells;", true)
  | _ => ("RescanMill$Diversions", "chains", "[LRescanMill$Chain;", true)
def T_Ex : u_T := fun k => match k with
  | 0 => ("RescanMill$Expression", "source", "LRescanMill$Bytes;", false)
  | 1 => ("RescanMill$Expression", "at", "I", false)
  | 2 => ("RescanMill$Expression", "end", "I", false)
  | 3 => ("RescanMill$Expression", "values", "[I", true)
  | 4 => ("RescanMill$Expression", "valueCount", "I", false)
  | 5 => ("RescanMill$Expression", "waiting", "[LRescanMill$Operator;", true)
  | 6 => ("RescanMill$Expression", "waitingCount", "I", false)
  | 7 => ("RescanMill$Expression", "nested", "I", false)
  | 8 => ("RescanMill$Expression", "valueDue", "Z", false)
  | _ => ("RescanMill$Expression", "byZero", "Z", false)
def T_In : u_T := fun k => match k with
  | 0 => ("RescanMill$Input", "opening", "LRescanMill$Bytes;", true)
  | 1 => ("RescanMill$Input", "closing", "LRescanMill$Bytes;", true)
  | 2 => ("RescanMill$Input", "token", "LRescanMill$Bytes;", true)
  | 3 => ("RescanMill$Input", "kind", "I", false)
  | 4 => ("RescanMill$Input", "tokenLine", "I", false)
  | 5 => ("RescanMill$Input", "taken", "I", false)
  | 6 => ("RescanMill$Input", "text", "LRescanMill$Bytes;", false)
  | 7 => ("RescanMill$Input", "textAt", "I", false)
  | 8 => ("RescanMill$Input", "back", "[B", true)
  | 9 => ("RescanMill$Input", "backAt", "I", false)
  | 10 => ("RescanMill$Input", "fuel", "I", false)
  | _ => ("RescanMill$Input", "lines", "I", false)
def T_Me : u_T := fun k => match k with
  | 0 => ("RescanMill$Meaning", "name", "LRescanMill$Chain;", true)
  | 1 => ("RescanMill$Meaning", "text", "LRescanMill$Chain;", true)
  | 2 => ("RescanMill$Meaning", "builtIn", "LRescanMill$BuiltIn;", false)
  | 3 => ("RescanMill$Meaning", "hash", "I", false)
  | _ => ("RescanMill$Meaning", "next", "LRescanMill$Meaning;", false)
def T_Ms : u_T := fun k => match k with
  | 0 => ("RescanMill$Meanings", "cells", "LRescanMill$Cells;", true)
  | 1 => ("RescanMill$Meanings", "defined", "I", false)
  | 2 => ("RescanMill$Meanings", "definedBytes", "I", false)
  | 3 => ("RescanMill$Meanings", "buckets", "[LRescanMill$Meaning;", true)
  | 4 => ("RescanMill$Meanings", "all", "[LRescanMill$Meaning;", true)
  | _ => ("RescanMill$Meanings", "spare", "LRescanMill$Meaning;", false)
def T_Rf : u_T := fun k => match k with
  | 0 => ("RescanMillModel", "textSize", "I", false)
  | 1 => ("RescanMillModel", "text", "[B", true)
  | 2 => ("RescanMillModel", "error", "I", false)
  | 3 => ("RescanMillModel", "errorLine", "I", false)
  | 4 => ("RescanMillModel", "tokensRead", "I", false)
  | 5 => ("RescanMillModel", "out", "[B", true)
  | 6 => ("RescanMillModel", "outSize", "I", false)
  | 7 => ("RescanMillModel", "input", "[B", true)
  | 8 => ("RescanMillModel", "inputAt", "I", false)
  | 9 => ("RescanMillModel", "mainLeft", "I", false)
  | 10 => ("RescanMillModel", "line", "I", false)
  | 11 => ("RescanMillModel", "fuel", "I", false)
  | 12 => ("RescanMillModel", "open", "[I", true)
  | 13 => ("RescanMillModel", "openSize", "I", false)
  | 14 => ("RescanMillModel", "close", "[I", true)
  | 15 => ("RescanMillModel", "closeSize", "I", false)
  | 16 => ("RescanMillModel", "kind", "I", false)
  | 17 => ("RescanMillModel", "token", "[B", true)
  | 18 => ("RescanMillModel", "tokenSize", "I", false)
  | 19 => ("RescanMillModel", "given", "[B", true)
  | 20 => ("RescanMillModel", "givenSize", "I", false)
  | 21 => ("RescanMillModel", "meanings", "I", false)
  | 22 => ("RescanMillModel", "meaningAt", "[I", true)
  | 23 => ("RescanMillModel", "meaningName", "[I", true)
  | 24 => ("RescanMillModel", "meaningText", "[I", true)
  | 25 => ("RescanMillModel", "builtIn", "[I", true)
  | 26 => ("RescanMillModel", "texts", "[B", true)
  | 27 => ("RescanMillModel", "textsSize", "I", false)
  | 28 => ("RescanMillModel", "defined", "I", false)
  | 29 => ("RescanMillModel", "definedBytes", "I", false)
  | 30 => ("RescanMillModel", "diverted", "[B", true)
  | 31 => ("RescanMillModel", "divertedSize", "[I", true)
  | 32 => ("RescanMillModel", "divertedAll", "I", false)
  | 33 => ("RescanMillModel", "current", "I", false)
  | 34 => ("RescanMillModel", "calls", "I", false)
  | 35 => ("RescanMillModel", "arguments", "[B", true)
  | 36 => ("RescanMillModel", "argumentsSize", "I", false)
  | 37 => ("RescanMillModel", "starts", "I", false)
  | 38 => ("RescanMillModel", "start", "[I", true)
  | 39 => ("RescanMillModel", "place", "I", false)
  | 40 => ("RescanMillModel", "stop", "I", false)
  | 41 => ("RescanMillModel", "wrong", "Z", false)
  | 42 => ("RescanMillModel", "divided", "Z", false)
  | 43 => ("RescanMillModel", "nested", "I", false)
  | 44 => ("RescanMillModel", "waiting", "I", false)
  | 45 => ("RescanMillModel", "waitingSign", "[I", true)
  | _ => ("RescanMillModel", "waitingValue", "[I", true)
def vwCl : List vw_C := [("RescanMill", T_Mi, 10), ("RescanMill$Bytes", T_By, 3), ("RescanMill$Calls", T_Ca, 9), ("RescanMill$Cells", T_Ce, 5), ("RescanMill$Chain", T_Ch, 3), ("RescanMill$Diversions", T_Di, 3), ("RescanMill$Expression", T_Ex, 10), ("RescanMill$Input", T_In, 12), ("RescanMill$Meaning", T_Me, 5), ("RescanMill$Meanings", T_Ms, 6), ("RescanMillModel", T_Rf, 47)]
def nfT (ci : Nat) : Nat := match ci with
  | 0 => 10
  | 1 => 3
  | 2 => 9
  | 3 => 5
  | 4 => 3
  | 5 => 3
  | 6 => 10
  | 7 => 12
  | 8 => 5
  | 9 => 6
  | 10 => 47
  | _ => 0
def f_Mi : List (Nat × FieldType) := [(2, .object "RescanMill$Bytes"), (2, .object "RescanMill$Bytes"), (2, .object "RescanMill$Bytes"), (2, .object "RescanMill$Input"), (2, .object "RescanMill$Calls"), (2, .object "RescanMill$Meanings"), (2, .object "RescanMill$Diversions"), (2, .object "RescanMill$Expression"), (2, .array .int), (0, .int)]
def f_By : List (Nat × FieldType) := [(2, .array .byte), (0, .int), (0, .boolean)]
def f_Ca : List (Nat × FieldType) := [(2, .object "RescanMill$Bytes"), (0, .int), (0, .boolean), (2, .array .int), (0, .int), (2, .array .int), (2, .array .int), (2, .array .int), (2, .array .boolean)]
def f_Ce : List (Nat × FieldType) := [(2, .array .byte), (2, .array .int), (0, .int), (0, .int), (0, .int)]
def f_Ch : List (Nat × FieldType) := [(0, .int), (0, .int), (0, .int)]
def f_Di : List (Nat × FieldType) := [(0, .int), (2, .object "RescanMill$Cells"), (2, .array (.object "RescanMill$Chain"))]
def f_Ex : List (Nat × FieldType) := [(1, .object "RescanMill$Bytes"), (0, .int), (0, .int), (2, .array .int), (0, .int), (2, .array (.object "RescanMill$Operator")), (0, .int), (0, .int), (0, .boolean), (0, .boolean)]
def f_In : List (Nat × FieldType) := [(2, .object "RescanMill$Bytes"), (2, .object "RescanMill$Bytes"), (2, .object "RescanMill$Bytes"), (0, .int), (0, .int), (0, .int), (1, .object "RescanMill$Bytes"), (0, .int), (2, .array .byte), (0, .int), (0, .int), (0, .int)]
def f_Me : List (Nat × FieldType) := [(2, .object "RescanMill$Chain"), (2, .object "RescanMill$Chain"), (1, .object "RescanMill$BuiltIn"), (0, .int), (1, .object "RescanMill$Meaning")]
def f_Ms : List (Nat × FieldType) := [(2, .object "RescanMill$Cells"), (0, .int), (0, .int), (2, .array (.object "RescanMill$Meaning")), (2, .array (.object "RescanMill$Meaning")), (1, .object "RescanMill$Meaning")]
def f_Rf : List (Nat × FieldType) := [(0, .int), (2, .array .byte), (0, .int), (0, .int), (0, .int), (2, .array .byte), (0, .int), (2, .array .byte), (0, .int), (0, .int), (0, .int), (0, .int), (2, .array .int), (0, .int), (2, .array .int), (0, .int), (0, .int), (2, .array .byte), (0, .int), (2, .array .byte), (0, .int), (0, .int), (2, .array .int), (2, .array .int), (2, .array .int), (2, .array .int), (2, .array .byte), (0, .int), (0, .int), (0, .int), (2, .array .byte), (2, .array .int), (0, .int), (0, .int), (0, .int), (2, .array .byte), (0, .int), (0, .int), (2, .array .int), (0, .int), (0, .int), (0, .boolean), (0, .boolean), (0, .int), (0, .int), (2, .array .int), (2, .array .int)]
def fkT (ci : Nat) : List (Nat × FieldType) := match ci with
  | 0 => f_Mi
  | 1 => f_By
  | 2 => f_Ca
  | 3 => f_Ce
  | 4 => f_Ch
  | 5 => f_Di
  | 6 => f_Ex
  | 7 => f_In
  | 8 => f_Me
  | 9 => f_Ms
  | 10 => f_Rf
  | _ => []
def fsT (ci k : Nat) : Nat := ((fkT ci).getD k (0, .int)).1
def ftT (ci k : Nat) : FieldType := ((fkT ci).getD k (0, .int)).2
def tyT : List FieldType := [.int, .byte, .boolean, .object "RescanMill$Chain", .object "RescanMill$Meaning", .object "RescanMill$Operator"]
def kdT (i : Nat) : Nat ⊕ (Nat × Nat) := if 31 ≤ i ∧ i < 982 then (if (i - 31) % 3 = 0 then .inl 8 else .inl 4) else if 987 ≤ i ∧ i < 997 then .inl 4 else match i with
  | 0 => .inl 0
  | 1 => .inl 1
  | 2 => .inr (1, 32768)
  | 3 => .inl 1
  | 4 => .inr (1, 32768)
  | 5 => .inl 1
  | 6 => .inr (1, 32768)
  | 7 => .inl 7
  | 8 => .inl 1
  | 9 => .inr (1, 4)
  | 10 => .inl 1
  | 11 => .inr (1, 4)
  | 12 => .inl 1
  | 13 => .inr (1, 32768)
  | 14 => .inl 1
  | 15 => .inr (1, 0)
  | 16 => .inr (1, 32768)
  | 17 => .inl 2
  | 18 => .inl 1
  | 19 => .inr (1, 16384)
  | 20 => .inr (0, 8192)
  | 21 => .inr (0, 50)
  | 22 => .inr (0, 50)
  | 23 => .inr (0, 50)
  | 24 => .inr (2, 50)
  | 25 => .inl 9
  | 26 => .inl 3
  | 27 => .inr (1, 16512)
  | 28 => .inr (0, 16512)
  | 29 => .inr (4, 128)
  | 30 => .inr (4, 317)
  | 982 => .inl 5
  | 983 => .inl 3
  | 984 => .inr (1, 32768)
  | 985 => .inr (0, 32768)
  | 986 => .inr (3, 10)
  | 997 => .inl 6
  | 998 => .inl 1
  | 999 => .inr (1, 0)
  | 1000 => .inr (0, 342)
  | 1001 => .inr (5, 341)
  | 1002 => .inr (0, 8192)
  | 1003 => .inl 10
  | 1004 => .inr (1, 32768)
  | 1005 => .inr (1, 32768)
  | 1006 => .inr (1, 32768)
  | 1007 => .inr (0, 4)
  | 1008 => .inr (0, 4)
  | 1009 => .inr (1, 32768)
  | 1010 => .inr (1, 32769)
  | 1011 => .inr (0, 340)
  | 1012 => .inr (0, 340)
  | 1013 => .inr (0, 340)
  | 1014 => .inr (0, 340)
  | 1015 => .inr (1, 16684)
  | 1016 => .inr (1, 327680)
  | 1017 => .inr (0, 10)
  | 1018 => .inr (1, 16385)
  | 1019 => .inr (0, 8300)
  | 1020 => .inr (0, 400)
  | 1021 => .inr (0, 400)
  | _ => .inl 4
def nstT : List Cond := [Cond.methodLinkNest "RescanMill" (29 : Nat) ({ cls := "RescanMill$Input", name := "<init>", desc := "()V" } : MethodName) "RescanMill", Cond.methodLinkNest "RescanMill" (36 : Nat) ({ cls := "RescanMill$Calls", name := "<init>", desc := "()V" } : MethodName) "RescanMill", Cond.fieldLinkNest "RescanMill$Meanings" (26 : Nat) "RescanMill" "BUILT_INS" "[LRescanMill$BuiltIn;" "RescanMill", Cond.methodLinkNest "RescanMill$Meanings" (33 : Nat) ({ cls := "RescanMill$Meaning", name := "<init>", desc := "()V" } : MethodName) "RescanMill", Cond.methodLinkNest "RescanMill$Meaning" (9 : Nat) ({ cls := "RescanMill$Chain", name := "<init>", desc := "()V" } : MethodName) "RescanMill", Cond.methodLinkNest "RescanMill$Diversions" (27 : Nat) ({ cls := "RescanMill$Chain", name := "<init>", desc := "()V" } : MethodName) "RescanMill", Cond.methodLinkNest "RescanMill" (57 : Nat) ({ cls := "RescanMill$Expression", name := "<init>", desc := "()V" } : MethodName) "RescanMill", Cond.methodLinkNest "RescanMill$Input" (108 : Nat) ({ cls := "RescanMill", name := "isLetter", desc := "(I)Z" } : MethodName) "RescanMill", Cond.methodLinkNest "RescanMill$Input" (119 : Nat) ({ cls := "RescanMill", name := "isNamePart", desc := "(I)Z" } : MethodName) "RescanMill", Cond.methodLinkNest "RescanMill$Expression" (44 : Nat) ({ cls := "RescanMill", name := "isSpace", desc := "(I)Z" } : MethodName) "RescanMill", Cond.methodLinkNest "RescanMill$Expression" (52 : Nat) ({ cls := "RescanMill", name := "isDigit", desc := "(I)Z" } : MethodName) "RescanMill", Cond.fieldLinkNest "RescanMill$Expression" (127 : Nat) "RescanMill" "OPERATORS" "[LRescanMill$Operator;" "RescanMill"]
theorem nst_ok : ∀ w ∈ nstT, (∃ a i b n d h, w = Cond.fieldLinkNest a i b n d h) ∨ ∃ a i x h, w = Cond.methodLinkNest a i x h := by
  intro w hw
  simp only [nstT, List.mem_cons, List.not_mem_nil, or_false] at hw
  rcases hw with rfl | rfl | rfl | rfl | rfl | rfl | rfl | rfl | rfl | rfl | rfl | rfl
  · exact Or.inr ⟨_, _, _, _, rfl⟩
  · exact Or.inr ⟨_, _, _, _, rfl⟩
  · exact Or.inl ⟨_, _, _, _, _, _, rfl⟩
  · exact Or.inr ⟨_, _, _, _, rfl⟩
  · exact Or.inr ⟨_, _, _, _, rfl⟩
  · exact Or.inr ⟨_, _, _, _, rfl⟩
  · exact Or.inr ⟨_, _, _, _, rfl⟩
  · exact Or.inr ⟨_, _, _, _, rfl⟩
  · exact Or.inr ⟨_, _, _, _, rfl⟩
  · exact Or.inr ⟨_, _, _, _, rfl⟩
  · exact Or.inr ⟨_, _, _, _, rfl⟩
  · exact Or.inl ⟨_, _, _, _, _, _, rfl⟩
end
section

/-! THE WALKS' KIT: codes for addresses, memory as functions, a row an instruction -/
abbrev ev_T : Type := Nat × va_G × (Nat → ClassId) × (Nat → Nat)
def ev_ad (q : ev_T) (c : Nat) : Nat := if c < 1048576 then q.1 + c else q.2.2.2 c
def ev_v (q : ev_T) (v : Value) : Value := match v with
  | .ref c => .ref (ev_ad q c)
  | w => w
theorem ev_rf (q : ev_T) (r : Option Nat) : ev_v q (va_rf r) = va_rf (r.map (ev_ad q)) := by cases r <;> rfl
theorem ev_cat (q : ev_T) (v : Value) : (ev_v q v).category = v.category := by cases v <;> rfl
theorem ev_lo {q : ev_T} {c : Nat} (h : c < 1048576) : ev_ad q c = q.1 + c := if_pos h
theorem ev_hi {q : ev_T} {c : Nat} (h : 1048576 ≤ c) : ev_ad q c = q.2.2.2 c := if_neg (Nat.not_lt.mpr h)
/-- cells left, slots left, cells made, final references, ints, references -/
abbrev mu_T : Type := Nat × (Nat → Nat → Option Nat) × (Nat → Nat → Int32) × (Nat → Nat → Option Nat)
abbrev mm_T : Type := Nat × Nat × mu_T
abbrev gN (g : mu_T) : Nat := g.1
abbrev gF (g : mu_T) : Nat → Nat → Option Nat := g.2.1
abbrev gI (g : mu_T) : Nat → Nat → Int32 := g.2.2.1
abbrev gR (g : mu_T) : Nat → Nat → Option Nat := g.2.2.2
abbrev mN (u : mm_T) : Nat := u.2.2.1
abbrev mF (u : mm_T) : Nat → Nat → Option Nat := u.2.2.2.1
abbrev mI (u : mm_T) : Nat → Nat → Int32 := u.2.2.2.2.1
abbrev mR (u : mm_T) : Nat → Nat → Option Nat := u.2.2.2.2.2
def up2 {α : Type} (f : Nat → Nat → α) (a k : Nat) (x : α) : Nat → Nat → α := fun b j => if b = a ∧ j = k then x else f b j
theorem up2_eq {α : Type} (f : Nat → Nat → α) (a k : Nat) (x : α) : up2 f a k x a k = x := if_pos ⟨rfl, rfl⟩
theorem up2_na {α : Type} {f : Nat → Nat → α} {a k b j : Nat} {x : α} (h : b ≠ a) : up2 f a k x b j = f b j := if_neg fun z => h z.1
theorem up2_nk {α : Type} {f : Nat → Nat → α} {a k b j : Nat} {x : α} (h : j ≠ k) : up2 f a k x b j = f b j := if_neg fun z => h z.2
theorem up2_nf {α : Type} {f : Nat → Nat → α} {a k b : Nat} {x : α} (h : b ≠ a) : up2 f a k x b = f b := funext fun _ => up2_na h
def xI (g : mu_T) (a k : Nat) (x : Int32) : mu_T := (g.1, g.2.1, up2 g.2.2.1 a k x, g.2.2.2)
def xR (g : mu_T) (a k : Nat) (x : Option Nat) : mu_T := (g.1, g.2.1, g.2.2.1, up2 g.2.2.2 a k x)
def xF (g : mu_T) (a k : Nat) (x : Option Nat) : mu_T := (g.1, up2 g.2.1 a k x, g.2.2.1, g.2.2.2)
def xA (g : mu_T) (a : Nat) (f : Nat → Int32) : mu_T := (g.1, g.2.1, fun b => if b = a then f else g.2.2.1 b, g.2.2.2)
def wI (u : mm_T) (a k : Nat) (x : Int32) : mm_T := (u.1, u.2.1, u.2.2.1, u.2.2.2.1, up2 u.2.2.2.2.1 a k x, u.2.2.2.2.2)
def wR (u : mm_T) (a k : Nat) (x : Option Nat) : mm_T := (u.1, u.2.1, u.2.2.1, u.2.2.2.1, u.2.2.2.2.1, up2 u.2.2.2.2.2 a k x)
def wF (u : mm_T) (a k : Nat) (x : Option Nat) : mm_T := (u.1, u.2.1, u.2.2.1, up2 u.2.2.2.1 a k x, u.2.2.2.2.1, u.2.2.2.2.2)
/-- a whole row of ints -/
def wA (u : mm_T) (a : Nat) (f : Nat → Int32) : mm_T := (u.1, u.2.1, u.2.2.1, u.2.2.2.1, fun b => if b = a then f else u.2.2.2.2.1 b, u.2.2.2.2.2)
def mm_av (u : mm_T) (ci a k : Nat) : Value := match fsT ci k with
  | 0 => .int (mI u a k)
  | 1 => va_rf (mR u a k)
  | _ => va_rf (mF u a k)
def mm_E (q : ev_T) (u : mm_T) (i : Nat) : va_E := match kdT i with
  | .inl ci => .inr (ci, (List.range (nfT ci)).map (fun k => ev_v q (mm_av u ci i k)))
  | .inr (t, len) => if t < 3 then .inl (q.2.2.1 t, len, .inl (mI u i)) else .inl (q.2.2.1 t, len, .inr (.inr (.inr (.inr (fun j => (mR u i j).map (ev_ad q))))))
def mm_ws (q : ev_T) (u : mm_T) : va_W := (List.range (mN u)).map (fun i => (q.1 + i, mm_E q u i))
/-- rows of bytes hold bytes -/
def mmB (u : mm_T) : Prop := ∀ (i len : Nat), kdT i = .inr (1, len) → ∀ j, (mI u i j).toInt8.toInt32 = mI u i j
/-- what is not made yet is blank -/
def mmZ (u : mm_T) : Prop := ∀ i, mN u ≤ i → ∀ k, mI u i k = 0 ∧ mR u i k = none ∧ mF u i k = none
def WD (q : ev_T) (u : mm_T) (H : Heap) : Prop := H.size = q.1 + mN u ∧ va_P q.2.1 vwCl (mm_ws q u) H ∧ mN u ≤ 1048576 ∧ mmB u ∧ mmZ u
def ev_tys (q : ev_T) : List (ClassId × FieldType) := (List.range tyT.length).map (fun t => (q.2.2.1 t, tyT.getD t .int))
theorem mmZ_I {u : mm_T} {a k : Nat} {x : Int32} (h : mmZ u) (ha : a < mN u) : mmZ (wI u a k x) := fun i hi j => ⟨(up2_na (by intro z; subst z; exact absurd (show mN u ≤ i from hi) (Nat.not_le.mpr ha))).trans (h i hi j).1, (h i hi j).2⟩
theorem mmZ_R {u : mm_T} {a k : Nat} {x : Option Nat} (h : mmZ u) (ha : a < mN u) : mmZ (wR u a k x) := fun i hi j => ⟨(h i hi j).1, (up2_na (by intro z; subst z; exact absurd (show mN u ≤ i from hi) (Nat.not_le.mpr ha))).trans (h i hi j).2.1, (h i hi j).2.2⟩
theorem mmZ_F {u : mm_T} {a k : Nat} {x : Option Nat} (h : mmZ u) (ha : a < mN u) : mmZ (wF u a k x) := fun i hi j => ⟨(h i hi j).1, (h i hi j).2.1, (up2_na (by intro z; subst z; exact absurd (show mN u ≤ i from hi) (Nat.not_le.mpr ha))).trans (h i hi j).2.2⟩
theorem mmZ_A {u : mm_T} {a : Nat} {f : Nat → Int32} (h : mmZ u) (ha : a < mN u) : mmZ (wA u a f) := fun i hi j => ⟨by
    have hne : i ≠ a := by intro z; subst z; exact absurd (show mN u ≤ i from hi) (Nat.not_le.mpr ha)
    show (if i = a then f else mI u i) j = 0
    rw [if_neg hne]; exact (h i hi j).1, (h i hi j).2⟩
theorem mmB_R {u : mm_T} {a k : Nat} {x : Option Nat} (h : mmB u) : mmB (wR u a k x) := h
theorem mmB_F {u : mm_T} {a k : Nat} {x : Option Nat} (h : mmB u) : mmB (wF u a k x) := h
theorem mmB_In {u : mm_T} {a k : Nat} {x : Int32} (h : mmB u) (hk : ∀ len, kdT a ≠ .inr (1, len)) : mmB (wI u a k x) := fun i len hi j => by
  have hne : i ≠ a := by intro z; subst z; exact hk len hi
  show (up2 (mI u) a k x i j).toInt8.toInt32 = up2 (mI u) a k x i j
  rw [up2_na hne]; exact h i len hi j
theorem mmB_Ib {u : mm_T} {a k : Nat} {x : Int32} (h : mmB u) (hx : x.toInt8.toInt32 = x) : mmB (wI u a k x) := fun i len hi j => by
  show (up2 (mI u) a k x i j).toInt8.toInt32 = up2 (mI u) a k x i j
  by_cases hj : i = a ∧ j = k
  · rw [show up2 (mI u) a k x i j = x from if_pos hj]; exact hx
  · rw [show up2 (mI u) a k x i j = mI u i j from if_neg hj]; exact h i len hi j
theorem mmB_A {u : mm_T} {a : Nat} {f : Nat → Int32} (h : mmB u) (hf : ∀ len, kdT a = .inr (1, len) → ∀ j, (f j).toInt8.toInt32 = f j) : mmB (wA u a f) := fun i len hi j => by
  show ((if i = a then f else mI u i) j).toInt8.toInt32 = (if i = a then f else mI u i) j
  by_cases hj : i = a
  · rw [if_pos hj]; subst hj; exact hf len hi j
  · rw [if_neg hj]; exact h i len hi j
theorem mm_at {q : ev_T} {u : mm_T} {i : Nat} (h : i < mN u) : (mm_ws q u)[i]? = some (q.1 + i, mm_E q u i) := by
  simp only [mm_ws, List.getElem?_map, List.getElem?_range h, Option.map_some]
theorem mm_D (q : ev_T) (u : mm_T) : va_D (fun a => q.1 ≤ a) (mm_ws q u) := by
  refine ⟨fun i j x y hi hj hxy => ?_, fun k x hk => ?_⟩
  · have hi' := (List.getElem?_eq_some_iff.mp hi).1
    have hj' := (List.getElem?_eq_some_iff.mp hj).1
    have li : i < mN u := by simpa [mm_ws] using hi'
    have lj : j < mN u := by simpa [mm_ws] using hj'
    rw [mm_at li] at hi
    rw [mm_at lj] at hj
    cases hi
    cases hj
    have : q.1 + i = q.1 + j := hxy
    omega
  · have hk' := (List.getElem?_eq_some_iff.mp hk).1
    have lk : k < mN u := by simpa [mm_ws] using hk'
    rw [mm_at lk] at hk
    cases hk
    exact Nat.le_add_right _ _
theorem WD.at {q : ev_T} {u : mm_T} {H : Heap} (h : WD q u H) {i : Nat} (hi : i < mN u) : va_at q.2.1 vwCl (q.1 + i, mm_E q u i) H := h.2.1 i _ (mm_at hi)
/-- one cell is written -/
theorem WD.upd {q : ev_T} {u w : mm_T} {H H1 : Heap} {a : Nat} (h : WD q u H) (hn : mN w = mN u) (hB : mmB w) (hZ : mmZ w) (he : va_at q.2.1 vwCl (q.1 + a, mm_E q w a) H1) (ho : ∀ i, i ≠ a → mm_E q w i = mm_E q u i) (hz : H1.size = H.size) (oq : ∀ x : Nat, x ≠ q.1 + a → H1[x]? = H[x]?) : WD q w H1 := by
  refine ⟨by rw [hz, hn]; exact h.1, fun k x hk => ?_, by rw [hn]; exact h.2.2.1, hB, hZ⟩
  have hk' := (List.getElem?_eq_some_iff.mp hk).1
  have lk : k < mN w := by simpa [mm_ws] using hk'
  rw [mm_at lk] at hk
  cases hk
  by_cases hka : k = a
  · subst hka; exact he
  · rw [ho k hka]
    exact (h.at (by rw [← hn]; exact lk)).kept (oq (q.1 + k) (by omega))
/-- one cell is made -/
theorem WD.new {q : ev_T} {u w : mm_T} {H H1 : Heap} (h : WD q u H) (hn : mN w = mN u + 1) (hc : mN u < 1048576) (hB : mmB w) (hZ : mmZ w) (he : va_at q.2.1 vwCl (q.1 + mN u, mm_E q w (mN u)) H1) (ho : ∀ i, i < mN u → mm_E q w i = mm_E q u i) (hz : H1.size = H.size + 1) (oq : ∀ x : Nat, x < H.size → H1[x]? = H[x]?) : WD q w H1 := by
  refine ⟨by rw [hz, hn, h.1]; omega, fun k x hk => ?_, by rw [hn]; exact hc, hB, hZ⟩
  have hk' := (List.getElem?_eq_some_iff.mp hk).1
  have lk : k < mN w := by simpa [mm_ws] using hk'
  rw [mm_at lk] at hk
  cases hk
  by_cases hka : k = mN u
  · subst hka; exact he
  · have hlt : k < mN u := by omega
    rw [ho k hlt]
    exact (h.at hlt).kept (oq (q.1 + k) (by rw [h.1]; omega))
theorem mm_E_I {q : ev_T} {u : mm_T} {a k i : Nat} {x : Int32} (h : i ≠ a) : mm_E q (wI u a k x) i = mm_E q u i := by
  simp only [mm_E, mm_av, wI, mI, mR, mF, up2_nf h, up2_na h]
theorem mm_E_R {q : ev_T} {u : mm_T} {a k i : Nat} {x : Option Nat} (h : i ≠ a) : mm_E q (wR u a k x) i = mm_E q u i := by
  simp only [mm_E, mm_av, wR, mI, mR, mF, up2_nf h, up2_na h]
theorem mm_E_F {q : ev_T} {u : mm_T} {a k i : Nat} {x : Option Nat} (h : i ≠ a) : mm_E q (wF u a k x) i = mm_E q u i := by
  simp only [mm_E, mm_av, wF, mI, mR, mF, up2_nf h, up2_na h]
theorem mm_E_A {q : ev_T} {u : mm_T} {a i : Nat} {f : Nat → Int32} (h : i ≠ a) : mm_E q (wA u a f) i = mm_E q u i := by
  simp only [mm_E, mm_av, wA, mI, mR, mF, if_neg h]
theorem mm_ob {q : ev_T} {u : mm_T} {i ci : Nat} (h : kdT i = .inl ci) : mm_E q u i = .inr (ci, (List.range (nfT ci)).map (fun k => ev_v q (mm_av u ci i k))) := by simp only [mm_E, h]
theorem mm_ai {q : ev_T} {u : mm_T} {i t len : Nat} (h : kdT i = .inr (t, len)) (ht : t < 3) : mm_E q u i = .inl (q.2.2.1 t, len, .inl (mI u i)) := by simp only [mm_E, h, if_pos ht]
theorem mm_ar {q : ev_T} {u : mm_T} {i t len : Nat} (h : kdT i = .inr (t, len)) (ht : ¬ t < 3) : mm_E q u i = .inl (q.2.2.1 t, len, .inr (.inr (.inr (.inr (fun j => (mR u i j).map (ev_ad q)))))) := by simp only [mm_E, h, if_neg ht]
theorem vp_V_map (f : Nat → Value) {n k : Nat} (h : k < n) : vp_V ((List.range n).map f) k = f k := by
  simp [vp_V, List.getD_eq_getElem?_getD, List.getElem?_map, List.getElem?_range h]
/-- the locals -/
def lh (q : ev_T) (nL : Nat) (la : List (Option Value)) (ls : Array Slot) : Prop := ls.size = nL ∧ la.length = nL ∧ lv_wf ls ∧ ∀ (k : Nat) (v : Value), la[k]? = some (some v) → ls[k]? = some (.val (ev_v q v))
def clr (o : Option Value) : Option Value := match o with
  | some (.long _) => none
  | some (.double _) => none
  | w => w
def st1 (la : List (Option Value)) (i : Nat) (v : Value) : List (Option Value) := (List.range la.length).map (fun k => if k = i then some v else if k + 1 = i then clr (la.getD k none) else la.getD k none)
def st2 (la : List (Option Value)) (i : Nat) (v : Value) : List (Option Value) := (List.range la.length).map (fun k => if k = i then some v else if k = i + 1 then none else if k + 1 = i then clr (la.getD k none) else la.getD k none)
theorem clr_some {o : Option Value} {v : Value} (h : clr o = some v) : o = some v ∧ ¬ v.category = 2 := by
  cases o with
  | none => cases h
  | some w => cases w <;> first | (cases h; exact ⟨rfl, by simp [Value.category]⟩) | (cases h)
def lh_all (ls : Array Slot) : List (Nat × Value) := (List.range ls.size).filterMap (fun k => match (ls[k]? : Option Slot) with
  | some (Slot.val w) => some (k, w)
  | _ => none)
theorem lh_all_mem {ls : Array Slot} {k : Nat} {w : Value} (h : ls[k]? = some (.val w)) : (k, w) ∈ lh_all ls := by
  refine List.mem_filterMap.mpr ⟨k, List.mem_range.mpr (Array.getElem?_eq_some_iff.mp h).1, ?_⟩
  simp only [h]
theorem lh_all_has {q : ev_T} {nL : Nat} {la : List (Option Value)} {ls : Array Slot} (h : lh q nL la ls) : lv_has ls nL (lh_all ls) := by
  refine ⟨h.1, h.2.2.1, fun x hx => ?_⟩
  obtain ⟨k, -, hk⟩ := List.mem_filterMap.mp hx
  cases hs : ls[k]? with
  | none => simp only [hs] at hk; cases hk
  | some z =>
    cases z with
    | val w => simp only [hs] at hk; cases hk; exact hs
    | _ => simp only [hs] at hk; cases hk
theorem lh_st1 {q : ev_T} {nL : Nat} {la : List (Option Value)} {ls ls' : Array Slot} {i : Nat} {v : Value} (h : lh q nL la ls) (h' : lv_has ls' nL ((i, ev_v q v) :: (lh_all ls).filter (fun z => !(z.1 == i) && !(z.1 + 1 == i && z.2.category == 2)))) : lh q nL (st1 la i v) ls' := by
  refine ⟨h'.1, by simp only [st1, List.length_map, List.length_range]; exact h.2.1, h'.2.1, fun k w hk => ?_⟩
  have hlt : k < la.length := by
    have := (List.getElem?_eq_some_iff.mp hk).1
    simpa [st1] using this
  simp only [st1, List.getElem?_map, List.getElem?_range hlt, Option.map_some, Option.some.injEq] at hk
  by_cases h1 : k = i
  · rw [if_pos h1] at hk
    cases hk
    subst h1
    exact h'.2.2 (k, ev_v q v) List.mem_cons_self
  · rw [if_neg h1] at hk
    have key : la.getD k none = some w → (k + 1 = i → ¬ w.category = 2) → ls'[k]? = some (.val (ev_v q w)) := fun hw hc => by
      have hg : la[k]? = some (some w) := by
        rw [List.getD_eq_getElem?_getD, List.getElem?_eq_getElem hlt, Option.getD_some] at hw
        rw [List.getElem?_eq_getElem hlt, hw]
      have hm := lh_all_mem (h.2.2.2 k w hg)
      refine h'.2.2 (k, ev_v q w) (List.mem_cons_of_mem _ (List.mem_filter.mpr ⟨hm, ?_⟩))
      by_cases h2 : k + 1 = i
      · simp [h1, h2, ev_cat, hc h2]
      · simp [h1, h2]
    by_cases h2 : k + 1 = i
    · rw [if_pos h2] at hk
      obtain ⟨e1, e2⟩ := clr_some hk
      exact key e1 fun _ => e2
    · rw [if_neg h2] at hk
      exact key hk fun z => absurd z h2
theorem lh_st2 {q : ev_T} {nL : Nat} {la : List (Option Value)} {ls ls' : Array Slot} {i : Nat} {v : Value} (h : lh q nL la ls) (h' : lv_has ls' nL ((i, ev_v q v) :: (lh_all ls).filter (fun z => !(z.1 == i) && (!(z.1 == i + 1) && !(z.1 + 1 == i && z.2.category == 2))))) : lh q nL (st2 la i v) ls' := by
  refine ⟨h'.1, by simp only [st2, List.length_map, List.length_range]; exact h.2.1, h'.2.1, fun k w hk => ?_⟩
  have hlt : k < la.length := by
    have := (List.getElem?_eq_some_iff.mp hk).1
    simpa [st2] using this
  simp only [st2, List.getElem?_map, List.getElem?_range hlt, Option.map_some, Option.some.injEq] at hk
  by_cases h1 : k = i
  · rw [if_pos h1] at hk
    cases hk
    subst h1
    exact h'.2.2 (k, ev_v q v) List.mem_cons_self
  · rw [if_neg h1] at hk
    by_cases h3 : k = i + 1
    · rw [if_pos h3] at hk
      cases hk
    · rw [if_neg h3] at hk
      have key : la.getD k none = some w → (k + 1 = i → ¬ w.category = 2) → ls'[k]? = some (.val (ev_v q w)) := fun hw hc => by
        have hg : la[k]? = some (some w) := by
          rw [List.getD_eq_getElem?_getD, List.getElem?_eq_getElem hlt, Option.getD_some] at hw
          rw [List.getElem?_eq_getElem hlt, hw]
        have hm := lh_all_mem (h.2.2.2 k w hg)
        refine h'.2.2 (k, ev_v q w) (List.mem_cons_of_mem _ (List.mem_filter.mpr ⟨hm, ?_⟩))
        by_cases h2 : k + 1 = i
        · simp [h1, h2, h3, ev_cat, hc h2]
        · simp [h1, h2, h3]
      by_cases h2 : k + 1 = i
      · rw [if_pos h2] at hk
        obtain ⟨e1, e2⟩ := clr_some hk
        exact key e1 fun _ => e2
      · rw [if_neg h2] at hk
        exact key hk fun z => absurd z h2
/-- fewer locals are known -/
def lle : List (Option Value) → List (Option Value) → Prop
  | [], [] => True
  | none :: r, _ :: t => lle r t
  | some v :: r, some w :: t => v = w ∧ lle r t
  | _, _ => False
theorem lle_get : ∀ {a b : List (Option Value)}, lle a b → a.length = b.length ∧ ∀ (k : Nat) (v : Value), a[k]? = some (some v) → b[k]? = some (some v)
  | [], [], _ => ⟨rfl, fun _ _ h => h⟩
  | [], _ :: _, h => h.elim
  | none :: r, [], h => h.elim
  | some v :: r, [], h => h.elim
  | none :: r, x :: t, h => by
    obtain ⟨e, f⟩ := lle_get (a := r) (b := t) (by cases x <;> exact h)
    refine ⟨by simp [e], fun k v hk => ?_⟩
    cases k with
    | zero => cases hk
    | succ k => exact f k v hk
  | some v :: r, none :: t, h => h.elim
  | some v :: r, some w :: t, h => by
    obtain ⟨e, f⟩ := lle_get (a := r) (b := t) h.2
    refine ⟨by simp [e], fun k z hk => ?_⟩
    cases k with
    | zero => rw [← h.1]; exact hk
    | succ k => exact f k z hk
theorem lh.le {q : ev_T} {nL : Nat} {la lb : List (Option Value)} {ls : Array Slot} (h : lh q nL lb ls) (hl : lle la lb) : lh q nL la ls :=
  ⟨h.1, (lle_get hl).1.trans h.2.1, h.2.2.1, fun k v hk => h.2.2.2 k v ((lle_get hl).2 k v hk)⟩
def sx_B : List (List Int32) := [[100, 101, 102, 105, 110, 101], [112, 117, 115, 104, 100, 101, 102], [117, 110, 100, 101, 102, 105, 110, 101], [112, 111, 112, 100, 101, 102], [105, 102, 100, 101, 102], [105, 102, 101, 108, 115, 101], [101, 118, 97, 108], [105, 110, 99, 114], [100, 101, 99, 114], [108, 101, 110], [105, 110, 100, 101, 120], [115, 117, 98, 115, 116, 114], [115, 104, 105, 102, 116], [100, 110, 108], [100, 105, 118, 101, 114, 116], [117, 110, 100, 105, 118, 101, 114, 116], [99, 104, 97, 110, 103, 101, 113, 117, 111, 116, 101], [124, 124], [38, 38], [61, 61], [33, 61], [60, 61], [62, 61], [60, 60], [62, 62], [124], [94], [38], [60], [62], [43], [45], [42], [47], [37], [126], [33], [40]]
def sx_N : List String := ["define", "pushdef", "undefine", "popdef", "ifdef", "ifelse", "eval", "incr", "decr", "len", "index", "substr", "shift", "dnl", "divert", "undivert", "changequote", "||", "&&", "==", "!=", "<=", ">=", "<<", ">>", "|", "^", "&", "<", ">", "+", "-", "*", "/", "%", "~", "!", "("]
def op_N : List String := ["OR", "AND", "EQUAL", "UNEQUAL", "AT_MOST", "AT_LEAST", "SHIFT_LEFT", "SHIFT_RIGHT", "BIT_OR", "BIT_XOR", "BIT_AND", "LESS", "MORE", "ADD", "SUBTRACT", "MULTIPLY", "DIVIDE", "REMAINDER", "KEEP", "NEGATE", "INVERT", "NOT", "PARENTHESIS"]
def op_S : List Nat := [17, 18, 19, 20, 21, 22, 23, 24, 25, 26, 27, 28, 29, 30, 31, 32, 33, 34, 30, 31, 35, 36, 37]
def op_T : List Int32 := [1, 2, 6, 6, 7, 7, 8, 8, 3, 4, 5, 7, 7, 9, 9, 10, 10, 10, 11, 11, 11, 11, 0]
def sw_B : List Int32 := [1, 2, 3, 4, 5, 6, 7, 8, 9, 10, 11, 12, 13, 14, 15, 16, 17]
def sw_O : List Int32 := [4, 5, 9, 10, 13, 14, 15, 16, 6, 7, 8, 11, 12, 17, 18, 19, 20, 21, 0, 1, 2, 3, 0]
def rf_K : List Nat := [154, 156, 158, 160, 162, 164, 166, 168, 170, 172, 174, 176, 178, 180, 182, 184, 186]
/-- what stands still: the constants of the two kinds of words, their texts, the tables -/
def SF (q : ev_T) (U : State) (H : Heap) : Prop :=
  (∀ i, i < 17 → va_O "RescanMill$BuiltIn" (ev_ad q (1048576 + i)) (fun a => q.1 ≤ a) U H ∧ va_OF "java/lang/Enum" "ordinal" "I" (.int (nI i)) (ev_ad q (1048576 + i)) (fun a => q.1 ≤ a) U H ∧ va_OF "RescanMill$BuiltIn" "starred" "Z" (.int (if i < 13 then 1 else 0)) (ev_ad q (1048576 + i)) (fun a => q.1 ≤ a) U H ∧ va_OF "RescanMill$BuiltIn" "spelled" "Ljava/lang/String;" (.ref (ev_ad q (1048640 + i))) (ev_ad q (1048576 + i)) (fun a => q.1 ≤ a) U H) ∧
  (∀ i, i < 23 → va_O "RescanMill$Operator" (ev_ad q (1048600 + i)) (fun a => q.1 ≤ a) U H ∧ va_OF "java/lang/Enum" "ordinal" "I" (.int (nI i)) (ev_ad q (1048600 + i)) (fun a => q.1 ≤ a) U H ∧ va_OF "RescanMill$Operator" "strength" "I" (.int (op_T.getD i 0)) (ev_ad q (1048600 + i)) (fun a => q.1 ≤ a) U H ∧ va_OF "RescanMill$Operator" "sign" "Ljava/lang/String;" (.ref (ev_ad q (1048640 + op_S.getD i 0))) (ev_ad q (1048600 + i)) (fun a => q.1 ≤ a) U H ∧ va_Z "RescanMill$Operator" (op_N.getD i "") "LRescanMill$Operator;" (.ref (ev_ad q (1048600 + i))) (fun a => q.1 ≤ a) U H) ∧
  (∀ i, i < 38 → va_O "java/lang/String" (ev_ad q (1048640 + i)) (fun a => q.1 ≤ a) U H ∧ va_OF "java/lang/String" "coder" "B" (.int 0) (ev_ad q (1048640 + i)) (fun a => q.1 ≤ a) U H ∧ va_OF "java/lang/String" "value" "[B" (.ref (ev_ad q (1048700 + i))) (ev_ad q (1048640 + i)) (fun a => q.1 ≤ a) U H ∧ va_T .byte (ev_ad q (1048700 + i)) (sx_B.getD i []).length (fun j => .int ((sx_B.getD i []).getD j 0)) (fun a => q.1 ≤ a) U H) ∧
  (va_Z "RescanMill" "BUILT_INS" "[LRescanMill$BuiltIn;" (.ref (ev_ad q 1048750)) (fun a => q.1 ≤ a) U H ∧ va_T (.object "RescanMill$BuiltIn") (ev_ad q 1048750) 17 (fun j => .ref (ev_ad q (1048576 + j))) (fun a => q.1 ≤ a) U H) ∧
  (va_Z "RescanMill" "OPERATORS" "[LRescanMill$Operator;" (.ref (ev_ad q 1048751)) (fun a => q.1 ≤ a) U H ∧ va_T (.object "RescanMill$Operator") (ev_ad q 1048751) 23 (fun j => .ref (ev_ad q (1048600 + j))) (fun a => q.1 ≤ a) U H) ∧
  (va_Z "RescanMill$1" "$SwitchMap$RescanMill$BuiltIn" "[I" (.ref (ev_ad q 1048752)) (fun a => q.1 ≤ a) U H ∧ va_T .int (ev_ad q 1048752) 17 (fun j => .int (sw_B.getD j 0)) (fun a => q.1 ≤ a) U H) ∧
  (va_Z "RescanMill$1" "$SwitchMap$RescanMill$Operator" "[I" (.ref (ev_ad q 1048753)) (fun a => q.1 ≤ a) U H ∧ va_T .int (ev_ad q 1048753) 23 (fun j => .int (sw_O.getD j 0)) (fun a => q.1 ≤ a) U H) ∧
  va_Z "java/lang/String" "COMPACT_STRINGS" "Z" (.int 1) (fun a => q.1 ≤ a) U H ∧
  (∀ i, i < 17 → vk_R "RescanMillModel" (rf_K.getD i 0) (sx_N.getD i "") (ev_ad q (1048640 + i)) U)
theorem SF_to {q : ev_T} {s U : State} {H : Heap} (h : SF q s s.heap) (hW : s.WarmedH U.vm) (hq : ∀ a : Nat, a < s.heap.size → ¬ q.1 ≤ a → H[a]? = s.heap[a]?) : SF q U H := by
  obtain ⟨a1, a2, a3, a4, a5, a6, a7, a8, a9⟩ := h
  have hv := hW.alike
  refine ⟨fun i hi => ?_, fun i hi => ?_, fun i hi => ?_, ⟨(va_Z.moved hv a4.1).kept hq, (va_T.moved hv a4.2).kept hq⟩, ⟨(va_Z.moved hv a5.1).kept hq, (va_T.moved hv a5.2).kept hq⟩, ⟨(va_Z.moved hv a6.1).kept hq, (va_T.moved hv a6.2).kept hq⟩, ⟨(va_Z.moved hv a7.1).kept hq, (va_T.moved hv a7.2).kept hq⟩, (va_Z.moved hv a8).kept hq, fun i hi => (a9 i hi).warm hW⟩
  · obtain ⟨b1, b2, b3, b4⟩ := a1 i hi
    exact ⟨(va_O.moved hv b1).kept hq, (va_OF.moved hv b2).kept hq, (va_OF.moved hv b3).kept hq, (va_OF.moved hv b4).kept hq⟩
  · obtain ⟨b1, b2, b3, b4, b5⟩ := a2 i hi
    exact ⟨(va_O.moved hv b1).kept hq, (va_OF.moved hv b2).kept hq, (va_OF.moved hv b3).kept hq, (va_OF.moved hv b4).kept hq, (va_Z.moved hv b5).kept hq⟩
  · obtain ⟨b1, b2, b3, b4⟩ := a3 i hi
    exact ⟨(va_O.moved hv b1).kept hq, (va_OF.moved hv b2).kept hq, (va_OF.moved hv b3).kept hq, (va_T.moved hv b4).kept hq⟩
/-- what the tables say, and what stands still -/
def Bk (q : ev_T) (U : State) : Prop := va_K q.2.1 vwCl (ev_tys q) U ∧ (∀ w ∈ nstT, va_Nw w U) ∧ SF q U U.heap
def Bw (q : ev_T) (u : mm_T) (U : State) : Prop := WD q u U.heap ∧ Bk q U
def Qw (q : ev_T) (Q : Option Value → mm_T → Prop) : Array Value → State → Outcome → State → Prop := fun _ st oc t => (∃ (v : Option Value) (u : mm_T), oc = .returned (v.map (ev_v q)) ∧ Q v u ∧ WD q u t.heap) ∧ va_F (fun a => q.1 ≤ a) st t
def Cx (p : Program) (s : State) (m : MethodId) (args : Array Value) (c : Code) (cc : ByteArray) (nL : Nat) (own : String) (q : ev_T) : Prop :=
  p.tables.exec = Jvm.exec ∧ c.code = cc ∧ c.maxLocals = nL ∧ s.vm.findClass own = some m.cls ∧ (∀ w ∈ tbG, w.before args s = true) ∧ Bk q s ∧ q.1 ≤ s.heap.size
def Vv (p : Program) (l : Launch) (e : Env) (R : Room) (s : State) (m : MethodId) (args : Array Value) (below : List Frame) (meth : Method) (c : Code) (nL : Nat) (q : ev_T) (Qf : State → Prop) (pc : Nat) (la : List (Option Value)) (st : List Value) (u : mm_T) : Prop :=
  ∀ (ls : Array Slot) (H : Heap) (locs : List Loc) (cells slots : Nat), lh q nL la ls → WD q u H → va_S (fun a => q.1 ≤ a) s.heap H locs → cells + u.1 ≤ R.cells → slots + u.2.1 ≤ R.slots →
    W p l e R s m args below meth c H locs cells slots Qf (F0 m pc ls (st.map (ev_v q)))
section VK
variable {p : Program} {l : Launch} {e : Env} {R : Room} {s : State} {m : MethodId} {args : Array Value} {below : List Frame} {meth : Method} {c : Code} {nL : Nat} {q : ev_T} {Qf : State → Prop} {pc : Nat} {la : List (Option Value)} {st : List Value} {u : mm_T} {cc : ByteArray} {own : String}
theorem v_weak {lb : List (Option Value)} (hl : lle la lb) (k : Vv p l e R s m args below meth c nL q Qf pc la st u) : Vv p l e R s m args below meth c nL q Qf pc lb st u :=
  fun ls H locs cells slots h1 h2 h3 h4 h5 => k ls H locs cells slots (h1.le hl) h2 h3 h4 h5

theorem v_iconst (X : Cx p s m args c cc nL own q) {n : Int} {v : Int32} (hd : decode cc pc = .ok (.iconst n, 1)) (hv : Int32.ofInt n = v) (k : Vv p l e R s m args below meth c nL q Qf (pc + 1) la (.int v :: st) u) : Vv p l e R s m args below meth c nL q Qf pc la st u :=
  fun ls H locs cells slots h1 h2 h3 h4 h5 => lv_iconst X.1 X.2.1 hd hv (k ls H locs cells slots h1 h2 h3 h4 h5)
theorem v_bipush (X : Cx p s m args c cc nL own q) {n : Int} {v : Int32} (hd : decode cc pc = .ok (.bipush n, 2)) (hv : (Int8.ofInt n).toInt32 = v) (k : Vv p l e R s m args below meth c nL q Qf (pc + 2) la (.int v :: st) u) : Vv p l e R s m args below meth c nL q Qf pc la st u :=
  fun ls H locs cells slots h1 h2 h3 h4 h5 => lv_bipush X.1 X.2.1 hd hv (k ls H locs cells slots h1 h2 h3 h4 h5)
theorem v_sipush (X : Cx p s m args c cc nL own q) {n : Int} {v : Int32} (hd : decode cc pc = .ok (.sipush n, 3)) (hv : (Int16.ofInt n).toInt32 = v) (k : Vv p l e R s m args below meth c nL q Qf (pc + 3) la (.int v :: st) u) : Vv p l e R s m args below meth c nL q Qf pc la st u :=
  fun ls H locs cells slots h1 h2 h3 h4 h5 => lv_sipush X.1 X.2.1 hd hv (k ls H locs cells slots h1 h2 h3 h4 h5)
theorem v_lconst (X : Cx p s m args c cc nL own q) {n : Fin 2} {v : Int64} (hd : decode cc pc = .ok (.lconst n, 1)) (hv : Int64.ofNat (n : Nat) = v) (k : Vv p l e R s m args below meth c nL q Qf (pc + 1) la (.long v :: st) u) : Vv p l e R s m args below meth c nL q Qf pc la st u :=
  fun ls H locs cells slots h1 h2 h3 h4 h5 => lv_lconst X.1 X.2.1 hd hv (k ls H locs cells slots h1 h2 h3 h4 h5)
theorem v_null (X : Cx p s m args c cc nL own q)  (hd : decode cc pc = .ok (.aconst_null, 1)) (k : Vv p l e R s m args below meth c nL q Qf (pc + 1) la (.null :: st) u) : Vv p l e R s m args below meth c nL q Qf pc la st u :=
  fun ls H locs cells slots h1 h2 h3 h4 h5 => lv_null X.1 X.2.1 hd (k ls H locs cells slots h1 h2 h3 h4 h5)
theorem v_ldc (X : Cx p s m args c cc nL own q) {i : Nat} {v : Int32} (hd : decode cc pc = .ok (.ldc i, 2)) (hc : Cond.constant own i v ∈ tbG) (k : Vv p l e R s m args below meth c nL q Qf (pc + 2) la (.int v :: st) u) : Vv p l e R s m args below meth c nL q Qf pc la st u :=
  fun ls H locs cells slots h1 h2 h3 h4 h5 => lv_ldc X.1 X.2.1 X.2.2.2.1 (X.2.2.2.2.1 _ hc) hd (k ls H locs cells slots h1 h2 h3 h4 h5)
theorem v_ldcw (X : Cx p s m args c cc nL own q) {i : Nat} {v : Int32} (hd : decode cc pc = .ok (.ldc_w i, 3)) (hc : Cond.constant own i v ∈ tbG) (k : Vv p l e R s m args below meth c nL q Qf (pc + 3) la (.int v :: st) u) : Vv p l e R s m args below meth c nL q Qf pc la st u :=
  fun ls H locs cells slots h1 h2 h3 h4 h5 => lv_ldcw X.1 X.2.1 X.2.2.2.1 (X.2.2.2.2.1 _ hc) hd (k ls H locs cells slots h1 h2 h3 h4 h5)
theorem v_ldc2 (X : Cx p s m args c cc nL own q) {i : Nat} {v : Int64} (hd : decode cc pc = .ok (.ldc2_w i, 3)) (hc : Cond.constantLong own i v ∈ tbG) (k : Vv p l e R s m args below meth c nL q Qf (pc + 3) la (.long v :: st) u) : Vv p l e R s m args below meth c nL q Qf pc la st u :=
  fun ls H locs cells slots h1 h2 h3 h4 h5 => lv_ldc2 X.1 X.2.1 X.2.2.2.1 (X.2.2.2.2.1 _ hc) hd (k ls H locs cells slots h1 h2 h3 h4 h5)
theorem v_iload (X : Cx p s m args c cc nL own q) {i : Nat} {x : Int32} (hd : decode cc pc = .ok (.iload i, 2)) (hl : la[i]? = some (some (.int x))) (k : Vv p l e R s m args below meth c nL q Qf (pc + 2) la (.int x :: st) u) : Vv p l e R s m args below meth c nL q Qf pc la st u :=
  fun ls H locs cells slots h1 h2 h3 h4 h5 => lv_iload X.1 X.2.1 hd (h1.2.2.2 i _ hl) (k ls H locs cells slots h1 h2 h3 h4 h5)
theorem v_iload_n (X : Cx p s m args c cc nL own q) {n : Fin 4} {x : Int32} (hd : decode cc pc = .ok (.iload_n n, 1)) (hl : la[(n : Nat)]? = some (some (.int x))) (k : Vv p l e R s m args below meth c nL q Qf (pc + 1) la (.int x :: st) u) : Vv p l e R s m args below meth c nL q Qf pc la st u :=
  fun ls H locs cells slots h1 h2 h3 h4 h5 => lv_iload_n X.1 X.2.1 hd rfl (h1.2.2.2 _ _ hl) (k ls H locs cells slots h1 h2 h3 h4 h5)
theorem v_lload (X : Cx p s m args c cc nL own q) {i : Nat} {x : Int64} (hd : decode cc pc = .ok (.lload i, 2)) (hl : la[i]? = some (some (.long x))) (k : Vv p l e R s m args below meth c nL q Qf (pc + 2) la (.long x :: st) u) : Vv p l e R s m args below meth c nL q Qf pc la st u :=
  fun ls H locs cells slots h1 h2 h3 h4 h5 => lv_lload X.1 X.2.1 hd (h1.2.2.2 i _ hl) (k ls H locs cells slots h1 h2 h3 h4 h5)
theorem v_lload_n (X : Cx p s m args c cc nL own q) {n : Fin 4} {x : Int64} (hd : decode cc pc = .ok (.lload_n n, 1)) (hl : la[(n : Nat)]? = some (some (.long x))) (k : Vv p l e R s m args below meth c nL q Qf (pc + 1) la (.long x :: st) u) : Vv p l e R s m args below meth c nL q Qf pc la st u :=
  fun ls H locs cells slots h1 h2 h3 h4 h5 => lv_lload_n X.1 X.2.1 hd rfl (h1.2.2.2 _ _ hl) (k ls H locs cells slots h1 h2 h3 h4 h5)
theorem v_aload (X : Cx p s m args c cc nL own q) {i x : Nat} (hd : decode cc pc = .ok (.aload i, 2)) (hl : la[i]? = some (some (.ref x))) (k : Vv p l e R s m args below meth c nL q Qf (pc + 2) la (.ref x :: st) u) : Vv p l e R s m args below meth c nL q Qf pc la st u :=
  fun ls H locs cells slots h1 h2 h3 h4 h5 => lv_aload X.1 X.2.1 hd (h1.2.2.2 i _ hl) (k ls H locs cells slots h1 h2 h3 h4 h5)
theorem v_aload_n (X : Cx p s m args c cc nL own q) {n : Fin 4} {x : Nat} (hd : decode cc pc = .ok (.aload_n n, 1)) (hl : la[(n : Nat)]? = some (some (.ref x))) (k : Vv p l e R s m args below meth c nL q Qf (pc + 1) la (.ref x :: st) u) : Vv p l e R s m args below meth c nL q Qf pc la st u :=
  fun ls H locs cells slots h1 h2 h3 h4 h5 => lv_aload_n X.1 X.2.1 hd rfl (h1.2.2.2 _ _ hl) (k ls H locs cells slots h1 h2 h3 h4 h5)
theorem v_aload_nN (X : Cx p s m args c cc nL own q) {n : Fin 4} (hd : decode cc pc = .ok (.aload_n n, 1)) (hl : la[(n : Nat)]? = some (some .null)) (k : Vv p l e R s m args below meth c nL q Qf (pc + 1) la (.null :: st) u) : Vv p l e R s m args below meth c nL q Qf pc la st u :=
  fun ls H locs cells slots h1 h2 h3 h4 h5 => lv_aload_nN X.1 X.2.1 hd rfl (h1.2.2.2 _ _ hl) (k ls H locs cells slots h1 h2 h3 h4 h5)
theorem v_istore (X : Cx p s m args c cc nL own q) {i : Nat} {x : Int32} {lb : List (Option Value)} (hd : decode cc pc = .ok (.istore i, 2)) (hn : i < nL) (hs : st1 la i (.int x) = lb) (k : Vv p l e R s m args below meth c nL q Qf (pc + 2) lb st u) : Vv p l e R s m args below meth c nL q Qf pc la (.int x :: st) u :=
  fun ls H locs cells slots h1 h2 h3 h4 h5 => lv_istore X.1 X.2.1 hd (lh_all_has h1) hn rfl (fun ls' hl' => k ls' H locs cells slots (hs ▸ lh_st1 h1 hl') h2 h3 h4 h5)
theorem v_istore_n (X : Cx p s m args c cc nL own q) {n : Fin 4} {x : Int32} {lb : List (Option Value)} (hd : decode cc pc = .ok (.istore_n n, 1)) (hn : (n : Nat) < nL) (hs : st1 la (n : Nat) (.int x) = lb) (k : Vv p l e R s m args below meth c nL q Qf (pc + 1) lb st u) : Vv p l e R s m args below meth c nL q Qf pc la (.int x :: st) u :=
  fun ls H locs cells slots h1 h2 h3 h4 h5 => lv_istore_n X.1 X.2.1 hd rfl (lh_all_has h1) hn rfl (fun ls' hl' => k ls' H locs cells slots (hs ▸ lh_st1 h1 hl') h2 h3 h4 h5)
theorem v_astore (X : Cx p s m args c cc nL own q) {i : Nat} {x : Nat} {lb : List (Option Value)} (hd : decode cc pc = .ok (.astore i, 2)) (hn : i < nL) (hs : st1 la i (.ref x) = lb) (k : Vv p l e R s m args below meth c nL q Qf (pc + 2) lb st u) : Vv p l e R s m args below meth c nL q Qf pc la (.ref x :: st) u :=
  fun ls H locs cells slots h1 h2 h3 h4 h5 => lv_astore X.1 X.2.1 hd (lh_all_has h1) hn rfl (fun ls' hl' => k ls' H locs cells slots (hs ▸ lh_st1 h1 hl') h2 h3 h4 h5)
theorem v_astore_n (X : Cx p s m args c cc nL own q) {n : Fin 4} {x : Nat} {lb : List (Option Value)} (hd : decode cc pc = .ok (.astore_n n, 1)) (hn : (n : Nat) < nL) (hs : st1 la (n : Nat) (.ref x) = lb) (k : Vv p l e R s m args below meth c nL q Qf (pc + 1) lb st u) : Vv p l e R s m args below meth c nL q Qf pc la (.ref x :: st) u :=
  fun ls H locs cells slots h1 h2 h3 h4 h5 => lv_astore_n X.1 X.2.1 hd rfl (lh_all_has h1) hn rfl (fun ls' hl' => k ls' H locs cells slots (hs ▸ lh_st1 h1 hl') h2 h3 h4 h5)
theorem v_lstore (X : Cx p s m args c cc nL own q) {i : Nat} {x : Int64} {lb : List (Option Value)} (hd : decode cc pc = .ok (.lstore i, 2)) (hn : i + 1 < nL) (hs : st2 la i (.long x) = lb) (k : Vv p l e R s m args below meth c nL q Qf (pc + 2) lb st u) : Vv p l e R s m args below meth c nL q Qf pc la (.long x :: st) u :=
  fun ls H locs cells slots h1 h2 h3 h4 h5 => lv_lstore X.1 X.2.1 hd (lh_all_has h1) hn rfl (fun ls' hl' => k ls' H locs cells slots (hs ▸ lh_st2 h1 hl') h2 h3 h4 h5)
theorem v_lstore_n (X : Cx p s m args c cc nL own q) {n : Fin 4} {x : Int64} {lb : List (Option Value)} (hd : decode cc pc = .ok (.lstore_n n, 1)) (hn : (n : Nat) + 1 < nL) (hs : st2 la (n : Nat) (.long x) = lb) (k : Vv p l e R s m args below meth c nL q Qf (pc + 1) lb st u) : Vv p l e R s m args below meth c nL q Qf pc la (.long x :: st) u :=
  fun ls H locs cells slots h1 h2 h3 h4 h5 => lv_lstore_n X.1 X.2.1 hd rfl (lh_all_has h1) hn rfl (fun ls' hl' => k ls' H locs cells slots (hs ▸ lh_st2 h1 hl') h2 h3 h4 h5)
theorem v_iinc (X : Cx p s m args c cc nL own q) {i : Nat} {n : Int} {x v : Int32} {lb : List (Option Value)} (hd : decode cc pc = .ok (.iinc i n, 3)) (hl : la[i]? = some (some (.int x))) (hv : x + Int32.ofInt n = v) (hn : i < nL) (hs : st1 la i (.int v) = lb) (k : Vv p l e R s m args below meth c nL q Qf (pc + 3) lb st u) : Vv p l e R s m args below meth c nL q Qf pc la st u := by
  intro ls H locs cells slots h1 h2 h3 h4 h5
  obtain ⟨kk, hkk⟩ := List.getElem?_of_mem (lh_all_mem (h1.2.2.2 i _ hl))
  exact lv_iinc X.1 X.2.1 hd (lh_all_has h1) hkk hv hn rfl (fun ls' hl' => k ls' H locs cells slots (hs ▸ lh_st1 (v := .int v) h1 hl') h2 h3 h4 h5)
theorem v_iadd (X : Cx p s m args c cc nL own q) {x y : Int32} (hd : decode cc pc = .ok (.iadd, 1)) (k : Vv p l e R s m args below meth c nL q Qf (pc + 1) la (.int (x + y) :: st) u) : Vv p l e R s m args below meth c nL q Qf pc la (.int y :: .int x :: st) u :=
  fun ls H locs cells slots h1 h2 h3 h4 h5 => lv_iadd X.1 X.2.1 hd (k ls H locs cells slots h1 h2 h3 h4 h5)
theorem v_isub (X : Cx p s m args c cc nL own q) {x y : Int32} (hd : decode cc pc = .ok (.isub, 1)) (k : Vv p l e R s m args below meth c nL q Qf (pc + 1) la (.int (x - y) :: st) u) : Vv p l e R s m args below meth c nL q Qf pc la (.int y :: .int x :: st) u :=
  fun ls H locs cells slots h1 h2 h3 h4 h5 => lv_isub X.1 X.2.1 hd (k ls H locs cells slots h1 h2 h3 h4 h5)
theorem v_imul (X : Cx p s m args c cc nL own q) {x y : Int32} (hd : decode cc pc = .ok (.imul, 1)) (k : Vv p l e R s m args below meth c nL q Qf (pc + 1) la (.int (x * y) :: st) u) : Vv p l e R s m args below meth c nL q Qf pc la (.int y :: .int x :: st) u :=
  fun ls H locs cells slots h1 h2 h3 h4 h5 => lv_imul X.1 X.2.1 hd (k ls H locs cells slots h1 h2 h3 h4 h5)
theorem v_iand (X : Cx p s m args c cc nL own q) {x y : Int32} (hd : decode cc pc = .ok (.iand, 1)) (k : Vv p l e R s m args below meth c nL q Qf (pc + 1) la (.int (x &&& y) :: st) u) : Vv p l e R s m args below meth c nL q Qf pc la (.int y :: .int x :: st) u :=
  fun ls H locs cells slots h1 h2 h3 h4 h5 => lv_iand X.1 X.2.1 hd (k ls H locs cells slots h1 h2 h3 h4 h5)
theorem v_ior (X : Cx p s m args c cc nL own q) {x y : Int32} (hd : decode cc pc = .ok (.ior, 1)) (k : Vv p l e R s m args below meth c nL q Qf (pc + 1) la (.int (x ||| y) :: st) u) : Vv p l e R s m args below meth c nL q Qf pc la (.int y :: .int x :: st) u :=
  fun ls H locs cells slots h1 h2 h3 h4 h5 => lv_ior X.1 X.2.1 hd (k ls H locs cells slots h1 h2 h3 h4 h5)
theorem v_ixor (X : Cx p s m args c cc nL own q) {x y : Int32} (hd : decode cc pc = .ok (.ixor, 1)) (k : Vv p l e R s m args below meth c nL q Qf (pc + 1) la (.int (x ^^^ y) :: st) u) : Vv p l e R s m args below meth c nL q Qf pc la (.int y :: .int x :: st) u :=
  fun ls H locs cells slots h1 h2 h3 h4 h5 => lv_ixor X.1 X.2.1 hd (k ls H locs cells slots h1 h2 h3 h4 h5)
theorem v_idiv (X : Cx p s m args c cc nL own q) {x y : Int32} (hd : decode cc pc = .ok (.idiv, 1)) (hne : ¬ y = 0) (k : Vv p l e R s m args below meth c nL q Qf (pc + 1) la (.int (x / y) :: st) u) : Vv p l e R s m args below meth c nL q Qf pc la (.int y :: .int x :: st) u :=
  fun ls H locs cells slots h1 h2 h3 h4 h5 => lv_idiv X.1 X.2.1 hd hne (k ls H locs cells slots h1 h2 h3 h4 h5)
theorem v_irem (X : Cx p s m args c cc nL own q) {x y : Int32} (hd : decode cc pc = .ok (.irem, 1)) (hne : ¬ y = 0) (k : Vv p l e R s m args below meth c nL q Qf (pc + 1) la (.int (x - x / y * y) :: st) u) : Vv p l e R s m args below meth c nL q Qf pc la (.int y :: .int x :: st) u :=
  fun ls H locs cells slots h1 h2 h3 h4 h5 => lv_irem X.1 X.2.1 hd hne (k ls H locs cells slots h1 h2 h3 h4 h5)
theorem v_lrem (X : Cx p s m args c cc nL own q) {x y : Int64} (hd : decode cc pc = .ok (.lrem, 1)) (hne : ¬ y = 0) (k : Vv p l e R s m args below meth c nL q Qf (pc + 1) la (.long (x - x / y * y) :: st) u) : Vv p l e R s m args below meth c nL q Qf pc la (.long y :: .long x :: st) u :=
  fun ls H locs cells slots h1 h2 h3 h4 h5 => lv_lrem X.1 X.2.1 hd hne (k ls H locs cells slots h1 h2 h3 h4 h5)
theorem v_ishl (X : Cx p s m args c cc nL own q) {x y : Int32} (hd : decode cc pc = .ok (.ishl, 1)) (k : Vv p l e R s m args below meth c nL q Qf (pc + 1) la (.int (x <<< (y &&& 31)) :: st) u) : Vv p l e R s m args below meth c nL q Qf pc la (.int y :: .int x :: st) u :=
  fun ls H locs cells slots h1 h2 h3 h4 h5 => lv_ishl X.1 X.2.1 hd (k ls H locs cells slots h1 h2 h3 h4 h5)
theorem v_ishr (X : Cx p s m args c cc nL own q) {x y : Int32} (hd : decode cc pc = .ok (.ishr, 1)) (k : Vv p l e R s m args below meth c nL q Qf (pc + 1) la (.int (x >>> (y &&& 31)) :: st) u) : Vv p l e R s m args below meth c nL q Qf pc la (.int y :: .int x :: st) u :=
  fun ls H locs cells slots h1 h2 h3 h4 h5 => lv_ishr X.1 X.2.1 hd (k ls H locs cells slots h1 h2 h3 h4 h5)
theorem v_ineg (X : Cx p s m args c cc nL own q) {x : Int32} (hd : decode cc pc = .ok (.ineg, 1)) (k : Vv p l e R s m args below meth c nL q Qf (pc + 1) la (.int (-x) :: st) u) : Vv p l e R s m args below meth c nL q Qf pc la (.int x :: st) u :=
  fun ls H locs cells slots h1 h2 h3 h4 h5 => lv_ineg X.1 X.2.1 hd (k ls H locs cells slots h1 h2 h3 h4 h5)
theorem v_ladd (X : Cx p s m args c cc nL own q) {x y : Int64} (hd : decode cc pc = .ok (.ladd, 1)) (k : Vv p l e R s m args below meth c nL q Qf (pc + 1) la (.long (x + y) :: st) u) : Vv p l e R s m args below meth c nL q Qf pc la (.long y :: .long x :: st) u :=
  fun ls H locs cells slots h1 h2 h3 h4 h5 => lv_ladd X.1 X.2.1 hd (k ls H locs cells slots h1 h2 h3 h4 h5)
theorem v_lsub (X : Cx p s m args c cc nL own q) {x y : Int64} (hd : decode cc pc = .ok (.lsub, 1)) (k : Vv p l e R s m args below meth c nL q Qf (pc + 1) la (.long (x - y) :: st) u) : Vv p l e R s m args below meth c nL q Qf pc la (.long y :: .long x :: st) u :=
  fun ls H locs cells slots h1 h2 h3 h4 h5 => lv_lsub X.1 X.2.1 hd (k ls H locs cells slots h1 h2 h3 h4 h5)
theorem v_lmul (X : Cx p s m args c cc nL own q) {x y : Int64} (hd : decode cc pc = .ok (.lmul, 1)) (k : Vv p l e R s m args below meth c nL q Qf (pc + 1) la (.long (x * y) :: st) u) : Vv p l e R s m args below meth c nL q Qf pc la (.long y :: .long x :: st) u :=
  fun ls H locs cells slots h1 h2 h3 h4 h5 => lv_lmul X.1 X.2.1 hd (k ls H locs cells slots h1 h2 h3 h4 h5)
theorem v_land (X : Cx p s m args c cc nL own q) {x y : Int64} (hd : decode cc pc = .ok (.land, 1)) (k : Vv p l e R s m args below meth c nL q Qf (pc + 1) la (.long (x &&& y) :: st) u) : Vv p l e R s m args below meth c nL q Qf pc la (.long y :: .long x :: st) u :=
  fun ls H locs cells slots h1 h2 h3 h4 h5 => lv_land X.1 X.2.1 hd (k ls H locs cells slots h1 h2 h3 h4 h5)
theorem v_lor (X : Cx p s m args c cc nL own q) {x y : Int64} (hd : decode cc pc = .ok (.lor, 1)) (k : Vv p l e R s m args below meth c nL q Qf (pc + 1) la (.long (x ||| y) :: st) u) : Vv p l e R s m args below meth c nL q Qf pc la (.long y :: .long x :: st) u :=
  fun ls H locs cells slots h1 h2 h3 h4 h5 => lv_lor X.1 X.2.1 hd (k ls H locs cells slots h1 h2 h3 h4 h5)
theorem v_lxor (X : Cx p s m args c cc nL own q) {x y : Int64} (hd : decode cc pc = .ok (.lxor, 1)) (k : Vv p l e R s m args below meth c nL q Qf (pc + 1) la (.long (x ^^^ y) :: st) u) : Vv p l e R s m args below meth c nL q Qf pc la (.long y :: .long x :: st) u :=
  fun ls H locs cells slots h1 h2 h3 h4 h5 => lv_lxor X.1 X.2.1 hd (k ls H locs cells slots h1 h2 h3 h4 h5)
theorem v_ldiv (X : Cx p s m args c cc nL own q) {x y : Int64} (hd : decode cc pc = .ok (.ldiv, 1)) (hne : ¬ y = 0) (k : Vv p l e R s m args below meth c nL q Qf (pc + 1) la (.long (x / y) :: st) u) : Vv p l e R s m args below meth c nL q Qf pc la (.long y :: .long x :: st) u :=
  fun ls H locs cells slots h1 h2 h3 h4 h5 => lv_ldiv X.1 X.2.1 hd hne (k ls H locs cells slots h1 h2 h3 h4 h5)
theorem v_lneg (X : Cx p s m args c cc nL own q) {x : Int64} (hd : decode cc pc = .ok (.lneg, 1)) (k : Vv p l e R s m args below meth c nL q Qf (pc + 1) la (.long (-x) :: st) u) : Vv p l e R s m args below meth c nL q Qf pc la (.long x :: st) u :=
  fun ls H locs cells slots h1 h2 h3 h4 h5 => lv_lneg X.1 X.2.1 hd (k ls H locs cells slots h1 h2 h3 h4 h5)
theorem v_i2l (X : Cx p s m args c cc nL own q) {x : Int32} {v : Int64} (hd : decode cc pc = .ok (.i2l, 1)) (hv : x.toInt64 = v) (k : Vv p l e R s m args below meth c nL q Qf (pc + 1) la (.long v :: st) u) : Vv p l e R s m args below meth c nL q Qf pc la (.int x :: st) u :=
  fun ls H locs cells slots h1 h2 h3 h4 h5 => lv_i2l X.1 X.2.1 hd hv (k ls H locs cells slots h1 h2 h3 h4 h5)
theorem v_l2i (X : Cx p s m args c cc nL own q) {x : Int64} {v : Int32} (hd : decode cc pc = .ok (.l2i, 1)) (hv : x.toInt32 = v) (k : Vv p l e R s m args below meth c nL q Qf (pc + 1) la (.int v :: st) u) : Vv p l e R s m args below meth c nL q Qf pc la (.long x :: st) u :=
  fun ls H locs cells slots h1 h2 h3 h4 h5 => lv_l2i X.1 X.2.1 hd hv (k ls H locs cells slots h1 h2 h3 h4 h5)
theorem v_i2b (X : Cx p s m args c cc nL own q) {x : Int32} {v : Int32} (hd : decode cc pc = .ok (.i2b, 1)) (hv : x.toInt8.toInt32 = v) (k : Vv p l e R s m args below meth c nL q Qf (pc + 1) la (.int v :: st) u) : Vv p l e R s m args below meth c nL q Qf pc la (.int x :: st) u :=
  fun ls H locs cells slots h1 h2 h3 h4 h5 => lv_i2b X.1 X.2.1 hd hv (k ls H locs cells slots h1 h2 h3 h4 h5)
theorem v_i2c (X : Cx p s m args c cc nL own q) {x : Int32} {v : Int32} (hd : decode cc pc = .ok (.i2c, 1)) (hv : (x.toUInt32 % 65536).toInt32 = v) (k : Vv p l e R s m args below meth c nL q Qf (pc + 1) la (.int v :: st) u) : Vv p l e R s m args below meth c nL q Qf pc la (.int x :: st) u :=
  fun ls H locs cells slots h1 h2 h3 h4 h5 => lv_i2c X.1 X.2.1 hd hv (k ls H locs cells slots h1 h2 h3 h4 h5)
theorem v_lushr (X : Cx p s m args c cc nL own q) {x v : Int64} {y : Int32} (hd : decode cc pc = .ok (.lushr, 1)) (hv : (x.toUInt64 >>> (y.toInt64.toUInt64 &&& Int64.toUInt64 63)).toInt64 = v) (k : Vv p l e R s m args below meth c nL q Qf (pc + 1) la (.long v :: st) u) : Vv p l e R s m args below meth c nL q Qf pc la (.int y :: .long x :: st) u :=
  fun ls H locs cells slots h1 h2 h3 h4 h5 => lv_lushr X.1 X.2.1 hd hv (k ls H locs cells slots h1 h2 h3 h4 h5)
theorem v_lshl (X : Cx p s m args c cc nL own q) {x v : Int64} {y : Int32} (hd : decode cc pc = .ok (.lshl, 1)) (hv : x <<< (y.toInt64 &&& 63) = v) (k : Vv p l e R s m args below meth c nL q Qf (pc + 1) la (.long v :: st) u) : Vv p l e R s m args below meth c nL q Qf pc la (.int y :: .long x :: st) u :=
  fun ls H locs cells slots h1 h2 h3 h4 h5 => lv_lshl X.1 X.2.1 hd hv (k ls H locs cells slots h1 h2 h3 h4 h5)
theorem v_lshr (X : Cx p s m args c cc nL own q) {x v : Int64} {y : Int32} (hd : decode cc pc = .ok (.lshr, 1)) (hv : x >>> (y.toInt64 &&& 63) = v) (k : Vv p l e R s m args below meth c nL q Qf (pc + 1) la (.long v :: st) u) : Vv p l e R s m args below meth c nL q Qf pc la (.int y :: .long x :: st) u :=
  fun ls H locs cells slots h1 h2 h3 h4 h5 => lv_lshr X.1 X.2.1 hd hv (k ls H locs cells slots h1 h2 h3 h4 h5)
theorem v_dup (X : Cx p s m args c cc nL own q) {v : Value} (hd : decode cc pc = .ok (.dup, 1)) (hc : v.category = 1) (k : Vv p l e R s m args below meth c nL q Qf (pc + 1) la (v :: v :: st) u) : Vv p l e R s m args below meth c nL q Qf pc la (v :: st) u :=
  fun ls H locs cells slots h1 h2 h3 h4 h5 => lv_dup X.1 X.2.1 hd ((ev_cat q v).trans hc) (k ls H locs cells slots h1 h2 h3 h4 h5)
theorem v_pop (X : Cx p s m args c cc nL own q) {v : Value} (hd : decode cc pc = .ok (.pop, 1)) (hc : v.category = 1) (k : Vv p l e R s m args below meth c nL q Qf (pc + 1) la st u) : Vv p l e R s m args below meth c nL q Qf pc la (v :: st) u :=
  fun ls H locs cells slots h1 h2 h3 h4 h5 => lv_pop X.1 X.2.1 hd ((ev_cat q v).trans hc) (k ls H locs cells slots h1 h2 h3 h4 h5)
theorem v_dup2 (X : Cx p s m args c cc nL own q) {v w : Value} (hd : decode cc pc = .ok (.dup2, 1)) (hc : v.category = 1) (hw : w.category = 1) (k : Vv p l e R s m args below meth c nL q Qf (pc + 1) la (v :: w :: v :: w :: st) u) : Vv p l e R s m args below meth c nL q Qf pc la (v :: w :: st) u :=
  fun ls H locs cells slots h1 h2 h3 h4 h5 => lv_dup2_11 X.1 X.2.1 hd ((ev_cat q v).trans hc) ((ev_cat q w).trans hw) (k ls H locs cells slots h1 h2 h3 h4 h5)
theorem v_dup_x1 (X : Cx p s m args c cc nL own q) {v w : Value} (hd : decode cc pc = .ok (.dup_x1, 1)) (hc : v.category = 1) (hw : w.category = 1) (k : Vv p l e R s m args below meth c nL q Qf (pc + 1) la (v :: w :: v :: st) u) : Vv p l e R s m args below meth c nL q Qf pc la (v :: w :: st) u :=
  fun ls H locs cells slots h1 h2 h3 h4 h5 => lv_dup_x1 X.1 X.2.1 hd ((ev_cat q v).trans hc) ((ev_cat q w).trans hw) (k ls H locs cells slots h1 h2 h3 h4 h5)
theorem v_dup_x2 (X : Cx p s m args c cc nL own q) {v w z : Value} (hd : decode cc pc = .ok (.dup_x2, 1)) (hc : v.category = 1) (hw : w.category = 1) (hz : z.category = 1) (k : Vv p l e R s m args below meth c nL q Qf (pc + 1) la (v :: w :: z :: v :: st) u) : Vv p l e R s m args below meth c nL q Qf pc la (v :: w :: z :: st) u :=
  fun ls H locs cells slots h1 h2 h3 h4 h5 => lv_dup_x2 X.1 X.2.1 hd ((ev_cat q v).trans hc) ((ev_cat q w).trans hw) ((ev_cat q z).trans hz) (k ls H locs cells slots h1 h2 h3 h4 h5)
theorem v_goto (X : Cx p s m args c cc nL own q) {off : Int} {tgt : Nat} (hd : decode cc pc = .ok (.goto off, 3)) (ht : (pc : Int) + off = (tgt : Int)) (k : Vv p l e R s m args below meth c nL q Qf tgt la st u) : Vv p l e R s m args below meth c nL q Qf pc la st u :=
  fun ls H locs cells slots h1 h2 h3 h4 h5 => lv_goto X.1 X.2.1 hd ht (k ls H locs cells slots h1 h2 h3 h4 h5)
theorem v_if_eq (X : Cx p s m args c cc nL own q) {x : Int32} {off : Int} {tgt : Nat} (hd : decode cc pc = .ok (.ifCond .eq off, 3)) (ht : (pc : Int) + off = (tgt : Int)) (kt : x = 0 → Vv p l e R s m args below meth c nL q Qf tgt la st u) (kf : ¬ (x = 0) → Vv p l e R s m args below meth c nL q Qf (pc + 3) la st u) : Vv p l e R s m args below meth c nL q Qf pc la (.int x :: st) u :=
  fun ls H locs cells slots h1 h2 h3 h4 h5 => lv_if_eq X.1 X.2.1 hd ht (fun z => kt z ls H locs cells slots h1 h2 h3 h4 h5) (fun z => kf z ls H locs cells slots h1 h2 h3 h4 h5)
theorem v_icmp_eq (X : Cx p s m args c cc nL own q) {x y : Int32} {off : Int} {tgt : Nat} (hd : decode cc pc = .ok (.if_icmp .eq off, 3)) (ht : (pc : Int) + off = (tgt : Int)) (kt : x = y → Vv p l e R s m args below meth c nL q Qf tgt la st u) (kf : ¬ (x = y) → Vv p l e R s m args below meth c nL q Qf (pc + 3) la st u) : Vv p l e R s m args below meth c nL q Qf pc la (.int y :: .int x :: st) u :=
  fun ls H locs cells slots h1 h2 h3 h4 h5 => lv_icmp_eq X.1 X.2.1 hd ht (fun z => kt z ls H locs cells slots h1 h2 h3 h4 h5) (fun z => kf z ls H locs cells slots h1 h2 h3 h4 h5)
theorem v_if_ne (X : Cx p s m args c cc nL own q) {x : Int32} {off : Int} {tgt : Nat} (hd : decode cc pc = .ok (.ifCond .ne off, 3)) (ht : (pc : Int) + off = (tgt : Int)) (kt : ¬ x = 0 → Vv p l e R s m args below meth c nL q Qf tgt la st u) (kf : x = 0 → Vv p l e R s m args below meth c nL q Qf (pc + 3) la st u) : Vv p l e R s m args below meth c nL q Qf pc la (.int x :: st) u :=
  fun ls H locs cells slots h1 h2 h3 h4 h5 => lv_if_ne X.1 X.2.1 hd ht (fun z => kt z ls H locs cells slots h1 h2 h3 h4 h5) (fun z => kf z ls H locs cells slots h1 h2 h3 h4 h5)
theorem v_icmp_ne (X : Cx p s m args c cc nL own q) {x y : Int32} {off : Int} {tgt : Nat} (hd : decode cc pc = .ok (.if_icmp .ne off, 3)) (ht : (pc : Int) + off = (tgt : Int)) (kt : ¬ x = y → Vv p l e R s m args below meth c nL q Qf tgt la st u) (kf : x = y → Vv p l e R s m args below meth c nL q Qf (pc + 3) la st u) : Vv p l e R s m args below meth c nL q Qf pc la (.int y :: .int x :: st) u :=
  fun ls H locs cells slots h1 h2 h3 h4 h5 => lv_icmp_ne X.1 X.2.1 hd ht (fun z => kt z ls H locs cells slots h1 h2 h3 h4 h5) (fun z => kf z ls H locs cells slots h1 h2 h3 h4 h5)
theorem v_if_lt (X : Cx p s m args c cc nL own q) {x : Int32} {off : Int} {tgt : Nat} (hd : decode cc pc = .ok (.ifCond .lt off, 3)) (ht : (pc : Int) + off = (tgt : Int)) (kt : x < 0 → Vv p l e R s m args below meth c nL q Qf tgt la st u) (kf : ¬ (x < 0) → Vv p l e R s m args below meth c nL q Qf (pc + 3) la st u) : Vv p l e R s m args below meth c nL q Qf pc la (.int x :: st) u :=
  fun ls H locs cells slots h1 h2 h3 h4 h5 => lv_if_lt X.1 X.2.1 hd ht (fun z => kt z ls H locs cells slots h1 h2 h3 h4 h5) (fun z => kf z ls H locs cells slots h1 h2 h3 h4 h5)
theorem v_icmp_lt (X : Cx p s m args c cc nL own q) {x y : Int32} {off : Int} {tgt : Nat} (hd : decode cc pc = .ok (.if_icmp .lt off, 3)) (ht : (pc : Int) + off = (tgt : Int)) (kt : x < y → Vv p l e R s m args below meth c nL q Qf tgt la st u) (kf : ¬ (x < y) → Vv p l e R s m args below meth c nL q Qf (pc + 3) la st u) : Vv p l e R s m args below meth c nL q Qf pc la (.int y :: .int x :: st) u :=
  fun ls H locs cells slots h1 h2 h3 h4 h5 => lv_icmp_lt X.1 X.2.1 hd ht (fun z => kt z ls H locs cells slots h1 h2 h3 h4 h5) (fun z => kf z ls H locs cells slots h1 h2 h3 h4 h5)
theorem v_if_ge (X : Cx p s m args c cc nL own q) {x : Int32} {off : Int} {tgt : Nat} (hd : decode cc pc = .ok (.ifCond .ge off, 3)) (ht : (pc : Int) + off = (tgt : Int)) (kt : 0 ≤ x → Vv p l e R s m args below meth c nL q Qf tgt la st u) (kf : ¬ (0 ≤ x) → Vv p l e R s m args below meth c nL q Qf (pc + 3) la st u) : Vv p l e R s m args below meth c nL q Qf pc la (.int x :: st) u :=
  fun ls H locs cells slots h1 h2 h3 h4 h5 => lv_if_ge X.1 X.2.1 hd ht (fun z => kt z ls H locs cells slots h1 h2 h3 h4 h5) (fun z => kf z ls H locs cells slots h1 h2 h3 h4 h5)
theorem v_icmp_ge (X : Cx p s m args c cc nL own q) {x y : Int32} {off : Int} {tgt : Nat} (hd : decode cc pc = .ok (.if_icmp .ge off, 3)) (ht : (pc : Int) + off = (tgt : Int)) (kt : y ≤ x → Vv p l e R s m args below meth c nL q Qf tgt la st u) (kf : ¬ (y ≤ x) → Vv p l e R s m args below meth c nL q Qf (pc + 3) la st u) : Vv p l e R s m args below meth c nL q Qf pc la (.int y :: .int x :: st) u :=
  fun ls H locs cells slots h1 h2 h3 h4 h5 => lv_icmp_ge X.1 X.2.1 hd ht (fun z => kt z ls H locs cells slots h1 h2 h3 h4 h5) (fun z => kf z ls H locs cells slots h1 h2 h3 h4 h5)
theorem v_if_gt (X : Cx p s m args c cc nL own q) {x : Int32} {off : Int} {tgt : Nat} (hd : decode cc pc = .ok (.ifCond .gt off, 3)) (ht : (pc : Int) + off = (tgt : Int)) (kt : 0 < x → Vv p l e R s m args below meth c nL q Qf tgt la st u) (kf : ¬ (0 < x) → Vv p l e R s m args below meth c nL q Qf (pc + 3) la st u) : Vv p l e R s m args below meth c nL q Qf pc la (.int x :: st) u :=
  fun ls H locs cells slots h1 h2 h3 h4 h5 => lv_if_gt X.1 X.2.1 hd ht (fun z => kt z ls H locs cells slots h1 h2 h3 h4 h5) (fun z => kf z ls H locs cells slots h1 h2 h3 h4 h5)
theorem v_icmp_gt (X : Cx p s m args c cc nL own q) {x y : Int32} {off : Int} {tgt : Nat} (hd : decode cc pc = .ok (.if_icmp .gt off, 3)) (ht : (pc : Int) + off = (tgt : Int)) (kt : y < x → Vv p l e R s m args below meth c nL q Qf tgt la st u) (kf : ¬ (y < x) → Vv p l e R s m args below meth c nL q Qf (pc + 3) la st u) : Vv p l e R s m args below meth c nL q Qf pc la (.int y :: .int x :: st) u :=
  fun ls H locs cells slots h1 h2 h3 h4 h5 => lv_icmp_gt X.1 X.2.1 hd ht (fun z => kt z ls H locs cells slots h1 h2 h3 h4 h5) (fun z => kf z ls H locs cells slots h1 h2 h3 h4 h5)
theorem v_if_le (X : Cx p s m args c cc nL own q) {x : Int32} {off : Int} {tgt : Nat} (hd : decode cc pc = .ok (.ifCond .le off, 3)) (ht : (pc : Int) + off = (tgt : Int)) (kt : x ≤ 0 → Vv p l e R s m args below meth c nL q Qf tgt la st u) (kf : ¬ (x ≤ 0) → Vv p l e R s m args below meth c nL q Qf (pc + 3) la st u) : Vv p l e R s m args below meth c nL q Qf pc la (.int x :: st) u :=
  fun ls H locs cells slots h1 h2 h3 h4 h5 => lv_if_le X.1 X.2.1 hd ht (fun z => kt z ls H locs cells slots h1 h2 h3 h4 h5) (fun z => kf z ls H locs cells slots h1 h2 h3 h4 h5)
theorem v_icmp_le (X : Cx p s m args c cc nL own q) {x y : Int32} {off : Int} {tgt : Nat} (hd : decode cc pc = .ok (.if_icmp .le off, 3)) (ht : (pc : Int) + off = (tgt : Int)) (kt : x ≤ y → Vv p l e R s m args below meth c nL q Qf tgt la st u) (kf : ¬ (x ≤ y) → Vv p l e R s m args below meth c nL q Qf (pc + 3) la st u) : Vv p l e R s m args below meth c nL q Qf pc la (.int y :: .int x :: st) u :=
  fun ls H locs cells slots h1 h2 h3 h4 h5 => lv_icmp_le X.1 X.2.1 hd ht (fun z => kt z ls H locs cells slots h1 h2 h3 h4 h5) (fun z => kf z ls H locs cells slots h1 h2 h3 h4 h5)
theorem v_ifnull (X : Cx p s m args c cc nL own q) {x : Nat} {off : Int} (hd : decode cc pc = .ok (.ifnull off, 3)) (k : Vv p l e R s m args below meth c nL q Qf (pc + 3) la st u) : Vv p l e R s m args below meth c nL q Qf pc la (.ref x :: st) u :=
  fun ls H locs cells slots h1 h2 h3 h4 h5 => lv_ifnull X.1 X.2.1 hd (k ls H locs cells slots h1 h2 h3 h4 h5)
theorem v_ifnonnull (X : Cx p s m args c cc nL own q) {x : Nat} {off : Int} {tgt : Nat} (hd : decode cc pc = .ok (.ifnonnull off, 3)) (ht : (pc : Int) + off = (tgt : Int)) (k : Vv p l e R s m args below meth c nL q Qf tgt la st u) : Vv p l e R s m args below meth c nL q Qf pc la (.ref x :: st) u :=
  fun ls H locs cells slots h1 h2 h3 h4 h5 => lv_ifnonnull X.1 X.2.1 hd ht (k ls H locs cells slots h1 h2 h3 h4 h5)
theorem v_ifnullN (X : Cx p s m args c cc nL own q) {off : Int} {tgt : Nat} (hd : decode cc pc = .ok (.ifnull off, 3)) (ht : (pc : Int) + off = (tgt : Int)) (k : Vv p l e R s m args below meth c nL q Qf tgt la st u) : Vv p l e R s m args below meth c nL q Qf pc la (.null :: st) u :=
  fun ls H locs cells slots h1 h2 h3 h4 h5 => lv_ifnullN X.1 X.2.1 hd ht (k ls H locs cells slots h1 h2 h3 h4 h5)
theorem v_ifnonnullN (X : Cx p s m args c cc nL own q) {off : Int} (hd : decode cc pc = .ok (.ifnonnull off, 3)) (k : Vv p l e R s m args below meth c nL q Qf (pc + 3) la st u) : Vv p l e R s m args below meth c nL q Qf pc la (.null :: st) u :=
  fun ls H locs cells slots h1 h2 h3 h4 h5 => lv_ifnonnullN X.1 X.2.1 hd (k ls H locs cells slots h1 h2 h3 h4 h5)
theorem v_tableIn (X : Cx p s m args c cc nL own q) {dflt lo hi : Int} {offs : Array Int} {len : Nat} {x : Int32} {off : Int} {tgt : Nat} (hd : decode cc pc = .ok (.tableswitch dflt lo hi offs, len)) (g1 : ¬ x.toInt < lo) (g2 : ¬ hi < x.toInt) (ho : offs[(x.toInt - lo).toNat]? = some off) (ht : (pc : Int) + off = (tgt : Int)) (k : Vv p l e R s m args below meth c nL q Qf tgt la st u) : Vv p l e R s m args below meth c nL q Qf pc la (.int x :: st) u :=
  fun ls H locs cells slots h1 h2 h3 h4 h5 => lv_tableIn X.1 X.2.1 hd g1 g2 ho ht (k ls H locs cells slots h1 h2 h3 h4 h5)
theorem v_tableOut (X : Cx p s m args c cc nL own q) {dflt lo hi : Int} {offs : Array Int} {len : Nat} {x : Int32} {tgt : Nat} (hd : decode cc pc = .ok (.tableswitch dflt lo hi offs, len)) (g : x.toInt < lo ∨ hi < x.toInt) (ht : (pc : Int) + dflt = (tgt : Int)) (k : Vv p l e R s m args below meth c nL q Qf tgt la st u) : Vv p l e R s m args below meth c nL q Qf pc la (.int x :: st) u :=
  fun ls H locs cells slots h1 h2 h3 h4 h5 => lv_tableOut X.1 X.2.1 hd g ht (k ls H locs cells slots h1 h2 h3 h4 h5)
theorem v_lookup (X : Cx p s m args c cc nL own q) {dflt : Int} {ps : Array (Int × Int)} {len : Nat} {x : Int32} {off : Int} {tgt : Nat} (hd : decode cc pc = .ok (.lookupswitch dflt ps, len)) (hp : (ps.toList.zip (ps.toList.drop 1)).all (fun (a, next) => a.1 < next.1) = true) (ho : Op.lookupswitch.offset ps.toList dflt x.toInt = off) (ht : (pc : Int) + off = (tgt : Int)) (k : Vv p l e R s m args below meth c nL q Qf tgt la st u) : Vv p l e R s m args below meth c nL q Qf pc la (.int x :: st) u :=
  fun ls H locs cells slots h1 h2 h3 h4 h5 => lv_lookup X.1 X.2.1 hd hp ho ht (k ls H locs cells slots h1 h2 h3 h4 h5)
theorem v_lcmp (X : Cx p s m args c cc nL own q) {x y : Int64} (hd : decode cc pc = .ok (.lcmp, 1)) (k : Vv p l e R s m args below meth c nL q Qf (pc + 1) la (.int (lg_cmp x y) :: st) u) : Vv p l e R s m args below meth c nL q Qf pc la (.long y :: .long x :: st) u :=
  fun ls H locs cells slots h1 h2 h3 h4 h5 => W.lcmp X.1 X.2.1 hd (k ls H locs cells slots h1 h2 h3 h4 h5)
end VK
end
section
/-! memory rows: fields, arrays, new cells, copies, calls, returns -/
/-- pool number idx of the holder own names field k of the objects of kind ci -/
def FL (own : String) (idx ci k : Nat) : Prop := ∃ (C : String) (T : u_T), vwCl[ci]? = some (C, T, nfT ci) ∧ k < nfT ci ∧ (∀ w ∈ u_ws C T (nfT ci), w ∈ tbG) ∧ (T k).1 = C ∧ (Cond.fieldLink own idx C (T k).2.1 (T k).2.2.1 ∈ tbG ∨ ∃ host, Cond.fieldLinkNest own idx C (T k).2.1 (T k).2.2.1 host ∈ nstT)
/-- what is known of the fields of a kind -/
def CK (ci : Nat) : Prop := ∀ (C : String) (T : u_T), vwCl[ci]? = some (C, T, nfT ci) → (∀ k, k < nfT ci → parseFieldDescriptor (T k).2.2.1 = some (ftT ci k)) ∧ (∀ a, a < nfT ci → ∀ b, b < nfT ci → a ≠ b → (T a).2.1 ≠ (T b).2.1) ∧ ∀ k, k < nfT ci → (T k).2.2.2 = (fsT ci k == 2)
theorem ev_ty {q : ev_T} {t : Nat} {ty : FieldType} (h : tyT[t]? = some ty) : (ev_tys q)[t]? = some (q.2.2.1 t, ty) := by
  have hl := (List.getElem?_eq_some_iff.mp h).1
  simp only [ev_tys, List.getElem?_map, List.getElem?_range hl, Option.map_some, List.getD_eq_getElem?_getD, h, Option.getD_some]
theorem WD.ref {q : ev_T} {u : mm_T} {H : Heap} (h : WD q u H) {a : Nat} (ha : a < mN u) : ev_ad q a = q.1 + a := ev_lo (Nat.lt_of_lt_of_le ha h.2.2.1)
theorem WD.put {q : ev_T} {u w : mm_T} {H H1 : Heap} {a ci k : Nat} {v : Value} {C : String} {T : u_T} {cell : Cell} (h : WD q u H) (hk : kdT a = .inl ci) (hc : vwCl[ci]? = some (C, T, nfT ci)) (hkN : k < nfT ci) (hap : ∀ x y, x < nfT ci → y < nfT ci → x ≠ y → q.2.1.2 ci x ≠ q.2.1.2 ci y)
    (q2 : cell.cls = q.2.1.1 ci) (q3 : cell.vm = .none) (q4 : ∀ j, j < nfT ci → cell.slots[q.2.1.2 ci j]? = some (vp_V ((List.range (nfT ci)).map (fun k => ev_v q (mm_av u ci a k))) j)) (e1 : H1[q.1 + a]? = some (cell.setSlot (q.2.1.2 ci k) (ev_v q v))) (e2 : H1.size = H.size) (e3 : ∀ x : Nat, x ≠ q.1 + a → H1[x]? = H[x]?)
    (hn : mN w = mN u) (hB : mmB w) (hZ : mmZ w) (ho : ∀ i, i ≠ a → mm_E q w i = mm_E q u i) (hv : ∀ j, mm_av w ci a j = if j = k then v else mm_av u ci a j) : WD q w H1 := by
  refine h.upd hn hB hZ ?_ ho e2 e3
  rw [mm_ob hk]
  refine ⟨_, hc, t_OB.to ⟨_, e1, q2, q3, t_set q4 hap hkN _⟩ (fun j hj => ?_)⟩
  rw [vp_V_map _ hj, hv j]
  simp only [updV]
  by_cases hjk : j = k
  · rw [if_pos hjk, if_pos hjk]
  · rw [if_neg hjk, if_neg hjk, vp_V_map _ hj]
section VM
variable {p : Program} {l : Launch} {e : Env} {R : Room} {s : State} {m : MethodId} {args : Array Value} {below : List Frame} {meth : Method} {c : Code} {nL : Nat} {q : ev_T} {Qf : State → Prop} {pc : Nat} {la : List (Option Value)} {st : List Value} {bc bs : Nat} {g : mu_T} {cc : ByteArray} {own : String}
/-- a fact of every memory -/
theorem v_inv (k : mmB (bc, bs, g) → mmZ (bc, bs, g) → Vv p l e R s m args below meth c nL q Qf pc la st (bc, bs, g)) : Vv p l e R s m args below meth c nL q Qf pc la st (bc, bs, g) :=
  fun ls H locs cells slots h1 h2 h3 h4 h5 => k h2.2.2.2.1 h2.2.2.2.2 ls H locs cells slots h1 h2 h3 h4 h5
theorem v_get (X : Cx p s m args c cc nL own q) {idx ci k a : Nat} (hd : decode cc pc = .ok (.getfield idx, 3)) (hF : FL own idx ci k) (hk : kdT a = .inl ci) (ha : a < gN g) (kk : Vv p l e R s m args below meth c nL q Qf (pc + 3) la (mm_av (bc, bs, g) ci a k :: st) (bc, bs, g)) : Vv p l e R s m args below meth c nL q Qf pc la (.ref a :: st) (bc, bs, g) := by
  intro ls H locs cells slots h1 h2 h3 h4 h5
  obtain ⟨C, T, hc, hkN, hin, hT1, hl⟩ := hF
  have he : (mm_ws q (bc, bs, g))[a]? = some (q.1 + a, .inr (ci, (List.range (nfT ci)).map (fun k => ev_v q (mm_av (bc, bs, g) ci a k)))) := by rw [mm_at ha, mm_ob hk]
  have hv : ((List.range (nfT ci)).map (fun k => ev_v q (mm_av (bc, bs, g) ci a k)))[k]? = some (ev_v q (mm_av (bc, bs, g) ci a k)) := by
    rw [List.getElem?_map, List.getElem?_range hkN]; rfl
  show W p l e R s m args below meth c H locs cells slots Qf (F0 m pc ls (.ref (ev_ad q a) :: st.map (ev_v q)))
  rw [h2.ref ha]
  rcases hl with hl | ⟨host, hl⟩
  · exact va_get X.1 X.2.1 X.2.2.2.2.1 hin X.2.2.2.1 X.2.2.2.2.2.1.1 h2.2.1 a he hc k hkN (X.2.2.2.2.1 _ hl) (fun x hx => by rw [hT1] at hx; exact hx) hv hd (kk ls H locs cells slots h1 h2 h3 h4 h5)
  · exact va_getN X.1 X.2.1 X.2.2.2.2.1 hin X.2.2.2.1 X.2.2.2.2.2.1.1 h2.2.1 a he hc k hkN (va_Nw.use rfl (X.2.2.2.2.2.1.2.1 _ hl)) (fun x hx => by rw [hT1] at hx; exact hx) hv hd (kk ls H locs cells slots h1 h2 h3 h4 h5)
theorem v_getI (X : Cx p s m args c cc nL own q) {idx ci k a : Nat} (hd : decode cc pc = .ok (.getfield idx, 3)) (hF : FL own idx ci k) (hs : fsT ci k = 0) (hk : kdT a = .inl ci) (ha : a < gN g) (kk : Vv p l e R s m args below meth c nL q Qf (pc + 3) la (.int (gI g a k) :: st) (bc, bs, g)) : Vv p l e R s m args below meth c nL q Qf pc la (.ref a :: st) (bc, bs, g) :=
  v_get X hd hF hk ha (by rw [show mm_av (bc, bs, g) ci a k = .int (gI g a k) by simp only [mm_av, hs]]; exact kk)
theorem v_getR (X : Cx p s m args c cc nL own q) {idx ci k a : Nat} {r : Option Nat} (hd : decode cc pc = .ok (.getfield idx, 3)) (hF : FL own idx ci k) (hs : fsT ci k = 1) (hk : kdT a = .inl ci) (ha : a < gN g) (hr : gR g a k = r) (kk : Vv p l e R s m args below meth c nL q Qf (pc + 3) la (va_rf r :: st) (bc, bs, g)) : Vv p l e R s m args below meth c nL q Qf pc la (.ref a :: st) (bc, bs, g) :=
  v_get X hd hF hk ha (by rw [show mm_av (bc, bs, g) ci a k = va_rf r by simp only [mm_av, hs]; exact congrArg va_rf hr]; exact kk)
theorem v_getF (X : Cx p s m args c cc nL own q) {idx ci k a b : Nat} (hd : decode cc pc = .ok (.getfield idx, 3)) (hF : FL own idx ci k) (hs : fsT ci k = 2) (hk : kdT a = .inl ci) (ha : a < gN g) (hr : gF g a k = some b) (kk : Vv p l e R s m args below meth c nL q Qf (pc + 3) la (.ref b :: st) (bc, bs, g)) : Vv p l e R s m args below meth c nL q Qf pc la (.ref a :: st) (bc, bs, g) :=
  v_get X hd hF hk ha (by rw [show mm_av (bc, bs, g) ci a k = va_rf (some b) by simp only [mm_av, hs]; exact congrArg va_rf hr]; exact kk)
theorem v_put (X : Cx p s m args c cc nL own q) {idx ci k a : Nat} {v : Value} {w : mm_T} (hd : decode cc pc = .ok (.putfield idx, 3)) (hF : FL own idx ci k) (hC : CK ci) (hs : ¬ fsT ci k = 2) (hk : kdT a = .inl ci) (ha : a < gN g) (hn : narrow (ftT ci k) (ev_v q v) = ev_v q v) (hfit : fits (ftT ci k) (ev_v q v) = true)
    (h1w : w.1 = bc) (h2w : w.2.1 = bs) (hnw : mN w = gN g) (hB : mmB (bc, bs, g) → mmB w) (hZ : mmZ (bc, bs, g) → mmZ w) (ho : ∀ i, i ≠ a → mm_E q w i = mm_E q (bc, bs, g) i) (hv : ∀ j, mm_av w ci a j = if j = k then v else mm_av (bc, bs, g) ci a j)
    (kk : Vv p l e R s m args below meth c nL q Qf (pc + 3) la st w) : Vv p l e R s m args below meth c nL q Qf pc la (v :: .ref a :: st) (bc, bs, g) := by
  intro ls H locs cells slots h1 h2 h3 h4 h5
  obtain ⟨C, T, hc, hkN, hin, hT1, hl⟩ := hF
  obtain ⟨hty, hnm, hfl⟩ := hC C T hc
  have hap := va_apart (own := own) X.2.2.2.2.1 hin (ftT ci) hty hnm X.2.2.2.2.2.1.1 hc
  have hat := h2.at ha
  rw [mm_ob hk] at hat
  obtain ⟨r, g1, cell, q1, q2, q3, q4⟩ := hat
  have hr : r = (C, T, nfT ci) := Option.some.inj (g1.symm.trans hc)
  subst hr
  obtain ⟨hS, hfc, kC, hkC, hkind⟩ := X.2.2.2.2.2.1.1.1 ci _ hc
  obtain ⟨cf, kf, fi, f, hi, hsl⟩ := hS k hkN
  have hlay := X.2.2.2.2.1 _ (hin _ (u_in_lay hkN))
  unfold u_lay at hlay
  rw [if_neg (by rw [hfl k hkN]; simp [hs])] at hlay
  have hst := (u_facts hfc hkC (u_lays X.2.2.2.2.1 hin hkN) hi).1
  have h6 := u_store hfc hkC hkind hlay hi (hty k hkN) hn hfit
  have hiC : s.fieldFound? C (T k).2.1 (T k).2.2.1 = some (cf, kf, fi, f) := by rw [hT1] at hi; exact hi
  show W p l e R s m args below meth c H locs cells slots Qf (F0 m pc ls (ev_v q v :: .ref (ev_ad q a) :: st.map (ev_v q)))
  rw [h2.ref ha]
  have fin : ∀ H' : Heap, H'[q.1 + a]? = some (cell.setSlot f.slot (ev_v q v)) → H'.size = H.size → (∀ x, x ≠ q.1 + a → H'[x]? = H[x]?) → W p l e R s m args below meth c H' (locs ++ [⟨q.1 + a, f.slot⟩]) cells slots Qf (F0 m (pc + 3) ls (st.map (ev_v q))) := by
    intro H' e1 e2 e3
    have e1' : H'[q.1 + a]? = some (cell.setSlot (q.2.1.2 ci k) (ev_v q v)) := by rw [← hsl]; exact e1
    exact kk ls H' _ cells slots h1 (h2.put hk hc hkN hap q2 q3 q4 e1' e2 e3 hnw (hB h2.2.2.2.1) (hZ h2.2.2.2.2) ho hv) (h3.put e2 e3 (Nat.le_add_right _ _)) (by rw [h1w]; exact h4) (by rw [h2w]; exact h5)
  have hlt : f.slot < cell.slots.size := by rw [hsl]; exact k2_hasslot (q4 k hkN)
  rcases hl with hl | ⟨host, hl⟩
  · exact W.putK X.1 X.2.1 (f := f) ⟨X.2.2.2.1, X.2.2.2.2.1 _ hl, ⟨_, _, _, hiC⟩, hst⟩ (by rw [q2]; exact h6) q1 q3 hlt rfl rfl hd fin
  · exact va_WputK X.1 X.2.1 (f := f) X.2.2.2.1 (va_Nw.use rfl (X.2.2.2.2.2.1.2.1 _ hl)) hiC hst (by rw [q2]; exact h6) q1 q3 hlt rfl rfl hd fin
theorem v_putI (X : Cx p s m args c cc nL own q) {idx ci k a : Nat} {x : Int32} (hd : decode cc pc = .ok (.putfield idx, 3)) (hF : FL own idx ci k) (hC : CK ci) (hs : fsT ci k = 0) (hk : kdT a = .inl ci) (ha : a < gN g) (hn : narrow (ftT ci k) (.int x) = .int x) (hfit : fits (ftT ci k) (.int x) = true)
    (kk : Vv p l e R s m args below meth c nL q Qf (pc + 3) la st (bc, bs, xI g a k x)) : Vv p l e R s m args below meth c nL q Qf pc la (.int x :: .ref a :: st) (bc, bs, g) :=
  v_put X (v := .int x) hd hF hC (by rw [hs]; decide) hk ha hn hfit rfl rfl rfl (fun h => mmB_In h (fun len z => by rw [hk] at z; cases z)) (fun h => mmZ_I h ha) (fun i hi => mm_E_I hi) (fun j => by
    by_cases hj : j = k
    · subst hj; rw [if_pos rfl]; simp only [mm_av, hs]; exact congrArg Value.int (up2_eq _ _ _ _)
    · rw [if_neg hj]; simp only [mm_av, wI, mI, mR, mF, up2_nk hj]) kk
theorem v_putR (X : Cx p s m args c cc nL own q) {idx ci k a : Nat} {r : Option Nat} (hd : decode cc pc = .ok (.putfield idx, 3)) (hF : FL own idx ci k) (hC : CK ci) (hs : fsT ci k = 1) (hk : kdT a = .inl ci) (ha : a < gN g) (ht : ∃ D, ftT ci k = .object D)
    (kk : Vv p l e R s m args below meth c nL q Qf (pc + 3) la st (bc, bs, xR g a k r)) : Vv p l e R s m args below meth c nL q Qf pc la (va_rf r :: .ref a :: st) (bc, bs, g) := by
  obtain ⟨D, hD⟩ := ht
  refine v_put X (v := va_rf r) hd hF hC (by rw [hs]; decide) hk ha (by rw [hD]; cases r <;> rfl) (by rw [hD]; cases r <;> rfl) rfl rfl rfl mmB_R (fun h => mmZ_R h ha) (fun i hi => mm_E_R hi) (fun j => ?_) kk
  by_cases hj : j = k
  · subst hj; rw [if_pos rfl]; simp only [mm_av, hs]; exact congrArg va_rf (up2_eq _ _ _ _)
  · rw [if_neg hj]; simp only [mm_av, wR, mI, mR, mF, up2_nk hj]
/-- a final field, in a making method of its own holder -/
theorem v_putF (X : Cx p s m args c cc nL own q) {idx ci k a b : Nat} (hd : decode cc pc = .ok (.putfield idx, 3)) (hF : FL own idx ci k) (hC : CK ci) (hs : fsT ci k = 2) (hk : kdT a = .inl ci) (ha : a < gN g) (ht : (∃ D, ftT ci k = .object D) ∨ ∃ D, ftT ci k = .array D) (hin2 : meth.name = "<init>") (hown : vwCl[ci]?.map (fun z => z.1) = some own)
    (kk : Vv p l e R s m args below meth c nL q Qf (pc + 3) la st (bc, bs, xF g a k (some b))) : Vv p l e R s m args below meth c nL q Qf pc la (.ref b :: .ref a :: st) (bc, bs, g) := by
  intro ls H locs cells slots h1 h2 h3 h4 h5
  obtain ⟨C, T, hc, hkN, hin, hT1, hl⟩ := hF
  obtain ⟨hty, hnm, hfl⟩ := hC C T hc
  have hCo : C = own := by rw [hc] at hown; exact Option.some.inj hown
  have hap := va_apart (own := own) X.2.2.2.2.1 hin (ftT ci) hty hnm X.2.2.2.2.2.1.1 hc
  have hat := h2.at ha
  rw [mm_ob hk] at hat
  obtain ⟨r, g1, cell, q1, q2, q3, q4⟩ := hat
  have hr : r = (C, T, nfT ci) := Option.some.inj (g1.symm.trans hc)
  subst hr
  obtain ⟨hS, hfc, kC, hkC, hkind⟩ := X.2.2.2.2.2.1.1.1 ci _ hc
  obtain ⟨cf, kf, fi, f, hi, hsl⟩ := hS k hkN
  have hlay := X.2.2.2.2.1 _ (hin _ (u_in_lay hkN))
  unfold u_lay at hlay
  rw [if_pos (by rw [hfl k hkN]; simp [hs])] at hlay
  have hst := (u_facts hfc hkC (u_lays X.2.2.2.2.1 hin hkN) hi).1
  have hcf : m.cls = cf := by
    obtain ⟨_, _, c', _, _, _, -, -, hf', -, -, -, hown2, -⟩ := Cond.laysFinal_spec hlay
    have e1 : c' = cf := by have := hi.symm.trans hf'; simp at this; exact this.1.symm
    rw [hT1, hCo] at hown2
    rw [← e1]; exact Option.some.inj (X.2.2.2.1.symm.trans hown2)
  have hnf : narrow (ftT ci k) (.ref (ev_ad q b)) = .ref (ev_ad q b) ∧ fits (ftT ci k) (.ref (ev_ad q b)) = true := by
    rcases ht with ⟨D, hD⟩ | ⟨D, hD⟩ <;> rw [hD] <;> exact ⟨rfl, rfl⟩
  have h6 := u_fits hfc hkC hkind (Or.inr hlay) hi (hty k hkN) hnf.1 hnf.2
  have hiC : s.fieldFound? C (T k).2.1 (T k).2.2.1 = some (cf, kf, fi, f) := by rw [hT1] at hi; exact hi
  show W p l e R s m args below meth c H locs cells slots Qf (F0 m pc ls (.ref (ev_ad q b) :: .ref (ev_ad q a) :: st.map (ev_v q)))
  rw [h2.ref ha]
  have hlt : f.slot < cell.slots.size := by rw [hsl]; exact k2_hasslot (q4 k hkN)
  have hB' : mmB (bc, bs, xF g a k (some b)) := h2.2.2.2.1
  have hZ' : mmZ (bc, bs, xF g a k (some b)) := mmZ_F (u := (bc, bs, g)) h2.2.2.2.2 ha
  have ho' : ∀ i, i ≠ a → mm_E q (bc, bs, xF g a k (some b)) i = mm_E q (bc, bs, g) i := fun i hi => mm_E_F (u := (bc, bs, g)) hi
  have hv' : ∀ j, mm_av (bc, bs, xF g a k (some b)) ci a j = if j = k then Value.ref b else mm_av (bc, bs, g) ci a j := by
    intro j
    by_cases hj : j = k
    · subst hj; rw [if_pos rfl]; simp only [mm_av, hs]; exact congrArg va_rf (up2_eq _ _ _ _)
    · rw [if_neg hj]; simp only [mm_av, xF, mI, mR, mF, up2_nk hj]
  have fin : ∀ H' : Heap, H'[q.1 + a]? = some (cell.setSlot f.slot (.ref (ev_ad q b))) → H'.size = H.size → (∀ x, x ≠ q.1 + a → H'[x]? = H[x]?) → W p l e R s m args below meth c H' (locs ++ [⟨q.1 + a, f.slot⟩]) cells slots Qf (F0 m (pc + 3) ls (st.map (ev_v q))) := by
    intro H' e1 e2 e3
    have e1' : H'[q.1 + a]? = some (cell.setSlot (q.2.1.2 ci k) (ev_v q (.ref b))) := by rw [← hsl]; exact e1
    have hW : WD q (bc, bs, xF g a k (some b)) H' := WD.put (v := .ref b) h2 hk hc hkN hap q2 q3 q4 e1' e2 e3 rfl hB' hZ' ho' hv'
    exact kk ls H' _ cells slots h1 hW (h3.put e2 e3 (Nat.le_add_right _ _)) h4 h5
  rcases hl with hl | ⟨host, hl⟩
  · exact W.putFinK X.1 X.2.1 X.2.2.2.1 (X.2.2.2.2.1 _ hl) hiC hst hcf hin2 (by rw [q2]; exact h6) q1 q3 hlt rfl rfl hd fin
  · refine va_Wputf X.1 X.2.1 X.2.2.2.1 (va_Nw.use rfl (X.2.2.2.2.2.1.2.1 _ hl)) hiC hst (Or.inr ⟨hcf, hin2⟩) q1 (by rw [q3]; exact fun h => by cases h) hlt h6.1 (by rw [q3, q2]; exact h6.2) rfl rfl hd ?_
    have hlH : q.1 + a < H.size := (Array.getElem?_eq_some_iff.mp q1).1
    exact fin _ (by simp [hlH]) (by simp) (fun x hx => by simp [Array.getElem?_setIfInBounds, Ne.symm hx])
end VM
end
section
/-! arrays and new cells -/
theorem WD.ast {q : ev_T} {u : mm_T} {H H1 : Heap} {a t len j : Nat} {x : Int32} (h : WD q u H) (ha : a < mN u) (hk : kdT a = .inr (t, len)) (ht : t < 3) (hB : mmB (wI u a j x)) (e : H1[q.1 + a]? = some ((vp_cell (q.2.2.1 t) (len, .inl (mI u a))).setSlot j (.int x))) (z : H1.size = H.size) (oq : ∀ y : Nat, y ≠ q.1 + a → H1[y]? = H[y]?) : WD q (wI u a j x) H1 := by
  refine h.upd rfl hB (mmZ_I h.2.2.2.2 ha) ?_ (fun i hi => mm_E_I hi) z oq
  rw [mm_ai hk ht]
  show H1[q.1 + a]? = some (vp_cell _ _)
  rw [e, vp_cell_i, vp_cell_i, arrV_store]
  congr 2
  funext y
  by_cases hy : y = j
  · subst hy; simp [updV, wI, mI, up2]
  · simp [updV, wI, mI, up2, hy]
theorem WD.astR {q : ev_T} {u : mm_T} {H H1 : Heap} {a t len j : Nat} {r : Option Nat} (h : WD q u H) (ha : a < mN u) (hk : kdT a = .inr (t, len)) (ht : ¬ t < 3) (e : H1[q.1 + a]? = some ((vp_cell (q.2.2.1 t) (len, .inr (.inr (.inr (.inr (fun j => (mR u a j).map (ev_ad q))))))).setSlot j (va_rf (r.map (ev_ad q))))) (z : H1.size = H.size) (oq : ∀ y : Nat, y ≠ q.1 + a → H1[y]? = H[y]?) : WD q (wR u a j r) H1 := by
  refine h.upd rfl (mmB_R h.2.2.2.1) (mmZ_R h.2.2.2.2 ha) ?_ (fun i hi => mm_E_R hi) z oq
  rw [mm_ar hk ht]
  show H1[q.1 + a]? = some (vp_cell _ _)
  rw [e, vp_cell_q, vp_cell_q, arrV_store]
  congr 2
  funext y
  by_cases hy : y = j
  · subst hy; simp [updV, wR, mR, up2]
  · simp [updV, wR, mR, up2, hy]
section VA
variable {p : Program} {l : Launch} {e : Env} {R : Room} {s : State} {m : MethodId} {args : Array Value} {below : List Frame} {meth : Method} {c : Code} {nL : Nat} {q : ev_T} {Qf : State → Prop} {pc : Nat} {la : List (Option Value)} {st : List Value} {bc bs : Nat} {g : mu_T} {cc : ByteArray} {own : String}
theorem v_alen (X : Cx p s m args c cc nL own q) {a t len : Nat} {v : Int32} {ty : FieldType} (hd : decode cc pc = .ok (.arraylength, 1)) (hk : kdT a = .inr (t, len)) (hty : tyT[t]? = some ty) (ha : a < gN g) (hv : Int32.ofNat len = v) (kk : Vv p l e R s m args below meth c nL q Qf (pc + 1) la (.int v :: st) (bc, bs, g)) : Vv p l e R s m args below meth c nL q Qf pc la (.ref a :: st) (bc, bs, g) := by
  intro ls H locs cells slots h1 h2 h3 h4 h5
  show W p l e R s m args below meth c H locs cells slots Qf (F0 m pc ls (.ref (ev_ad q a) :: st.map (ev_v q)))
  rw [h2.ref ha]
  by_cases ht : t < 3
  · exact va_alen (x := (len, .inl (gI g a))) X.1 X.2.1 X.2.2.2.2.2.1.1 h2.2.1 a t (by rw [mm_at ha, mm_ai hk ht]) (ev_ty hty) hv hd (kk ls H locs cells slots h1 h2 h3 h4 h5)
  · exact va_alen (x := (len, .inr (.inr (.inr (.inr (fun j => (gR g a j).map (ev_ad q))))))) X.1 X.2.1 X.2.2.2.2.2.1.1 h2.2.1 a t (by rw [mm_at ha, mm_ar hk ht]) (ev_ty hty) hv hd (kk ls H locs cells slots h1 h2 h3 h4 h5)
theorem v_iald (X : Cx p s m args c cc nL own q) {a len : Nat} {i : Int32} (hd : decode cc pc = .ok (.iaload, 1)) (hk : kdT a = .inr (0, len)) (ha : a < gN g) (hin : vp_in i len) (kk : Vv p l e R s m args below meth c nL q Qf (pc + 1) la (.int (gI g a i.toNatClampNeg) :: st) (bc, bs, g)) : Vv p l e R s m args below meth c nL q Qf pc la (.int i :: .ref a :: st) (bc, bs, g) := by
  intro ls H locs cells slots h1 h2 h3 h4 h5
  show W p l e R s m args below meth c H locs cells slots Qf (F0 m pc ls (.int i :: .ref (ev_ad q a) :: st.map (ev_v q)))
  rw [h2.ref ha]
  exact va_iald X.1 X.2.1 X.2.2.2.2.2.1.1 h2.2.1 a 0 (by rw [mm_at ha, mm_ai hk (by decide)]) (ev_ty rfl) hin hd (kk ls H locs cells slots h1 h2 h3 h4 h5)
theorem v_bald (X : Cx p s m args c cc nL own q) {a len : Nat} {i : Int32} (hd : decode cc pc = .ok (.baload, 1)) (hk : kdT a = .inr (1, len)) (ha : a < gN g) (hin : vp_in i len) (kk : Vv p l e R s m args below meth c nL q Qf (pc + 1) la (.int (gI g a i.toNatClampNeg) :: st) (bc, bs, g)) : Vv p l e R s m args below meth c nL q Qf pc la (.int i :: .ref a :: st) (bc, bs, g) := by
  intro ls H locs cells slots h1 h2 h3 h4 h5
  show W p l e R s m args below meth c H locs cells slots Qf (F0 m pc ls (.int i :: .ref (ev_ad q a) :: st.map (ev_v q)))
  rw [h2.ref ha]
  exact va_bald X.1 X.2.1 X.2.2.2.2.2.1.1 h2.2.1 a 1 (by rw [mm_at ha, mm_ai hk (by decide)]) (ev_ty rfl) hin hd (kk ls H locs cells slots h1 h2 h3 h4 h5)
theorem v_zald (X : Cx p s m args c cc nL own q) {a len : Nat} {i : Int32} (hd : decode cc pc = .ok (.baload, 1)) (hk : kdT a = .inr (2, len)) (ha : a < gN g) (hin : vp_in i len) (kk : Vv p l e R s m args below meth c nL q Qf (pc + 1) la (.int (gI g a i.toNatClampNeg) :: st) (bc, bs, g)) : Vv p l e R s m args below meth c nL q Qf pc la (.int i :: .ref a :: st) (bc, bs, g) := by
  intro ls H locs cells slots h1 h2 h3 h4 h5
  show W p l e R s m args below meth c H locs cells slots Qf (F0 m pc ls (.int i :: .ref (ev_ad q a) :: st.map (ev_v q)))
  rw [h2.ref ha]
  exact va_zald X.1 X.2.1 X.2.2.2.2.2.1.1 h2.2.1 a 2 (by rw [mm_at ha, mm_ai hk (by decide)]) (ev_ty rfl) hin hd (kk ls H locs cells slots h1 h2 h3 h4 h5)
theorem v_aald (X : Cx p s m args c cc nL own q) {a t len : Nat} {i : Int32} {C : String} {r : Option Nat} (hd : decode cc pc = .ok (.aaload, 1)) (hk : kdT a = .inr (t, len)) (hty : tyT[t]? = some (.object C)) (ht : ¬ t < 3) (ha : a < gN g) (hin : vp_in i len) (hr : gR g a i.toNatClampNeg = r) (kk : Vv p l e R s m args below meth c nL q Qf (pc + 1) la (va_rf r :: st) (bc, bs, g)) : Vv p l e R s m args below meth c nL q Qf pc la (.int i :: .ref a :: st) (bc, bs, g) := by
  intro ls H locs cells slots h1 h2 h3 h4 h5
  show W p l e R s m args below meth c H locs cells slots Qf (F0 m pc ls (.int i :: .ref (ev_ad q a) :: st.map (ev_v q)))
  rw [h2.ref ha]
  refine va_aldq X.1 X.2.1 X.2.2.2.2.2.1.1 h2.2.1 a t (by rw [mm_at ha, mm_ar hk ht]) (ev_ty hty) hin hd ?_
  show W p l e R s m args below meth c H locs cells slots Qf (F0 m (pc + 1) ls (va_rf ((gR g a i.toNatClampNeg).map (ev_ad q)) :: st.map (ev_v q)))
  rw [hr, ← ev_rf]
  exact kk ls H locs cells slots h1 h2 h3 h4 h5
theorem v_iast (X : Cx p s m args c cc nL own q) {a len : Nat} {i x : Int32} (hd : decode cc pc = .ok (.iastore, 1)) (hk : kdT a = .inr (0, len)) (ha : a < gN g) (hin : vp_in i len) (kk : Vv p l e R s m args below meth c nL q Qf (pc + 1) la st (bc, bs, xI g a i.toNatClampNeg x)) : Vv p l e R s m args below meth c nL q Qf pc la (.int x :: .int i :: .ref a :: st) (bc, bs, g) := by
  intro ls H locs cells slots h1 h2 h3 h4 h5
  show W p l e R s m args below meth c H locs cells slots Qf (F0 m pc ls (.int x :: .int i :: .ref (ev_ad q a) :: st.map (ev_v q)))
  rw [h2.ref ha]
  have hat : H[q.1 + a]? = some (vp_cell (q.2.2.1 0) (len, .inl (gI g a))) := by have := h2.at ha; rw [mm_ai hk (by decide)] at this; exact this
  refine W.iast X.1 X.2.1 hat ((X.2.2.2.2.2.1.1.2 0 _ (ev_ty rfl)).1 len (fun j => .int (gI g a j))) (fun z => by cases z) (by show ¬ (i < 0 ∨ (arrV _ _ _).slots.size ≤ _); rw [arrV_size]; exact hin) rfl rfl hd fun H1 e1 z oq => ?_
  exact kk ls H1 _ cells slots h1 (h2.ast ha hk (by decide) (mmB_In h2.2.2.2.1 (fun n z => by rw [hk] at z; cases z)) e1 z oq) (h3.put z oq (Nat.le_add_right _ _)) h4 h5
theorem v_bast (X : Cx p s m args c cc nL own q) {a len : Nat} {i x y : Int32} (hd : decode cc pc = .ok (.bastore, 1)) (hk : kdT a = .inr (1, len)) (ha : a < gN g) (hin : vp_in i len) (hy : x.toInt8.toInt32 = y) (kk : Vv p l e R s m args below meth c nL q Qf (pc + 1) la st (bc, bs, xI g a i.toNatClampNeg y)) : Vv p l e R s m args below meth c nL q Qf pc la (.int x :: .int i :: .ref a :: st) (bc, bs, g) := by
  subst hy
  intro ls H locs cells slots h1 h2 h3 h4 h5
  show W p l e R s m args below meth c H locs cells slots Qf (F0 m pc ls (.int x :: .int i :: .ref (ev_ad q a) :: st.map (ev_v q)))
  rw [h2.ref ha]
  have hat : H[q.1 + a]? = some (vp_cell (q.2.2.1 1) (len, .inl (gI g a))) := by have := h2.at ha; rw [mm_ai hk (by decide)] at this; exact this
  refine W.bast X.1 X.2.1 hat ((X.2.2.2.2.2.1.1.2 1 _ (ev_ty rfl)).1 len (fun j => .int (gI g a j))) (fun z => by cases z) (by show ¬ (i < 0 ∨ (arrV _ _ _).slots.size ≤ _); rw [arrV_size]; exact hin) rfl rfl hd fun H1 e1 z oq => ?_
  exact kk ls H1 _ cells slots h1 (h2.ast ha hk (by decide) (mmB_Ib h2.2.2.2.1 (by simp)) e1 z oq) (h3.put z oq (Nat.le_add_right _ _)) h4 h5
theorem v_zast (X : Cx p s m args c cc nL own q) {a len : Nat} {i x y : Int32} (hd : decode cc pc = .ok (.bastore, 1)) (hk : kdT a = .inr (2, len)) (ha : a < gN g) (hin : vp_in i len) (hy : x &&& 1 = y) (kk : Vv p l e R s m args below meth c nL q Qf (pc + 1) la st (bc, bs, xI g a i.toNatClampNeg y)) : Vv p l e R s m args below meth c nL q Qf pc la (.int x :: .int i :: .ref a :: st) (bc, bs, g) := by
  subst hy
  intro ls H locs cells slots h1 h2 h3 h4 h5
  show W p l e R s m args below meth c H locs cells slots Qf (F0 m pc ls (.int x :: .int i :: .ref (ev_ad q a) :: st.map (ev_v q)))
  rw [h2.ref ha]
  have hat : H[q.1 + a]? = some (vp_cell (q.2.2.1 2) (len, .inl (gI g a))) := by have := h2.at ha; rw [mm_ai hk (by decide)] at this; exact this
  refine W.zast X.1 X.2.1 hat ((X.2.2.2.2.2.1.1.2 2 _ (ev_ty rfl)).1 len (fun j => .int (gI g a j))) (fun z => by cases z) (by show ¬ (i < 0 ∨ (arrV _ _ _).slots.size ≤ _); rw [arrV_size]; exact hin) rfl rfl hd fun H1 e1 z oq => ?_
  exact kk ls H1 _ cells slots h1 (h2.ast ha hk (by decide) (mmB_In h2.2.2.2.1 (fun n z => by rw [hk] at z; cases z)) e1 z oq) (h3.put z oq (Nat.le_add_right _ _)) h4 h5
/-- a cell of ours into a row of references -/
theorem v_aast (X : Cx p s m args c cc nL own q) {a b t len ci : Nat} {i : Int32} {r : vw_C} (hd : decode cc pc = .ok (.aastore, 1)) (hk : kdT a = .inr (t, len)) (hty : tyT[t]? = some (.object r.1)) (ht : ¬ t < 3) (ha : a < gN g) (hin : vp_in i len) (hkb : kdT b = .inl ci) (hcb : vwCl[ci]? = some r) (hb : b < gN g) (kk : Vv p l e R s m args below meth c nL q Qf (pc + 1) la st (bc, bs, xR g a i.toNatClampNeg (some b))) : Vv p l e R s m args below meth c nL q Qf pc la (.ref b :: .int i :: .ref a :: st) (bc, bs, g) := by
  intro ls H locs cells slots h1 h2 h3 h4 h5
  show W p l e R s m args below meth c H locs cells slots Qf (F0 m pc ls (.ref (ev_ad q b) :: .int i :: .ref (ev_ad q a) :: st.map (ev_v q)))
  rw [h2.ref ha, h2.ref hb]
  have hat : H[q.1 + a]? = some (vp_cell (q.2.2.1 t) (len, .inr (.inr (.inr (.inr (fun j => (gR g a j).map (ev_ad q))))))) := by have := h2.at ha; rw [mm_ar hk ht] at this; exact this
  have hlt : i.toNatClampNeg < len := Nat.not_le.mp fun z => hin (Or.inr z)
  have h0 : ¬ i < 0 := fun z => hin (Or.inl z)
  have hbt := h2.at hb
  rw [mm_ob hkb] at hbt
  obtain ⟨r', hr', cellV, g1, g2, g3, -⟩ := hbt
  have hcls := (X.2.2.2.2.2.1.1.1 ci r hcb).2
  obtain ⟨kA, comp, k1, k2, k3, -⟩ := (X.2.2.2.2.2.1.1.2 t _ (ev_ty hty)).2
  have hcomp : comp = q.2.1.1 ci := Option.some.inj (k3.symm.trans hcls.1)
  subst hcomp
  obtain ⟨kC, hkC, -⟩ := id hcls.2
  refine W.aast X.1 X.2.1 hat (fun z h => by cases h) (fun h => by cases h) k1 k2 rfl hkC ⟨h0, by show _ < (arrV _ _ _).slots.size; rw [arrV_size]; exact hlt⟩ g1 (fun z h => by rw [g3] at h; cases h) (by rw [g2]; exact hkC) (by rw [g2]; exact va_assign hcls) rfl rfl hd fun H1 e1 z oq => ?_
  exact kk ls H1 _ cells slots h1 (h2.astR ha hk ht (by rw [e1]; show _ = some (Cell.setSlot _ _ (.ref (ev_ad q b))); rw [h2.ref hb]) z oq) (h3.put z oq (Nat.le_add_right _ _)) h4 h5
theorem v_aastN (X : Cx p s m args c cc nL own q) {a t len : Nat} {i : Int32} {C : String} (hd : decode cc pc = .ok (.aastore, 1)) (hk : kdT a = .inr (t, len)) (hty : tyT[t]? = some (.object C)) (ht : ¬ t < 3) (ha : a < gN g) (hin : vp_in i len) (kk : Vv p l e R s m args below meth c nL q Qf (pc + 1) la st (bc, bs, xR g a i.toNatClampNeg none)) : Vv p l e R s m args below meth c nL q Qf pc la (.null :: .int i :: .ref a :: st) (bc, bs, g) := by
  intro ls H locs cells slots h1 h2 h3 h4 h5
  show W p l e R s m args below meth c H locs cells slots Qf (F0 m pc ls (.null :: .int i :: .ref (ev_ad q a) :: st.map (ev_v q)))
  rw [h2.ref ha]
  have hat : H[q.1 + a]? = some (vp_cell (q.2.2.1 t) (len, .inr (.inr (.inr (.inr (fun j => (gR g a j).map (ev_ad q))))))) := by have := h2.at ha; rw [mm_ar hk ht] at this; exact this
  refine va_WaastN (C := C) X.1 X.2.1 hat ((X.2.2.2.2.2.1.1.2 t _ (ev_ty hty)).1 len (fun j => va_rf ((gR g a j).map (ev_ad q)))) (fun h => by cases h) (by show ¬ (i < 0 ∨ (arrV _ _ _).slots.size ≤ _); rw [arrV_size]; exact hin) rfl rfl hd fun H1 e1 z oq => ?_
  exact kk ls H1 _ cells slots h1 (h2.astR (r := none) ha hk ht e1 z oq) (h3.put z oq (Nat.le_add_right _ _)) h4 h5
/-- a new row of ints, bytes or flags -/
theorem v_newarr (X : Cx p s m args c cc nL own q) {aT : ArrayType} {t N : Nat} {n : Int32} (hd : decode cc pc = .ok (.newarray aT, 2)) (hty : tyT[t]? = some (newarray.typeOf aT)) (ht : t < 3) (hRA : ∀ U cA, va_RA U cA (newarray.typeOf aT) → U.vm.findClass ("[" ++ (newarray.typeOf aT).toString) = some cA) (hdf : defaultValue (newarray.typeOf aT) = .int 0) (harr : Cond.arrayClass (newarray.typeOf aT) ∈ tbG) (hn : ¬ n < 0) (hN : n.toNatClampNeg = N) (hby : N * componentBytes (newarray.typeOf aT) ≤ 536870912) (hk : kdT (gN g) = .inr (t, N)) (hc : gN g < 1048576) (h1b : 1 ≤ bc) (h2b : N ≤ bs)
    (kk : (∀ j, gI g (gN g) j = 0) → Vv p l e R s m args below meth c nL q Qf (pc + 2) la (.ref (gN g) :: st) (bc - 1, bs - N, gN g + 1, g.2)) : Vv p l e R s m args below meth c nL q Qf pc la (.int n :: st) (bc, bs, g) := by
  intro ls H locs cells slots h1 h2 h3 h4 h5
  have h4 : cells + bc ≤ R.cells := h4
  have h5 : slots + bs ≤ R.slots := h5
  show W p l e R s m args below meth c H locs cells slots Qf (F0 m pc ls (.int n :: st.map (ev_v q)))
  have hz : ∀ j, gI g (gN g) j = 0 := fun j => (h2.2.2.2.2 (gN g) (Nat.le_refl _) j).1
  refine va_newaK X.1 X.2.1 (X.2.2.2.2.1 _ harr) rfl hd rfl hn hN hby (by omega) (by omega) rfl fun H1 cA e1 z1 o1 hAr hNm => ?_
  have hcA : cA = q.2.2.1 t := Option.some.inj (hNm.symm.trans (hRA s _ (X.2.2.2.2.2.1.1.2 t _ (ev_ty hty)).2))
  subst hcA
  have hW : WD q (bc - 1, bs - N, gN g + 1, g.2) H1 := by
    refine h2.new rfl hc h2.2.2.2.1 (fun i hi k => h2.2.2.2.2 i (Nat.le_of_succ_le hi) k) ?_ (fun i _ => rfl) z1 (fun x hx => o1 x hx)
    rw [mm_ai hk ht, ← h2.1]
    show H1[H.size]? = some (vp_cell _ _)
    rw [e1, vp_cell_i, hdf]
    congr 2
    funext j
    exact congrArg Value.int (hz j).symm
  have k2 := kk hz ls H1 locs (cells + 1) (slots + N) h1 hW ⟨Nat.le_trans h3.1 (by omega), fun x g1 g2 => (o1 x (Nat.lt_of_lt_of_le g1 h3.1)).trans (h3.2.1 x g1 g2), h3.2.2⟩ (by show cells + 1 + (bc - 1) ≤ _; omega) (by show slots + N + (bs - N) ≤ _; omega)
  have k3 : W p l e R s m args below meth c H1 locs (cells + 1) (slots + N) Qf (F0 m (pc + 2) ls (.ref (ev_ad q (gN g)) :: st.map (ev_v q))) := k2
  rw [ev_lo hc, ← h2.1] at k3
  exact k3
/-- a new row of references -/
theorem v_anewarr (X : Cx p s m args c cc nL own q) {idx t N : Nat} {n : Int32} {C : String} (hd : decode cc pc = .ok (.anewarray idx, 3)) (hty : tyT[t]? = some (.object C)) (ht : ¬ t < 3) (hlk : Cond.classLink own idx C ∈ tbG) (hov : Cond.arrayOver (.object C) ∈ tbG) (hn : ¬ n < 0) (hN : n.toNatClampNeg = N) (hby : N * 4 ≤ 536870912) (hk : kdT (gN g) = .inr (t, N)) (hc : gN g < 1048576) (h1b : 1 ≤ bc) (h2b : N ≤ bs)
    (kk : (∀ j, gR g (gN g) j = none) → Vv p l e R s m args below meth c nL q Qf (pc + 3) la (.ref (gN g) :: st) (bc - 1, bs - N, gN g + 1, g.2)) : Vv p l e R s m args below meth c nL q Qf pc la (.int n :: st) (bc, bs, g) := by
  subst hN
  intro ls H locs cells slots h1 h2 h3 h4 h5
  have h4 : cells + bc ≤ R.cells := h4
  have h5 : slots + bs ≤ R.slots := h5
  show W p l e R s m args below meth c H locs cells slots Qf (F0 m pc ls (.int n :: st.map (ev_v q)))
  have hz : ∀ j, gR g (gN g) j = none := fun j => (h2.2.2.2.2 (gN g) (Nat.le_refl _) j).2.1
  refine W.anew X.1 X.2.1 X.2.2.2.1 (X.2.2.2.2.1 _ hlk) (X.2.2.2.2.1 _ hov) rfl hd rfl hn hby (by omega) (by omega) fun cA kA comp f1 f2 f3 f4 => ?_
  obtain ⟨kA', comp', k1, k2, k3, k4⟩ := (X.2.2.2.2.2.1.1.2 t _ (ev_ty hty)).2
  have hcA : cA = q.2.2.1 t := Option.some.inj (f1.symm.trans k4)
  subst hcA
  generalize hH1 : H.push ({ cls := q.2.2.1 t, slots := Array.replicate n.toNatClampNeg .null, vm := .none } : Cell) = H1
  have z1 : H1.size = H.size + 1 := by rw [← hH1, Array.size_push]
  have e1 : H1[H.size]? = some (arrV (q.2.2.1 t) n.toNatClampNeg (fun _ => .null)) := by rw [← hH1, Array.getElem?_push_size, ← arrV_new]
  have o1 : ∀ x : Nat, x < H.size → H1[x]? = H[x]? := fun x hx => by rw [← hH1, Array.getElem?_push, if_neg (Nat.ne_of_lt hx)]
  have hW : WD q (bc - 1, bs - n.toNatClampNeg, gN g + 1, g.2) H1 := by
    refine h2.new rfl hc h2.2.2.2.1 (fun i hi k => h2.2.2.2.2 i (Nat.le_of_succ_le hi) k) ?_ (fun i _ => rfl) z1 (fun x hx => o1 x hx)
    rw [mm_ar hk ht, ← h2.1]
    show H1[H.size]? = some (vp_cell _ _)
    rw [e1, vp_cell_q]
    congr 2
    funext j
    show Value.null = va_rf ((gR g (gN g) j).map (ev_ad q))
    rw [hz j]
    rfl
  have k5 : W p l e R s m args below meth c H1 locs (cells + 1) (slots + n.toNatClampNeg) Qf (F0 m (pc + 3) ls (.ref (ev_ad q (gN g)) :: st.map (ev_v q))) := kk hz ls H1 locs (cells + 1) (slots + n.toNatClampNeg) h1 hW ⟨Nat.le_trans h3.1 (by omega), fun x g1 g2 => (o1 x (Nat.lt_of_lt_of_le g1 h3.1)).trans (h3.2.1 x g1 g2), h3.2.2⟩ (by show cells + 1 + (bc - 1) ≤ _; omega) (by show slots + n.toNatClampNeg + (bs - n.toNatClampNeg) ≤ _; omega)
  rw [ev_lo hc, ← h2.1] at k5
  exact k5
/-- a new object -/
theorem v_new (X : Cx p s m args c cc nL own q) {idx ci : Nat} {C : String} {T : u_T} (hd : decode cc pc = .ok (.new idx, 3)) (hcl : vwCl[ci]? = some (C, T, nfT ci)) (hlk : Cond.classLink own idx C ∈ tbG) (hins : Cond.instantiable C (nfT ci) ∈ tbG) (hini : Cond.initialized C ∈ tbG) (hin : ∀ w ∈ u_ws C T (nfT ci), w ∈ tbG) (hC : CK ci) (hdf : ∀ j, j < nfT ci → defaultValue (ftT ci j) = if fsT ci j = 0 then .int 0 else .null) (hk : kdT (gN g) = .inl ci) (hc : gN g < 1048576) (h1b : 1 ≤ bc) (h2b : nfT ci ≤ bs)
    (kk : (∀ j, gI g (gN g) j = 0 ∧ gR g (gN g) j = none ∧ gF g (gN g) j = none) → Vv p l e R s m args below meth c nL q Qf (pc + 3) la (.ref (gN g) :: st) (bc - 1, bs - nfT ci, gN g + 1, g.2)) : Vv p l e R s m args below meth c nL q Qf pc la st (bc, bs, g) := by
  intro ls H locs cells slots h1 h2 h3 h4 h5
  have h4 : cells + bc ≤ R.cells := h4
  have h5 : slots + bs ≤ R.slots := h5
  have hz : ∀ j, gI g (gN g) j = 0 ∧ gR g (gN g) j = none ∧ gF g (gN g) j = none := fun j => h2.2.2.2.2 (gN g) (Nat.le_refl _) j
  have hKn := X.2.2.2.2.2.1.1.1 ci _ hcl
  refine W.newcK X.1 X.2.1 X.2.2.2.1 (X.2.2.2.2.1 _ hlk) (X.2.2.2.2.1 _ hins) (X.2.2.2.2.1 _ hini) rfl hd (by omega) (by omega) hKn.2.1 rfl fun H1 kC hkC e1 z1 o1 => ?_
  have hW : WD q (bc - 1, bs - nfT ci, gN g + 1, g.2) H1 := by
    refine h2.new rfl hc h2.2.2.2.1 (fun i hi k => h2.2.2.2.2 i (Nat.le_of_succ_le hi) k) ?_ (fun i _ => rfl) z1 (fun x hx => o1 x hx)
    rw [mm_ob hk, ← h2.1]
    refine ⟨_, hcl, (u_born (ftT ci) X.2.2.2.2.1 hin hKn hkC e1 (hC C T hcl).1).to (fun j hj => ?_)⟩
    rw [vp_V_map _ hj, hdf j hj]
    show _ = ev_v q (mm_av (bc, bs, g) ci (gN g) j)
    simp only [mm_av]
    by_cases h0 : fsT ci j = 0
    · rw [if_pos h0, h0]
      show _ = ev_v q (.int (gI g (gN g) j))
      show _ = Value.int (gI g (gN g) j)
      rw [(hz j).1]
    · rw [if_neg h0]
      split
      · rename_i h; exact absurd h h0
      · show _ = ev_v q (va_rf (gR g (gN g) j))
        rw [(hz j).2.1]; rfl
      · show _ = ev_v q (va_rf (gF g (gN g) j))
        rw [(hz j).2.2]; rfl
  have k5 : W p l e R s m args below meth c H1 locs (cells + 1) (slots + nfT ci) Qf (F0 m (pc + 3) ls (.ref (ev_ad q (gN g)) :: st.map (ev_v q))) := kk hz ls H1 locs (cells + 1) (slots + nfT ci) h1 hW ⟨Nat.le_trans h3.1 (by omega), fun x g1 g2 => (o1 x (Nat.lt_of_lt_of_le g1 h3.1)).trans (h3.2.1 x g1 g2), h3.2.2⟩ (by show cells + 1 + (bc - 1) ≤ _; omega) (by show slots + nfT ci + (bs - nfT ci) ≤ _; omega)
  rw [ev_lo hc, ← h2.1] at k5
  exact k5
end VA
end
section
/-! calls and returns -/
/-- name, code, most locals, answer -/
abbrev mt_T : Type := MethodName × ByteArray × Nat × Option FieldType
def rmT (d bc bs : Nat) : Room := { frames := d, cells := bc, slots := bs, locals := 48 * d }
def Ctr (l : Launch) (q : ev_T) (M : mt_T) (d : Nat) (av : List Value) (u : mm_T) (Q : Option Value → mm_T → Prop) : Prop :=
  Met l M.1 (Cond.code M.1 M.2.1 M.2.2.1 M.2.2.2 :: tbG) (rmT d u.1 u.2.1) (va_Pc (av.map (ev_v q)) (Bw q u)) (Qw q Q) u.1 u.2.1 (fun a => q.1 ≤ a)
/-- what the tables say of a method -/
def MK (M : mt_T) (n : Nat) : Prop := Cond.code M.1 M.2.1 M.2.2.1 M.2.2.2 ∈ tbG ∧ Cond.initialized M.1.cls ∈ tbG ∧ plainName M.1.cls = true ∧ M.2.2.1 ≤ 29 ∧ (M.1.cls ≠ "java/lang/invoke/MethodHandle" ∧ M.1.cls ≠ "java/lang/invoke/VarHandle" ∧ (parseMethodDescriptor M.1.desc).map (fun d => d.parameters.length) = some n)
def MV (M : mt_T) : Prop := Cond.instanceMethod M.1 ∈ tbG ∧ Cond.selects M.1.cls M.1 M.1 ∈ tbG
def ML (own : String) (idx : Nat) (M : mt_T) : Prop := Cond.methodLink own idx M.1 ∈ tbG ∨ ∃ host, Cond.methodLinkNest own idx M.1 host ∈ nstT
theorem Bk.to {q : ev_T} {s U : State} {locs : List Loc} (h : Bk q s) (hW : s.WarmedH U.vm) (hS : va_S (fun a => q.1 ≤ a) s.heap U.heap locs) : Bk q U := by
  refine ⟨va_K.moved hW.alike h.1, fun w hw => ?_, SF_to h.2.2 hW (fun a g1 g2 => hS.2.1 a g1 g2)⟩
  rcases nst_ok w hw with ⟨a, i, b, n, d, z, rfl⟩ | ⟨a, i, x, z, rfl⟩
  · exact va_Nw.warmF hW (h.2.1 _ hw)
  · exact va_Nw.warmM hW (h.2.1 _ hw)
theorem Bw_blind (q : ev_T) (u : mm_T) (av : List Value) : FrameBlind (va_Pc av (Bw q u)) := by
  intro a U g mk h
  exact ⟨h.1, h.2.1, h.2.2.to (U := U.calling g mk a) (locs := []) (State.WarmedH.refl U) va_S.rf⟩
theorem tbG_in {M : mt_T} (h : Cond.code M.1 M.2.1 M.2.2.1 M.2.2.2 ∈ tbG) : GoodIn tbG (Cond.code M.1 M.2.1 M.2.2.1 M.2.2.2 :: tbG) := by
  intro w hw
  rcases List.mem_cons.mp hw with rfl | hw
  · exact ⟨h, tbG_good _ h⟩
  · exact ⟨hw, tbG_good _ hw⟩
section VC
variable {p : Program} {l : Launch} {e : Env} {R : Room} {s : State} {m : MethodId} {args : Array Value} {below : List Frame} {meth : Method} {c : Code} {nL : Nat} {q : ev_T} {Qf : State → Prop} {pc : Nat} {la : List (Option Value)} {st : List Value} {u : mm_T} {cc : ByteArray} {own : String}
/-- behind a call -/
theorem v_back {H : Heap} {locs : List Loc} {cells slots bc bs : Nat} {ls : Array Slot} {st0 rest : List Value} {Q : Option Value → mm_T → Prop} {a : Array Value} {g : JFrame} (hg : g = F0 m pc ls st0)
    (hr : va_Run p l e R s m args below meth c H locs cells slots bc bs g (rest.map (ev_v q)) (Qw q Q a) (fun x => q.1 ≤ x)) (h1 : lh q nL la ls) (h3 : va_S (fun a => q.1 ≤ a) s.heap H locs) (h4 : cells + u.1 ≤ R.cells) (h5 : slots + u.2.1 ≤ R.slots) (hb1 : bc ≤ u.1) (hb2 : bs ≤ u.2.1)
    (kk : ∀ v w, Q v w → Vv p l e R s m args below meth c nL q Qf (pc + 3) la (v.toList ++ rest) (u.1 - bc, u.2.1 - bs, w.2.2)) : W p l e R s m args below meth c H locs cells slots Qf g := by
  subst hg
  intro T hT X
  obtain ⟨v, st₀, t, T', L, h0, X', hL, e1, e2, ⟨⟨v', w, hv, hq, hw⟩, hz, hk⟩, stp⟩ := hr T hT X
  have hvv : v = v'.map (ev_v q) := by injection hv
  subst hvv
  rw [h0] at hz hk
  have hS' : va_S (fun a => q.1 ≤ a) s.heap T'.heap (locs ++ L) := ⟨Nat.le_trans h3.1 (by rw [e1]; exact hz), fun x g1 g2 => by rw [e1, hk x (Nat.lt_of_lt_of_le g1 h3.1) g2]; exact h3.2.1 x g1 g2, fun x hx => by
      rcases List.mem_append.mp hx with h | h
      · exact h3.2.2 x h
      · exact hL x h⟩
  have k2 := kk v' w hq ls T'.heap (locs ++ L) (cells + bc) (slots + bs) h1 (by rw [e1]; exact hw) hS' (by show cells + bc + (u.1 - bc) ≤ _; omega) (by show slots + bs + (u.2.1 - bs) ≤ _; omega) T' rfl X'
  obtain ⟨t2, a1, b1⟩ := k2
  have hm : (v'.toList ++ rest).map (ev_v q) = (v'.map (ev_v q)).toList ++ rest.map (ev_v q) := by cases v' <;> rfl
  rw [hm] at a1
  exact ⟨t2, stp t2 a1, b1⟩
theorem cat_map (q : ev_T) (l : List Value) : ((l.map (ev_v q)).map fun v => v.category).sum = (l.map fun v => v.category).sum := by
  rw [List.map_map]
  congr 1
  exact List.map_congr_left fun v _ => ev_cat q v
theorem v_pre (X : Cx p s m args c cc nL own q) {H : Heap} {locs : List Loc} (h2 : WD q u H) (h3 : va_S (fun a => q.1 ≤ a) s.heap H locs) (bc bs : Nat) (av : List Value) : ∀ U : State, U.heap = H → s.WarmedH U.vm → va_Pc (av.map (ev_v q)) (Bw q (bc, bs, u.2.2)) (av.map (ev_v q)).toArray U :=
  fun U hU hW => ⟨rfl, by rw [hU]; exact h2, X.2.2.2.2.2.1.to hW (by rw [hU]; exact h3)⟩
theorem v_invV (X : Cx p s m args c cc nL own q) {idx n b ci d bc bs : Nat} {M : mt_T} {T : u_T} {As st0 : List Value} {Q : Option Value → mm_T → Prop} (hM : Ctr l q M d (.ref b :: As) (bc, bs, u.2.2) Q) (hd : decode cc pc = .ok (.invokevirtual idx, 3)) (hL : ML own idx M) (hK : MK M n) (hV : MV M) (hk : kdT b = .inl ci) (hc : vwCl[ci]? = some (M.1.cls, T, nfT ci)) (hb : b < mN u) (hst : st0 = As.reverse ++ .ref b :: st) (hn : As.length = n) (hcat : (st.map fun v => v.category).sum ≤ 8) (hRf : d + 1 ≤ R.frames) (hRl : 48 * (d + 1) ≤ R.locals) (hb1 : bc ≤ u.1) (hb2 : bs ≤ u.2.1)
    (kk : ∀ v w, Q v w → Vv p l e R s m args below meth c nL q Qf (pc + 3) la (v.toList ++ st) (u.1 - bc, u.2.1 - bs, w.2.2)) : Vv p l e R s m args below meth c nL q Qf pc la st0 u := by
  intro ls H locs cells slots h1 h2 h3 h4 h5
  obtain ⟨k1, k2, k3, k4, k5, k6, k7⟩ := hK
  have hrecv := va_recv X.2.2.2.2.2.1.1 h2.2.1 hc (by rw [mm_at hb, mm_ob hk])
  have hms : st0.map (ev_v q) = (As.map (ev_v q)).reverse ++ .ref (q.1 + b) :: st.map (ev_v q) := by
    rw [hst, List.map_append, List.map_reverse, List.map_cons]
    show _ ++ Value.ref (ev_ad q b) :: _ = _
    rw [h2.ref hb]
  have hpre := v_pre X h2 h3 bc bs (.ref b :: As)
  have hpre' : ∀ U : State, U.heap = H → s.WarmedH U.vm → va_Pc (((Value.ref b) :: As).map (ev_v q)) (Bw q (bc, bs, u.2.2)) (Value.ref (q.1 + b) :: As.map (ev_v q)).toArray U := by
    intro U hU hW
    have hz := hpre U hU hW
    have he : ((Value.ref b) :: As).map (ev_v q) = Value.ref (q.1 + b) :: As.map (ev_v q) := by
      show Value.ref (ev_ad q b) :: _ = _
      rw [h2.ref hb]
    rw [he] at hz ⊢
    exact hz
  rcases hL with hL | ⟨host, hL⟩
  · refine v_back (g := F0 m pc ls (st0.map (ev_v q))) rfl (va_runV (As := As.map (ev_v q)) (C := M.1.cls) (nL := nL) ⟨X.1, X.2.1, X.2.2.1, X.2.2.2.1, X.2.2.2.2.1⟩ hM ⟨callB_of n X.2.2.2.2.1 (tbG_in k1) rfl rfl rfl (X.2.2.2.2.1 _ k2) (X.2.2.2.2.1 _ hL) ⟨k5, k6, k7⟩ ⟨hRf, by show 8 + (M.2.2.1 + 11) + 48 * d ≤ _; omega⟩, X.2.2.2.2.1 _ hV.1, X.2.2.2.2.1 _ hV.2⟩ ⟨Bw_blind _ _ _, hrecv, hpre'⟩ rfl (by rw [List.length_map]; exact hn) h1.1 hms (lv_room (by rw [cat_map]; exact hcat)) hd ⟨by show cells + bc ≤ _; omega, by show slots + bs ≤ _; omega⟩) h1 h3 h4 h5 hb1 hb2 kk
  · refine v_back (g := F0 m pc ls (st0.map (ev_v q))) rfl (va_runVN (As := As.map (ev_v q)) (C := M.1.cls) (nL := nL) ⟨X.1, X.2.1, X.2.2.1, X.2.2.2.1, X.2.2.2.2.1⟩ hM ⟨va_cnB n X.2.2.2.2.1 (tbG_in k1) rfl rfl rfl (X.2.2.2.2.2.1.2.1 _ hL) (X.2.2.2.2.1 _ k2) ⟨k5, k6, k7⟩ ⟨hRf, by show 8 + (M.2.2.1 + 11) + 48 * d ≤ _; omega⟩, X.2.2.2.2.1 _ hV.1, X.2.2.2.2.1 _ hV.2⟩ ⟨Bw_blind _ _ _, hrecv, hpre'⟩ rfl (by rw [List.length_map]; exact hn) h1.1 hms (lv_room (by rw [cat_map]; exact hcat)) hd ⟨by show cells + bc ≤ _; omega, by show slots + bs ≤ _; omega⟩) h1 h3 h4 h5 hb1 hb2 kk
theorem v_invS (X : Cx p s m args c cc nL own q) {idx n d bc bs : Nat} {M : mt_T} {As st0 : List Value} {Q : Option Value → mm_T → Prop} (hM : Ctr l q M d As (bc, bs, u.2.2) Q) (hd : decode cc pc = .ok (.invokestatic idx, 3)) (hL : ML own idx M) (hK : MK M n) (hS : Cond.static M.1 ∈ tbG) (hst : st0 = As.reverse ++ st) (hn : As.length = n) (hcat : (st.map fun v => v.category).sum ≤ 8) (hRf : d + 1 ≤ R.frames) (hRl : 48 * (d + 1) ≤ R.locals) (hb1 : bc ≤ u.1) (hb2 : bs ≤ u.2.1)
    (kk : ∀ v w, Q v w → Vv p l e R s m args below meth c nL q Qf (pc + 3) la (v.toList ++ st) (u.1 - bc, u.2.1 - bs, w.2.2)) : Vv p l e R s m args below meth c nL q Qf pc la st0 u := by
  intro ls H locs cells slots h1 h2 h3 h4 h5
  obtain ⟨k1, k2, k3, k4, k5, k6, k7⟩ := hK
  have hms : st0.map (ev_v q) = (As.map (ev_v q)).reverse ++ st.map (ev_v q) := by
    rw [hst, List.map_append, List.map_reverse]
  have hpre := v_pre X h2 h3 bc bs As
  rcases hL with hL | ⟨host, hL⟩
  · refine v_back (g := F0 m pc ls (st0.map (ev_v q))) rfl (va_runS (As := As.map (ev_v q)) (nL := nL) ⟨X.1, X.2.1, X.2.2.1, X.2.2.2.1, X.2.2.2.2.1⟩ hM ⟨callB_of n X.2.2.2.2.1 (tbG_in k1) rfl rfl rfl (X.2.2.2.2.1 _ k2) (X.2.2.2.2.1 _ hL) ⟨k5, k6, k7⟩ ⟨hRf, by show 8 + (M.2.2.1 + 11) + 48 * d ≤ _; omega⟩, X.2.2.2.2.1 _ hS⟩ ⟨Bw_blind _ _ _, hpre⟩ rfl (by rw [List.length_map]; exact hn) h1.1 hms (lv_room (by rw [cat_map]; exact hcat)) hd ⟨by show cells + bc ≤ _; omega, by show slots + bs ≤ _; omega⟩) h1 h3 h4 h5 hb1 hb2 kk
  · refine v_back (g := F0 m pc ls (st0.map (ev_v q))) rfl (va_runSN (As := As.map (ev_v q)) (nL := nL) ⟨X.1, X.2.1, X.2.2.1, X.2.2.2.1, X.2.2.2.2.1⟩ hM ⟨va_cnB n X.2.2.2.2.1 (tbG_in k1) rfl rfl rfl (X.2.2.2.2.2.1.2.1 _ hL) (X.2.2.2.2.1 _ k2) ⟨k5, k6, k7⟩ ⟨hRf, by show 8 + (M.2.2.1 + 11) + 48 * d ≤ _; omega⟩, X.2.2.2.2.1 _ hS, trivial⟩ ⟨Bw_blind _ _ _, hpre⟩ rfl (by rw [List.length_map]; exact hn) h1.1 hms (lv_room (by rw [cat_map]; exact hcat)) hd ⟨by show cells + bc ≤ _; omega, by show slots + bs ≤ _; omega⟩) h1 h3 h4 h5 hb1 hb2 kk
/-- a making method -/
theorem v_invI (X : Cx p s m args c cc nL own q) {idx n b d bc bs : Nat} {M : mt_T} {As st0 : List Value} {Q : Option Value → mm_T → Prop} (hM : Ctr l q M d (.ref b :: As) (bc, bs, u.2.2) Q) (hd : decode cc pc = .ok (.invokespecial idx, 3)) (hL : ML own idx M) (hK : MK M n) (hret : M.2.2.2 = none) (hin : M.1.name = "<init>") (hI : Cond.instanceMethod M.1 ∈ tbG) (hb : b < mN u) (hst : st0 = As.reverse ++ .ref b :: st) (hn : As.length = n) (hcat : (st.map fun v => v.category).sum ≤ 8) (hRf : d + 1 ≤ R.frames) (hRl : 48 * (d + 1) ≤ R.locals) (hb1 : bc ≤ u.1) (hb2 : bs ≤ u.2.1)
    (kk : ∀ v w, Q v w → Vv p l e R s m args below meth c nL q Qf (pc + 3) la (v.toList ++ st) (u.1 - bc, u.2.1 - bs, w.2.2)) : Vv p l e R s m args below meth c nL q Qf pc la st0 u := by
  intro ls H locs cells slots h1 h2 h3 h4 h5
  obtain ⟨y, cd, ml, ret⟩ := M
  dsimp only at hret
  subst hret
  obtain ⟨k1, k2, k3, k4, k5, k6, k7⟩ := hK
  have hms : st0.map (ev_v q) = (As.map (ev_v q)).reverse ++ .ref (q.1 + b) :: st.map (ev_v q) := by
    rw [hst, List.map_append, List.map_reverse, List.map_cons]
    show _ ++ Value.ref (ev_ad q b) :: _ = _
    rw [h2.ref hb]
  have hpre := v_pre X h2 h3 bc bs (.ref b :: As)
  have hpre' : ∀ U : State, U.heap = H → s.WarmedH U.vm → va_Pc (((Value.ref b) :: As).map (ev_v q)) (Bw q (bc, bs, u.2.2)) (Value.ref (q.1 + b) :: As.map (ev_v q)).toArray U := by
    intro U hU hW
    have hz := hpre U hU hW
    have he : ((Value.ref b) :: As).map (ev_v q) = Value.ref (q.1 + b) :: As.map (ev_v q) := by
      show Value.ref (ev_ad q b) :: _ = _
      rw [h2.ref hb]
    rw [he] at hz ⊢
    exact hz
  have hG := tbG_in (M := (y, cd, ml, none)) k1
  rcases hL with hL | ⟨host, hL⟩
  · refine v_back (g := F0 m pc ls (st0.map (ev_v q))) rfl (va_runI (As := As.map (ev_v q)) (nL := nL) ⟨X.1, X.2.1, X.2.2.1, X.2.2.2.1, X.2.2.2.2.1⟩ hM ⟨callB_of n X.2.2.2.2.1 hG rfl rfl rfl (X.2.2.2.2.1 _ k2) (X.2.2.2.2.1 _ hL) ⟨k5, k6, k7⟩ ⟨hRf, by show 8 + (ml + 11) + 48 * d ≤ _; dsimp only at k4; omega⟩, hin, X.2.2.2.2.1 _ hI⟩ ⟨Bw_blind _ _ _, hpre'⟩ rfl (by rw [List.length_map]; exact hn) h1.1 hms (lv_room (by rw [cat_map]; exact hcat)) hd ⟨by show cells + bc ≤ _; omega, by show slots + bs ≤ _; omega⟩) h1 h3 h4 h5 hb1 hb2 kk
  · refine v_back (g := F0 m pc ls (st0.map (ev_v q))) rfl (va_runIN (As := As.map (ev_v q)) (nL := nL) ⟨X.1, X.2.1, X.2.2.1, X.2.2.2.1, X.2.2.2.2.1⟩ hM ⟨va_cnB n X.2.2.2.2.1 hG rfl rfl rfl (X.2.2.2.2.2.1.2.1 _ hL) (X.2.2.2.2.1 _ k2) ⟨k5, k6, k7⟩ ⟨hRf, by show 8 + (ml + 11) + 48 * d ≤ _; dsimp only at k4; omega⟩, hin, X.2.2.2.2.1 _ hI⟩ ⟨Bw_blind _ _ _, hpre'⟩ rfl (by rw [List.length_map]; exact hn) h1.1 hms (lv_room (by rw [cat_map]; exact hcat)) hd ⟨by show cells + bc ≤ _; omega, by show slots + bs ≤ _; omega⟩) h1 h3 h4 h5 hb1 hb2 kk
end VC
section VR
variable {p : Program} {l : Launch} {e : Env} {R : Room} {s : State} {m : MethodId} {args : Array Value} {below : List Frame} {meth : Method} {c : Code} {nL : Nat} {q : ev_T} {pc : Nat} {la : List (Option Value)} {u : mm_T} {cc : ByteArray} {own : String} {Q : Option Value → mm_T → Prop}
theorem v_iret (X : Cx p s m args c cc nL own q) {v : Int32} (hlk : meth.locks = false) (hr : meth.sig.returnType = some .int) (hd : decode cc pc = .ok (.ireturn, 1)) (hQ : Q (some (.int v)) u) : Vv p l e R s m args below meth c nL q (MQ below (Qw q Q) args s R.cells R.slots (fun a => q.1 ≤ a)) pc la [.int v] u := by
  intro ls H locs cells slots h1 h2 h3 h4 h5
  refine W.widen (k := R.cells) (n := R.slots) (by omega) (by omega) ?_
  exact W.iret X.1 X.2.1 hr (fun t ht hW => ⟨⟨some (.int v), u, rfl, hQ, by rw [ht]; exact h2⟩, h3.F ht⟩) h3.2.2 hd hlk
theorem v_zret (X : Cx p s m args c cc nL own q) {v : Int32} {ty : FieldType} (hlk : meth.locks = false) (hr : meth.sig.returnType = some ty) (hn : narrow ty (.int v) = .int v) (hd : decode cc pc = .ok (.ireturn, 1)) (hQ : Q (some (.int v)) u) : Vv p l e R s m args below meth c nL q (MQ below (Qw q Q) args s R.cells R.slots (fun a => q.1 ≤ a)) pc la [.int v] u := by
  intro ls H locs cells slots h1 h2 h3 h4 h5
  refine W.widen (k := R.cells) (n := R.slots) (by omega) (by omega) ?_
  exact W.zret X.1 X.2.1 hr hn (fun t ht hW => ⟨⟨some (.int v), u, rfl, hQ, by rw [ht]; exact h2⟩, h3.F ht⟩) h3.2.2 hd hlk
theorem v_lret (X : Cx p s m args c cc nL own q) {v : Int64} (hlk : meth.locks = false) (hr : meth.sig.returnType = some .long) (hd : decode cc pc = .ok (.lreturn, 1)) (hQ : Q (some (.long v)) u) : Vv p l e R s m args below meth c nL q (MQ below (Qw q Q) args s R.cells R.slots (fun a => q.1 ≤ a)) pc la [.long v] u := by
  intro ls H locs cells slots h1 h2 h3 h4 h5
  refine W.widen (k := R.cells) (n := R.slots) (by omega) (by omega) ?_
  exact W.lret X.1 X.2.1 hr (fun t ht hW => ⟨⟨some (.long v), u, rfl, hQ, by rw [ht]; exact h2⟩, h3.F ht⟩) h3.2.2 hd hlk
theorem v_vret (X : Cx p s m args c cc nL own q) (hlk : meth.locks = false) (hr : meth.sig.returnType = none) (hd : decode cc pc = .ok (.return_, 1)) (hQ : Q none u) : Vv p l e R s m args below meth c nL q (MQ below (Qw q Q) args s R.cells R.slots (fun a => q.1 ≤ a)) pc la [] u := by
  intro ls H locs cells slots h1 h2 h3 h4 h5
  refine W.widen (k := R.cells) (n := R.slots) (by omega) (by omega) ?_
  exact W.vret X.1 X.2.1 hr (fun t ht hW => ⟨⟨none, u, rfl, hQ, by rw [ht]; exact h2⟩, h3.F ht⟩) h3.2.2 hd hlk
theorem v_aret (X : Cx p s m args c cc nL own q) {r : Option Nat} {rt : FieldType} (hlk : meth.locks = false) (hr : meth.sig.returnType = some rt) (hrt : (∃ n, rt = .object n) ∨ ∃ t, rt = .array t) (hd : decode cc pc = .ok (.areturn, 1)) (hQ : Q (some (va_rf r)) u) : Vv p l e R s m args below meth c nL q (MQ below (Qw q Q) args s R.cells R.slots (fun a => q.1 ≤ a)) pc la [va_rf r] u := by
  intro ls H locs cells slots h1 h2 h3 h4 h5
  refine W.widen (k := R.cells) (n := R.slots) (by omega) (by omega) ?_
  exact W.aret X.1 X.2.1 hr hrt (by cases r; exact Or.inl rfl; exact Or.inr ⟨_, rfl⟩) (fun t ht hW => ⟨⟨some (va_rf r), u, rfl, hQ, by rw [ht]; exact h2⟩, h3.F ht⟩) h3.2.2 hd hlk
end VR
/-- a method's contract out of the walk of its body -/
theorem Ctr.of {l : Launch} {q : ev_T} {y : MethodName} {cc : ByteArray} {mL : Nat} {ret : Option FieldType} {d : Nat} {av : List Value} {u : mm_T} {Q : Option Value → mm_T → Prop} {lb : List (Option Value)} (hy : plainName y.cls = true) (hle : (lg_sl (av.map (ev_v q))).length ≤ mL) (hlb : lb.length = mL) (hla : ∀ (k : Nat) (v : Value), lb[k]? = some (some v) → (k, ev_v q v) ∈ lv_args 0 (av.map (ev_v q)))
    (body : ∀ (p : Program) (e : Env) (s : State) (m : MethodId) (args : Array Value) (below : List Frame) (meth : Method) (c : Code), Cx p s m args c cc mL y.cls q → meth.sig.returnType = ret → meth.locks = false → meth.name = y.name →
      Vv p l e (rmT d u.1 u.2.1) s m args below meth c mL q (MQ below (Qw q Q) args s u.1 u.2.1 (fun a => q.1 ≤ a)) 0 lb [] u) : Ctr l q (y, cc, mL, ret) d av u Q := by
  refine Met.ofW (cc := cc) (maxL := mL) (ret := ret) hy rfl ?_
  intro p e s m args below meth c s₁ B hml hv
  obtain ⟨rfl, hWD, hBk⟩ := hv
  have hts := atoms_spec (ws := Cond.code y cc mL ret :: tbG) B.pre
  have hown : s.vm.findClass y.cls = some m.cls := findClass_of_methodNamed B.named
  have hin : meth.name = y.name := (name_of_methodNamed B.named B.method).1
  have hl := lv_entry (av.map (ev_v q)) (n := mL) hle
  rw [lg_entry_eq]
  refine body p e s m _ below meth c ⟨B.exec, B.bytes, hml, hown, fun w hw => hts w (List.mem_cons_of_mem _ hw), hBk, by have := hWD.1; omega⟩ B.returns B.notSynchronized hin _ s.heap [] 0 0 ⟨hl.1, hlb, hl.2.1, fun k v hk => hl.2.2 _ (hla k v hk)⟩ hWD va_S.rf (by show 0 + u.1 ≤ u.1; omega) (by show 0 + u.2.1 ≤ u.2.1; omega)
end
section
/-! what stands still, the JDK's rows, copies -/
section VS
variable {p : Program} {l : Launch} {e : Env} {R : Room} {s : State} {m : MethodId} {args : Array Value} {below : List Frame} {meth : Method} {c : Code} {nL : Nat} {q : ev_T} {Qf : State → Prop} {pc : Nat} {la : List (Option Value)} {st : List Value} {u : mm_T} {cc : ByteArray} {own : String}
theorem Cx.sf (X : Cx p s m args c cc nL own q) : SF q s s.heap := X.2.2.2.2.2.1.2.2
theorem v_gets (X : Cx p s m args c cc nL own q) {idx : Nat} {C n d : String} {v : Value} (hd : decode cc pc = .ok (.getstatic idx, 3)) (hl : Cond.fieldLink own idx C n d ∈ tbG ∨ ∃ host, Cond.fieldLinkNest own idx C n d host ∈ nstT) (hZ : va_Z C n d (ev_v q v) (fun a => q.1 ≤ a) s s.heap) (kk : Vv p l e R s m args below meth c nL q Qf (pc + 3) la (v :: st) u) : Vv p l e R s m args below meth c nL q Qf pc la st u := by
  intro ls H locs cells slots h1 h2 h3 h4 h5
  rcases hl with hl | ⟨host, hl⟩
  · exact va_gets X.1 X.2.1 hZ h3 X.2.2.2.1 (X.2.2.2.2.1 _ hl) (fun x hx => hx) hd (kk ls H locs cells slots h1 h2 h3 h4 h5)
  · exact va_getsN X.1 X.2.1 hZ h3 X.2.2.2.1 (va_Nw.use rfl (X.2.2.2.2.2.1.2.1 _ hl)) (fun x hx => hx) hd (kk ls H locs cells slots h1 h2 h3 h4 h5)
theorem v_sget (X : Cx p s m args c cc nL own q) {idx a : Nat} {o n d : String} {v : Value} (hd : decode cc pc = .ok (.getfield idx, 3)) (hl : Cond.fieldLink own idx o n d ∈ tbG) (hE : va_OF o n d (ev_v q v) (ev_ad q a) (fun a => q.1 ≤ a) s s.heap) (kk : Vv p l e R s m args below meth c nL q Qf (pc + 3) la (v :: st) u) : Vv p l e R s m args below meth c nL q Qf pc la (.ref a :: st) u := by
  intro ls H locs cells slots h1 h2 h3 h4 h5
  exact vk_getf X.1 X.2.1 hE h3 X.2.2.2.1 (X.2.2.2.2.1 _ hl) (fun x hx => hx) hd (kk ls H locs cells slots h1 h2 h3 h4 h5)
theorem v_salen (X : Cx p s m args c cc nL own q) {a N : Nat} {ty : FieldType} {f : Nat → Value} {v : Int32} (hd : decode cc pc = .ok (.arraylength, 1)) (hT : va_T ty (ev_ad q a) N f (fun a => q.1 ≤ a) s s.heap) (hv : Int32.ofNat N = v) (kk : Vv p l e R s m args below meth c nL q Qf (pc + 1) la (.int v :: st) u) : Vv p l e R s m args below meth c nL q Qf pc la (.ref a :: st) u :=
  fun ls H locs cells slots h1 h2 h3 h4 h5 => va_tlen X.1 X.2.1 hT h3 hv hd (kk ls H locs cells slots h1 h2 h3 h4 h5)
theorem v_siald (X : Cx p s m args c cc nL own q) {a N : Nat} {f : Nat → Value} {i : Int32} {v : Value} (hd : decode cc pc = .ok (.iaload, 1)) (hT : va_T .int (ev_ad q a) N f (fun a => q.1 ≤ a) s s.heap) (hin : vp_in i N) (hv : f i.toNatClampNeg = ev_v q v) (kk : Vv p l e R s m args below meth c nL q Qf (pc + 1) la (v :: st) u) : Vv p l e R s m args below meth c nL q Qf pc la (.int i :: .ref a :: st) u :=
  fun ls H locs cells slots h1 h2 h3 h4 h5 => va_ti X.1 X.2.1 hT h3 hin hv hd (kk ls H locs cells slots h1 h2 h3 h4 h5)
theorem v_sbald (X : Cx p s m args c cc nL own q) {a N : Nat} {f : Nat → Value} {i : Int32} {v : Value} (hd : decode cc pc = .ok (.baload, 1)) (hT : va_T .byte (ev_ad q a) N f (fun a => q.1 ≤ a) s s.heap) (hin : vp_in i N) (hv : f i.toNatClampNeg = ev_v q v) (kk : Vv p l e R s m args below meth c nL q Qf (pc + 1) la (v :: st) u) : Vv p l e R s m args below meth c nL q Qf pc la (.int i :: .ref a :: st) u :=
  fun ls H locs cells slots h1 h2 h3 h4 h5 => va_tb X.1 X.2.1 hT h3 hin hv hd (kk ls H locs cells slots h1 h2 h3 h4 h5)
theorem v_saald (X : Cx p s m args c cc nL own q) {a N : Nat} {C : String} {f : Nat → Value} {i : Int32} {v : Value} (hd : decode cc pc = .ok (.aaload, 1)) (hT : va_T (.object C) (ev_ad q a) N f (fun a => q.1 ≤ a) s s.heap) (hin : vp_in i N) (hv : f i.toNatClampNeg = ev_v q v) (kk : Vv p l e R s m args below meth c nL q Qf (pc + 1) la (v :: st) u) : Vv p l e R s m args below meth c nL q Qf pc la (.int i :: .ref a :: st) u :=
  fun ls H locs cells slots h1 h2 h3 h4 h5 => vb_tq X.1 X.2.1 hT h3 hin hv hd (kk ls H locs cells slots h1 h2 h3 h4 h5)
theorem v_ldcS (X : Cx p s m args c cc nL own q) {i a : Nat} {tx : String} (hd : decode cc pc = .ok (.ldc i, 2)) (hR : vk_R own i tx (ev_ad q a) s) (kk : Vv p l e R s m args below meth c nL q Qf (pc + 2) la (.ref a :: st) u) : Vv p l e R s m args below meth c nL q Qf pc la st u :=
  fun ls H locs cells slots h1 h2 h3 h4 h5 => va_ldcS X.1 X.2.1 X.2.2.2.1 hR hd (kk ls H locs cells slots h1 h2 h3 h4 h5)
theorem v_objInit (X : Cx p s m args c cc nL own q) {idx : Nat} {a : Nat} (hd : decode cc pc = .ok (.invokespecial idx, 3)) (hl : Cond.methodLink own idx Lib.objectInit ∈ tbG) (hi : Cond.instanceMethod Lib.objectInit ∈ tbG) (hc : Cond.code Lib.objectInit ⟨#[0xb1]⟩ 1 none ∈ tbG) (hRf : 1 ≤ R.frames) (hRl : 20 ≤ R.locals) (hcat : (st.map fun v => v.category).sum ≤ 8) (kk : Vv p l e R s m args below meth c nL q Qf (pc + 3) la st u) : Vv p l e R s m args below meth c nL q Qf pc la (.ref a :: st) u := by
  intro ls H locs cells slots h1 h2 h3 h4 h5
  exact W.objInit X.1 X.2.1 X.2.2.2.1 (X.2.2.2.2.1 _ hl) (X.2.2.2.2.1 _ hi) (X.2.2.2.2.1 _ hc) (g := F0 m pc ls (.ref (ev_ad q a) :: st.map (ev_v q))) rfl (by show ls.size = _; rw [X.2.2.1]; exact h1.1) rfl hd hRf (by rw [cat_map]; show 2 * 0 + _ + 12 ≤ _; omega) (kk ls H locs cells slots h1 h2 h3 h4 h5)
theorem v_max (X : Cx p s m args c cc nL own q) {idx : Nat} {x y z : Int32} (hd : decode cc pc = .ok (.invokestatic idx, 3)) (hl : Cond.methodLink own idx Lib.Math.max.name ∈ tbG) (hs : Cond.static Lib.Math.max.name ∈ tbG) (hi : Cond.initialized "java/lang/Math" ∈ tbG) (hc : Cond.code Lib.Math.max.name Lib.Math.max.code 2 (some .int) ∈ tbG) (hRf : 1 ≤ R.frames) (hRl : 21 ≤ R.locals) (hcat : (st.map fun v => v.category).sum ≤ 8) (hz : (if x < y then y else x) = z) (kk : Vv p l e R s m args below meth c nL q Qf (pc + 3) la (.int z :: st) u) : Vv p l e R s m args below meth c nL q Qf pc la (.int y :: .int x :: st) u := by
  subst hz
  intro ls H locs cells slots h1 h2 h3 h4 h5
  exact va_mmax X.1 X.2.1 (by rw [X.2.2.1, h1.1]) X.2.2.2.1 (X.2.2.2.2.1 _ hl) (X.2.2.2.2.1 _ hs) (X.2.2.2.2.1 _ hi) (X.2.2.2.2.1 _ hc) hRf (by rw [cat_map]; omega) (by omega) (by omega) hd (kk ls H locs cells slots h1 h2 h3 h4 h5)
theorem v_min (X : Cx p s m args c cc nL own q) {idx : Nat} {x y z : Int32} (hd : decode cc pc = .ok (.invokestatic idx, 3)) (hl : Cond.methodLink own idx Lib.Math.min.name ∈ tbG) (hs : Cond.static Lib.Math.min.name ∈ tbG) (hi : Cond.initialized "java/lang/Math" ∈ tbG) (hc : Cond.code Lib.Math.min.name Lib.Math.min.code 2 (some .int) ∈ tbG) (hRf : 1 ≤ R.frames) (hRl : 21 ≤ R.locals) (hcat : (st.map fun v => v.category).sum ≤ 8) (hz : (if y < x then y else x) = z) (kk : Vv p l e R s m args below meth c nL q Qf (pc + 3) la (.int z :: st) u) : Vv p l e R s m args below meth c nL q Qf pc la (.int y :: .int x :: st) u := by
  subst hz
  intro ls H locs cells slots h1 h2 h3 h4 h5
  exact va_mmin X.1 X.2.1 (by rw [X.2.2.1, h1.1]) X.2.2.2.1 (X.2.2.2.2.1 _ hl) (X.2.2.2.2.1 _ hs) (X.2.2.2.2.1 _ hi) (X.2.2.2.2.1 _ hc) hRf (by rw [cat_map]; omega) (by omega) (by omega) hd (kk ls H locs cells slots h1 h2 h3 h4 h5)
/-- a constant object into a row of references of ours -/
theorem v_aastS (X : Cx p s m args c cc nL own q) {bc bs : Nat} {g : mu_T} {a b t len : Nat} {i : Int32} {E : String} (hd : decode cc pc = .ok (.aastore, 1)) (hk : kdT a = .inr (t, len)) (hty : tyT[t]? = some (.object E)) (ht : ¬ t < 3) (ha : a < gN g) (hin : vp_in i len) (hO : va_O E (ev_ad q b) (fun a => q.1 ≤ a) s s.heap) (kk : Vv p l e R s m args below meth c nL q Qf (pc + 1) la st (bc, bs, xR g a i.toNatClampNeg (some b))) : Vv p l e R s m args below meth c nL q Qf pc la (.ref b :: .int i :: .ref a :: st) (bc, bs, g) := by
  intro ls H locs cells slots h1 h2 h3 h4 h5
  show W p l e R s m args below meth c H locs cells slots Qf (F0 m pc ls (.ref (ev_ad q b) :: .int i :: .ref (ev_ad q a) :: st.map (ev_v q)))
  rw [h2.ref ha]
  have hat : H[q.1 + a]? = some (vp_cell (q.2.2.1 t) (len, .inr (.inr (.inr (.inr (fun j => (gR g a j).map (ev_ad q))))))) := by have := h2.at ha; rw [mm_ar hk ht] at this; exact this
  have hlt : i.toNatClampNeg < len := Nat.not_le.mp fun z => hin (Or.inr z)
  have h0 : ¬ i < 0 := fun z => hin (Or.inl z)
  obtain ⟨cellV, g1, g2, g3, g4⟩ := hO.kept h3.2.1
  obtain ⟨kA, comp, k1, k2, k3, -⟩ := (X.2.2.2.2.2.1.1.2 t _ (ev_ty hty)).2
  have hcomp : comp = cellV.cls := Option.some.inj (k3.symm.trans g3)
  subst hcomp
  obtain ⟨kC, hkC⟩ : ∃ kC, s.vm.classes[cellV.cls]? = some kC := Vm.classAt_of_findClass g3
  refine W.aast X.1 X.2.1 hat (fun z h => by cases h) (fun h => by cases h) k1 k2 rfl hkC ⟨h0, by show _ < (arrV _ _ _).slots.size; rw [arrV_size]; exact hlt⟩ g1 (fun z h => by rw [h] at g2; cases g2) hkC (va_asg _ _) rfl rfl hd fun H1 e1 z oq => ?_
  exact kk ls H1 _ cells slots h1 (h2.astR ha hk ht e1 z oq) (h3.put z oq (Nat.le_add_right _ _)) h4 h5
/-- bytes or ints of one row behind those of another -/
theorem v_copy (X : Cx p s m args c cc nL own q) {bc bs : Nat} {g : mu_T} {idx a0 a1 t n0 n1 : Nat} {ty : FieldType} {sp dp n : Int32} {f : Nat → Int32} (hd : decode cc pc = .ok (.invokestatic idx, 3)) (hl : Cond.methodLink own idx arraycopyName ∈ tbG) (hnat : Cond.native arraycopyName ∈ tbG) (hstat : Cond.static arraycopyName ∈ tbG) (hini : Cond.initialized "java/lang/System" ∈ tbG)
    (hk0 : kdT a0 = .inr (1, n0)) (hk1 : kdT a1 = .inr (1, n1)) (ha0 : a0 < gN g) (ha1 : a1 < gN g) (g1 : ¬ sp < 0) (g2 : ¬ dp < 0) (g3 : ¬ n < 0) (g4 : sp.toNatClampNeg + n.toNatClampNeg ≤ n0) (g5 : dp.toNatClampNeg + n.toNatClampNeg ≤ n1) (hRf : 1 ≤ R.frames) (hRl : 8 + (nativeFrameWords "java/lang/System" "arraycopy" 5 + 11) ≤ R.locals) (hcat : (st.map fun v => v.category).sum ≤ 8) (hf : va_cpy (gI g a0) (gI g a1) sp.toNatClampNeg dp.toNatClampNeg n.toNatClampNeg = f)
    (kk : Vv p l e R s m args below meth c nL q Qf (pc + 3) la st (bc, bs, xA g a1 f)) : Vv p l e R s m args below meth c nL q Qf pc la (.int n :: .int dp :: .ref a1 :: .int sp :: .ref a0 :: st) (bc, bs, g) := by
  subst hf
  intro ls H locs cells slots h1 h2 h3 h4 h5
  show W p l e R s m args below meth c H locs cells slots Qf (F0 m pc ls (.int n :: .int dp :: .ref (ev_ad q a1) :: .int sp :: .ref (ev_ad q a0) :: st.map (ev_v q)))
  rw [h2.ref ha0, h2.ref ha1]
  have nn : ∀ z : Int32, ¬ z < 0 → z.toInt = (z.toNatClampNeg : Int) := by
    intro z hz
    have hz0 : (0 : Int) ≤ z.toInt := by
      have := Int32.not_lt.mp hz
      simpa using Int32.le_iff_toInt_le.mp this
    show z.toInt = ((z.toInt.toNat : Nat) : Int)
    omega
  have hc0 : H[q.1 + a0]? = some (vp_cell (q.2.2.1 1) (n0, .inl (gI g a0))) := by have := h2.at ha0; rw [mm_ai hk0 (by decide)] at this; exact this
  have hc1 : H[q.1 + a1]? = some (vp_cell (q.2.2.1 1) (n1, .inl (gI g a1))) := by have := h2.at ha1; rw [mm_ai hk1 (by decide)] at this; exact this
  have hty1 := (X.2.2.2.2.2.1.1.2 1 _ (ev_ty (ty := .byte) rfl)).1
  intro T hT Y
  obtain ⟨-, k0, hkk0, cm0, hkd0⟩ := hty1 n0 (fun j => .int (gI g a0 j))
  obtain ⟨-, k1, hkk1, cm1, hkd1⟩ := hty1 n1 (fun j => .int (gI g a1 j))
  have hbyte : ∀ j, fits .byte (.int (gI g a0 j)) = true := fun j => by
    have hb := h2.2.2.2.1 a0 n0 hk0 j
    have hb' : (gI g a0 j).toInt8.toInt32 = gI g a0 j := hb
    rw [← hb']; exact pk_fb _
  obtain ⟨vm', X', step⟩ := Y.arraycopy X.1 X.2.2.2.1 (X.2.2.2.2.1 _ hl) (X.2.2.2.2.1 _ hnat) (X.2.2.2.2.1 _ hstat) (X.2.2.2.2.1 _ hini) (src := q.1 + a0) (dst := q.1 + a1) (cs := vp_cell (q.2.2.1 1) (n0, .inl (gI g a0))) (cd := vp_cell (q.2.2.1 1) (n1, .inl (gI g a1))) (srcPos := sp) (destPos := dp) (n := n) (by rw [hT]; exact hc0) (by rw [hT]; exact hc1)
    (fun _ h => by cases h) (fun _ h => by cases h) (fun h => by cases h) (fun h => by cases h) hkk0 hkk1 hkd0 hkd1 (by simp [refKind]) g1 g2 g3
    (by rw [nn sp g1, nn n g3]; show ¬ _ > ((arrV (q.2.2.1 1) n0 (fun j => .int (gI g a0 j))).slots.size : Int); rw [arrV_size]; omega)
    (by rw [nn dp g2, nn n g3]; show ¬ _ > ((arrV (q.2.2.1 1) n1 (fun j => .int (gI g a1 j))).slots.size : Int); rw [arrV_size]; omega)
    (fun vm₁ _ i hi => by
      have e : (vp_cell (q.2.2.1 1) (n0, .inl (gI g a0))).slots.getD (sp.toNatClampNeg + i) .null = .int (gI g a0 (sp.toNatClampNeg + i)) := by
        show (arrV (q.2.2.1 1) n0 (fun j => .int (gI g a0 j))).slots.getD _ _ = _
        rw [Array.getD_eq_getD_getElem?, arrV_read _ _ (by omega)]
        rfl
      refine ⟨?_, ?_⟩
      · rw [e]
        exact hbyte _
      · rw [e]
        exact trivial)
    (g := F0 m pc ls (.int n :: .int dp :: .ref (q.1 + a1) :: .int sp :: .ref (q.1 + a0) :: st.map (ev_v q))) rfl (by show ls.size = _; rw [X.2.2.1]; exact h1.1) (rest := st.map (ev_v q)) rfl (by rw [X.2.1]; exact hd) hRf (by rw [cat_map]; show 2 * 0 + _ + _ ≤ _; omega)
  have e1 : copied (vp_cell (q.2.2.1 1) (n0, .inl (gI g a0))) (vp_cell (q.2.2.1 1) (n1, .inl (gI g a1))) sp dp n = vp_cell (q.2.2.1 1) (n1, .inl (va_cpy (gI g a0) (gI g a1) sp.toNatClampNeg dp.toNatClampNeg n.toNatClampNeg)) := va_copied (fun z => .int z) _ _ (gI g a0) (gI g a1) g4
  rw [e1] at X' step
  have hl1 : q.1 + a1 < H.size := (Array.getElem?_eq_some_iff.mp hc1).1
  generalize hcell : vp_cell (q.2.2.1 1) (n1, .inl (va_cpy (gI g a0) (gI g a1) sp.toNatClampNeg dp.toNatClampNeg n.toNatClampNeg)) = cellN at X' step
  have hheap : ((T.setVm vm').setCell (q.1 + a1) cellN).heap = H.setIfInBounds (q.1 + a1) cellN := by rw [← hT]; rfl
  have oq : ∀ x : Nat, x ≠ q.1 + a1 → (H.setIfInBounds (q.1 + a1) cellN)[x]? = H[x]? := fun x hx => by simp [Array.getElem?_setIfInBounds, Ne.symm hx]
  have hz : (H.setIfInBounds (q.1 + a1) cellN).size = H.size := by simp
  have hW : WD q (bc, bs, xA g a1 (va_cpy (gI g a0) (gI g a1) sp.toNatClampNeg dp.toNatClampNeg n.toNatClampNeg)) (H.setIfInBounds (q.1 + a1) cellN) := by
    refine WD.upd (u := (bc, bs, g)) (a := a1) h2 rfl (mmB_A (u := (bc, bs, g)) h2.2.2.2.1 ?_) (mmZ_A (u := (bc, bs, g)) h2.2.2.2.2 ha1) ?_ (fun i hi => mm_E_A (u := (bc, bs, g)) hi) hz oq
    · intro len hlen j
      simp only [va_cpy]
      by_cases hj : dp.toNatClampNeg ≤ j ∧ j < dp.toNatClampNeg + n.toNatClampNeg
      · rw [if_pos hj]; exact h2.2.2.2.1 a0 n0 hk0 _
      · rw [if_neg hj]; exact h2.2.2.2.1 a1 n1 hk1 _
    · rw [mm_ai hk1 (by decide)]
      show (H.setIfInBounds (q.1 + a1) cellN)[q.1 + a1]? = some (vp_cell _ (n1, .inl _))
      have hrow : mI (bc, bs, xA g a1 (va_cpy (gI g a0) (gI g a1) sp.toNatClampNeg dp.toNatClampNeg n.toNatClampNeg)) a1 = va_cpy (gI g a0) (gI g a1) sp.toNatClampNeg dp.toNatClampNeg n.toNatClampNeg := if_pos rfl
      rw [hrow, hcell]
      simp [hl1]
  obtain ⟨t2, b1, b2⟩ := kk ls _ _ cells slots h1 hW ⟨by rw [hz]; exact h3.1, fun x y1 y2 => by
      rw [oq x (fun e => y2 (by rw [e]; exact Nat.le_add_right _ _))]
      exact h3.2.1 x y1 y2, fun x hx => by
      rcases List.mem_append.mp hx with h | h
      · exact h3.2.2 x h
      · obtain ⟨z, -, hz⟩ := List.mem_map.mp h
        rw [← hz]
        exact Nat.le_add_right _ _⟩ h4 h5 _ hheap X'
  exact ⟨t2, step t2 b1, b2⟩
/-- a call on a constant object -/
theorem v_invVS (X : Cx p s m args c cc nL own q) {idx n b d bc bs : Nat} {M : mt_T} {As st0 : List Value} {Q : Option Value → mm_T → Prop} (hM : Ctr l q M d (.ref b :: As) (bc, bs, u.2.2) Q) (hd : decode cc pc = .ok (.invokevirtual idx, 3)) (hL : Cond.methodLink own idx M.1 ∈ tbG) (hK : MK M n) (hV : MV M) (hO : va_O M.1.cls (ev_ad q b) (fun a => q.1 ≤ a) s s.heap) (hst : st0 = As.reverse ++ .ref b :: st) (hn : As.length = n) (hcat : (st.map fun v => v.category).sum ≤ 8) (hRf : d + 1 ≤ R.frames) (hRl : 48 * (d + 1) ≤ R.locals) (hb1 : bc ≤ u.1) (hb2 : bs ≤ u.2.1)
    (kk : ∀ v w, Q v w → Vv p l e R s m args below meth c nL q Qf (pc + 3) la (v.toList ++ st) (u.1 - bc, u.2.1 - bs, w.2.2)) : Vv p l e R s m args below meth c nL q Qf pc la st0 u := by
  intro ls H locs cells slots h1 h2 h3 h4 h5
  obtain ⟨k1, k2, k3, k4, k5, k6, k7⟩ := hK
  have hrecv : ∃ cell : Cell, H[ev_ad q b]? = some cell ∧ cell.vm.isStatics = false ∧ s.vm.findClass M.1.cls = some cell.cls := by
    obtain ⟨cell, y1, y2, y3, -⟩ := hO.kept h3.2.1
    exact ⟨cell, y1, y2, y3⟩
  have hms : st0.map (ev_v q) = (As.map (ev_v q)).reverse ++ .ref (ev_ad q b) :: st.map (ev_v q) := by
    rw [hst, List.map_append, List.map_reverse, List.map_cons]
    rfl
  have hpre := v_pre X h2 h3 bc bs (.ref b :: As)
  refine v_back (g := F0 m pc ls (st0.map (ev_v q))) rfl (va_runV (As := As.map (ev_v q)) (C := M.1.cls) (nL := nL) ⟨X.1, X.2.1, X.2.2.1, X.2.2.2.1, X.2.2.2.2.1⟩ hM ⟨callB_of n X.2.2.2.2.1 (tbG_in k1) rfl rfl rfl (X.2.2.2.2.1 _ k2) (X.2.2.2.2.1 _ hL) ⟨k5, k6, k7⟩ ⟨hRf, by show 8 + (M.2.2.1 + 11) + 48 * d ≤ _; omega⟩, X.2.2.2.2.1 _ hV.1, X.2.2.2.2.1 _ hV.2⟩ ⟨Bw_blind _ _ _, hrecv, hpre⟩ rfl (by rw [List.length_map]; exact hn) h1.1 hms (lv_room (by rw [cat_map]; exact hcat)) hd ⟨by show cells + bc ≤ _; omega, by show slots + bs ≤ _; omega⟩) h1 h3 h4 h5 hb1 hb2 kk
end VS
end
