section
-- ===== PART A: goes FIRST, ahead of the names: the tables' words, and 'selects' of the private methods out of them =====
/-- a private method of a class that the tables say can be made, by its rows of tables_1 -/
def lw_okq (q : MethodName × Nat) : Prop := (q.1.cls ≠ "java/lang/invoke/MethodHandle" ∧ q.1.cls ≠ "java/lang/invoke/VarHandle") ∧ Cond.instantiable q.1.cls q.2 ∈ tables_1 ∧ Cond.privateMethod q.1 ∈ tables_1 ∧ Cond.instanceMethod q.1 ∈ tables_1
theorem lw_p0 : lw_okq (⟨"RescanMill", "beginAnew", "(I)V"⟩, 10) := ⟨⟨by decide +kernel, by decide +kernel⟩, List.mem_of_getElem? (i := 22) (by decide +kernel), List.mem_of_getElem? (i := 389) (by decide +kernel), List.mem_of_getElem? (i := 390) (by decide +kernel)⟩
theorem lw_p1 : lw_okq (⟨"RescanMill$Meanings", "addOnTop", "(LRescanMill$Bytes;II)LRescanMill$Meaning;"⟩, 6) := ⟨⟨by decide +kernel, by decide +kernel⟩, List.mem_of_getElem? (i := 153) (by decide +kernel), List.mem_of_getElem? (i := 484) (by decide +kernel), List.mem_of_getElem? (i := 485) (by decide +kernel)⟩
theorem lw_p2 : lw_okq (⟨"RescanMill$Cells", "isCell", "(I)Z"⟩, 5) := ⟨⟨by decide +kernel, by decide +kernel⟩, List.mem_of_getElem? (i := 159) (by decide +kernel), List.mem_of_getElem? (i := 499) (by decide +kernel), List.mem_of_getElem? (i := 500) (by decide +kernel)⟩
theorem lw_p3 : lw_okq (⟨"RescanMill$Cells", "hang", "(LRescanMill$Chain;III)V"⟩, 5) := ⟨⟨by decide +kernel, by decide +kernel⟩, List.mem_of_getElem? (i := 159) (by decide +kernel), List.mem_of_getElem? (i := 504) (by decide +kernel), List.mem_of_getElem? (i := 505) (by decide +kernel)⟩
theorem lw_p4 : lw_okq (⟨"RescanMill$Input", "begins", "(LRescanMill$Bytes;)Z"⟩, 12) := ⟨⟨by decide +kernel, by decide +kernel⟩, List.mem_of_getElem? (i := 59) (by decide +kernel), List.mem_of_getElem? (i := 524) (by decide +kernel), List.mem_of_getElem? (i := 525) (by decide +kernel)⟩
theorem lw_p5 : lw_okq (⟨"RescanMill$Input", "readQuoted", "()I"⟩, 12) := ⟨⟨by decide +kernel, by decide +kernel⟩, List.mem_of_getElem? (i := 59) (by decide +kernel), List.mem_of_getElem? (i := 528) (by decide +kernel), List.mem_of_getElem? (i := 529) (by decide +kernel)⟩
theorem lw_p6 : lw_okq (⟨"RescanMill$Input", "takeSome", "(IZ)I"⟩, 12) := ⟨⟨by decide +kernel, by decide +kernel⟩, List.mem_of_getElem? (i := 59) (by decide +kernel), List.mem_of_getElem? (i := 532) (by decide +kernel), List.mem_of_getElem? (i := 533) (by decide +kernel)⟩
theorem lw_p7 : lw_okq (⟨"RescanMill$Input", "readRemark", "()I"⟩, 12) := ⟨⟨by decide +kernel, by decide +kernel⟩, List.mem_of_getElem? (i := 59) (by decide +kernel), List.mem_of_getElem? (i := 544) (by decide +kernel), List.mem_of_getElem? (i := 545) (by decide +kernel)⟩
theorem lw_p8 : lw_okq (⟨"RescanMill$Input", "readName", "()I"⟩, 12) := ⟨⟨by decide +kernel, by decide +kernel⟩, List.mem_of_getElem? (i := 59) (by decide +kernel), List.mem_of_getElem? (i := 551) (by decide +kernel), List.mem_of_getElem? (i := 552) (by decide +kernel)⟩
theorem lw_p9 : lw_okq (⟨"RescanMill", "useToken", "()I"⟩, 10) := ⟨⟨by decide +kernel, by decide +kernel⟩, List.mem_of_getElem? (i := 22) (by decide +kernel), List.mem_of_getElem? (i := 562) (by decide +kernel), List.mem_of_getElem? (i := 563) (by decide +kernel)⟩
theorem lw_p10 : lw_okq (⟨"RescanMill", "isCalled", "()Z"⟩, 10) := ⟨⟨by decide +kernel, by decide +kernel⟩, List.mem_of_getElem? (i := 22) (by decide +kernel), List.mem_of_getElem? (i := 566) (by decide +kernel), List.mem_of_getElem? (i := 567) (by decide +kernel)⟩
theorem lw_p11 : lw_okq (⟨"RescanMill$Meanings", "isNamed", "(LRescanMill$Meaning;LRescanMill$Bytes;II)Z"⟩, 6) := ⟨⟨by decide +kernel, by decide +kernel⟩, List.mem_of_getElem? (i := 153) (by decide +kernel), List.mem_of_getElem? (i := 574) (by decide +kernel), List.mem_of_getElem? (i := 575) (by decide +kernel)⟩
theorem lw_p12 : lw_okq (⟨"RescanMill", "openCall", "()I"⟩, 10) := ⟨⟨by decide +kernel, by decide +kernel⟩, List.mem_of_getElem? (i := 22) (by decide +kernel), List.mem_of_getElem? (i := 587) (by decide +kernel), List.mem_of_getElem? (i := 588) (by decide +kernel)⟩
theorem lw_p13 : lw_okq (⟨"RescanMill$Calls", "hasTop", "()Z"⟩, 9) := ⟨⟨by decide +kernel, by decide +kernel⟩, List.mem_of_getElem? (i := 111) (by decide +kernel), List.mem_of_getElem? (i := 595) (by decide +kernel), List.mem_of_getElem? (i := 596) (by decide +kernel)⟩
theorem lw_p14 : lw_okq (⟨"RescanMill", "useInArgument", "()I"⟩, 10) := ⟨⟨by decide +kernel, by decide +kernel⟩, List.mem_of_getElem? (i := 22) (by decide +kernel), List.mem_of_getElem? (i := 610) (by decide +kernel), List.mem_of_getElem? (i := 611) (by decide +kernel)⟩
theorem lw_p15 : lw_okq (⟨"RescanMill", "finishCall", "()I"⟩, 10) := ⟨⟨by decide +kernel, by decide +kernel⟩, List.mem_of_getElem? (i := 22) (by decide +kernel), List.mem_of_getElem? (i := 639) (by decide +kernel), List.mem_of_getElem? (i := 640) (by decide +kernel)⟩
def lw_privs_1 : List (MethodName × Nat) := [(⟨"RescanMill", "beginAnew", "(I)V"⟩, 10), (⟨"RescanMill$Meanings", "addOnTop", "(LRescanMill$Bytes;II)LRescanMill$Meaning;"⟩, 6), (⟨"RescanMill$Cells", "isCell", "(I)Z"⟩, 5), (⟨"RescanMill$Cells", "hang", "(LRescanMill$Chain;III)V"⟩, 5), (⟨"RescanMill$Input", "begins", "(LRescanMill$Bytes;)Z"⟩, 12), (⟨"RescanMill$Input", "readQuoted", "()I"⟩, 12), (⟨"RescanMill$Input", "takeSome", "(IZ)I"⟩, 12), (⟨"RescanMill$Input", "readRemark", "()I"⟩, 12), (⟨"RescanMill$Input", "readName", "()I"⟩, 12), (⟨"RescanMill", "useToken", "()I"⟩, 10), (⟨"RescanMill", "isCalled", "()Z"⟩, 10), (⟨"RescanMill$Meanings", "isNamed", "(LRescanMill$Meaning;LRescanMill$Bytes;II)Z"⟩, 6), (⟨"RescanMill", "openCall", "()I"⟩, 10), (⟨"RescanMill$Calls", "hasTop", "()Z"⟩, 9), (⟨"RescanMill", "useInArgument", "()I"⟩, 10), (⟨"RescanMill", "finishCall", "()I"⟩, 10)]
theorem lw_r1 : ∀ q ∈ lw_privs_1, lw_okq q := List.forall_mem_cons.mpr ⟨lw_p0, List.forall_mem_cons.mpr ⟨lw_p1, List.forall_mem_cons.mpr ⟨lw_p2, List.forall_mem_cons.mpr ⟨lw_p3, List.forall_mem_cons.mpr ⟨lw_p4, List.forall_mem_cons.mpr ⟨lw_p5, List.forall_mem_cons.mpr ⟨lw_p6, List.forall_mem_cons.mpr ⟨lw_p7, List.forall_mem_cons.mpr ⟨lw_p8, List.forall_mem_cons.mpr ⟨lw_p9, List.forall_mem_cons.mpr ⟨lw_p10, List.forall_mem_cons.mpr ⟨lw_p11, List.forall_mem_cons.mpr ⟨lw_p12, List.forall_mem_cons.mpr ⟨lw_p13, List.forall_mem_cons.mpr ⟨lw_p14, List.forall_mem_cons.mpr ⟨lw_p15, fun _ h => absurd h List.not_mem_nil⟩⟩⟩⟩⟩⟩⟩⟩⟩⟩⟩⟩⟩⟩⟩⟩
theorem lw_p16 : lw_okq (⟨"RescanMill", "expand", "(LRescanMill$Chain;)V"⟩, 10) := ⟨⟨by decide +kernel, by decide +kernel⟩, List.mem_of_getElem? (i := 22) (by decide +kernel), List.mem_of_getElem? (i := 656) (by decide +kernel), List.mem_of_getElem? (i := 657) (by decide +kernel)⟩
theorem lw_p17 : lw_okq (⟨"RescanMill", "addMarked", "(I)Z"⟩, 10) := ⟨⟨by decide +kernel, by decide +kernel⟩, List.mem_of_getElem? (i := 22) (by decide +kernel), List.mem_of_getElem? (i := 662) (by decide +kernel), List.mem_of_getElem? (i := 663) (by decide +kernel)⟩
theorem lw_p18 : lw_okq (⟨"RescanMill", "addArgument", "(I)V"⟩, 10) := ⟨⟨by decide +kernel, by decide +kernel⟩, List.mem_of_getElem? (i := 22) (by decide +kernel), List.mem_of_getElem? (i := 666) (by decide +kernel), List.mem_of_getElem? (i := 667) (by decide +kernel)⟩
theorem lw_p19 : lw_okq (⟨"RescanMill", "addArguments", "(IZ)V"⟩, 10) := ⟨⟨by decide +kernel, by decide +kernel⟩, List.mem_of_getElem? (i := 22) (by decide +kernel), List.mem_of_getElem? (i := 684) (by decide +kernel), List.mem_of_getElem? (i := 685) (by decide +kernel)⟩
theorem lw_p20 : lw_okq (⟨"RescanMill", "useBuiltIn", "(LRescanMill$BuiltIn;)I"⟩, 10) := ⟨⟨by decide +kernel, by decide +kernel⟩, List.mem_of_getElem? (i := 22) (by decide +kernel), List.mem_of_getElem? (i := 688) (by decide +kernel), List.mem_of_getElem? (i := 689) (by decide +kernel)⟩
theorem lw_p21 : lw_okq (⟨"RescanMill", "define", "(Z)I"⟩, 10) := ⟨⟨by decide +kernel, by decide +kernel⟩, List.mem_of_getElem? (i := 22) (by decide +kernel), List.mem_of_getElem? (i := 700) (by decide +kernel), List.mem_of_getElem? (i := 701) (by decide +kernel)⟩
theorem lw_p22 : lw_okq (⟨"RescanMill", "isName", "(II)Z"⟩, 10) := ⟨⟨by decide +kernel, by decide +kernel⟩, List.mem_of_getElem? (i := 22) (by decide +kernel), List.mem_of_getElem? (i := 704) (by decide +kernel), List.mem_of_getElem? (i := 705) (by decide +kernel)⟩
theorem lw_p23 : lw_okq (⟨"RescanMill", "takeMeanings", "(Z)I"⟩, 10) := ⟨⟨by decide +kernel, by decide +kernel⟩, List.mem_of_getElem? (i := 22) (by decide +kernel), List.mem_of_getElem? (i := 721) (by decide +kernel), List.mem_of_getElem? (i := 722) (by decide +kernel)⟩
theorem lw_p24 : lw_okq (⟨"RescanMill$Meanings", "release", "(LRescanMill$Meaning;)V"⟩, 6) := ⟨⟨by decide +kernel, by decide +kernel⟩, List.mem_of_getElem? (i := 153) (by decide +kernel), List.mem_of_getElem? (i := 729) (by decide +kernel), List.mem_of_getElem? (i := 730) (by decide +kernel)⟩
theorem lw_p25 : lw_okq (⟨"RescanMill", "chooseByMacro", "()I"⟩, 10) := ⟨⟨by decide +kernel, by decide +kernel⟩, List.mem_of_getElem? (i := 22) (by decide +kernel), List.mem_of_getElem? (i := 733) (by decide +kernel), List.mem_of_getElem? (i := 734) (by decide +kernel)⟩
theorem lw_p26 : lw_okq (⟨"RescanMill", "chooseBySameness", "()I"⟩, 10) := ⟨⟨by decide +kernel, by decide +kernel⟩, List.mem_of_getElem? (i := 22) (by decide +kernel), List.mem_of_getElem? (i := 737) (by decide +kernel), List.mem_of_getElem? (i := 738) (by decide +kernel)⟩
theorem lw_p27 : lw_okq (⟨"RescanMill", "areSame", "(II)Z"⟩, 10) := ⟨⟨by decide +kernel, by decide +kernel⟩, List.mem_of_getElem? (i := 22) (by decide +kernel), List.mem_of_getElem? (i := 741) (by decide +kernel), List.mem_of_getElem? (i := 742) (by decide +kernel)⟩
theorem lw_p28 : lw_okq (⟨"RescanMill$Expression", "begin", "(LRescanMill$Bytes;II)V"⟩, 10) := ⟨⟨by decide +kernel, by decide +kernel⟩, List.mem_of_getElem? (i := 281) (by decide +kernel), List.mem_of_getElem? (i := 749) (by decide +kernel), List.mem_of_getElem? (i := 750) (by decide +kernel)⟩
theorem lw_p29 : lw_okq (⟨"RescanMill$Expression", "takeNumber", "()Z"⟩, 10) := ⟨⟨by decide +kernel, by decide +kernel⟩, List.mem_of_getElem? (i := 281) (by decide +kernel), List.mem_of_getElem? (i := 756) (by decide +kernel), List.mem_of_getElem? (i := 757) (by decide +kernel)⟩
theorem lw_p30 : lw_okq (⟨"RescanMill$Expression", "reckon", "(I)V"⟩, 10) := ⟨⟨by decide +kernel, by decide +kernel⟩, List.mem_of_getElem? (i := 281) (by decide +kernel), List.mem_of_getElem? (i := 760) (by decide +kernel), List.mem_of_getElem? (i := 761) (by decide +kernel)⟩
theorem lw_p31 : lw_okq (⟨"RescanMill$Expression", "ofTwo", "(LRescanMill$Operator;II)I"⟩, 10) := ⟨⟨by decide +kernel, by decide +kernel⟩, List.mem_of_getElem? (i := 281) (by decide +kernel), List.mem_of_getElem? (i := 776) (by decide +kernel), List.mem_of_getElem? (i := 777) (by decide +kernel)⟩
def lw_privs_2 : List (MethodName × Nat) := [(⟨"RescanMill", "expand", "(LRescanMill$Chain;)V"⟩, 10), (⟨"RescanMill", "addMarked", "(I)Z"⟩, 10), (⟨"RescanMill", "addArgument", "(I)V"⟩, 10), (⟨"RescanMill", "addArguments", "(IZ)V"⟩, 10), (⟨"RescanMill", "useBuiltIn", "(LRescanMill$BuiltIn;)I"⟩, 10), (⟨"RescanMill", "define", "(Z)I"⟩, 10), (⟨"RescanMill", "isName", "(II)Z"⟩, 10), (⟨"RescanMill", "takeMeanings", "(Z)I"⟩, 10), (⟨"RescanMill$Meanings", "release", "(LRescanMill$Meaning;)V"⟩, 6), (⟨"RescanMill", "chooseByMacro", "()I"⟩, 10), (⟨"RescanMill", "chooseBySameness", "()I"⟩, 10), (⟨"RescanMill", "areSame", "(II)Z"⟩, 10), (⟨"RescanMill$Expression", "begin", "(LRescanMill$Bytes;II)V"⟩, 10), (⟨"RescanMill$Expression", "takeNumber", "()Z"⟩, 10), (⟨"RescanMill$Expression", "reckon", "(I)V"⟩, 10), (⟨"RescanMill$Expression", "ofTwo", "(LRescanMill$Operator;II)I"⟩, 10)]
theorem lw_r2 : ∀ q ∈ lw_privs_2, lw_okq q := List.forall_mem_cons.mpr ⟨lw_p16, List.forall_mem_cons.mpr ⟨lw_p17, List.forall_mem_cons.mpr ⟨lw_p18, List.forall_mem_cons.mpr ⟨lw_p19, List.forall_mem_cons.mpr ⟨lw_p20, List.forall_mem_cons.mpr ⟨lw_p21, List.forall_mem_cons.mpr ⟨lw_p22, List.forall_mem_cons.mpr ⟨lw_p23, List.forall_mem_cons.mpr ⟨lw_p24, List.forall_mem_cons.mpr ⟨lw_p25, List.forall_mem_cons.mpr ⟨lw_p26, List.forall_mem_cons.mpr ⟨lw_p27, List.forall_mem_cons.mpr ⟨lw_p28, List.forall_mem_cons.mpr ⟨lw_p29, List.forall_mem_cons.mpr ⟨lw_p30, List.forall_mem_cons.mpr ⟨lw_p31, fun _ h => absurd h List.not_mem_nil⟩⟩⟩⟩⟩⟩⟩⟩⟩⟩⟩⟩⟩⟩⟩⟩
theorem lw_p32 : lw_okq (⟨"RescanMill$Expression", "takeInFront", "(I)Z"⟩, 10) := ⟨⟨by decide +kernel, by decide +kernel⟩, List.mem_of_getElem? (i := 281) (by decide +kernel), List.mem_of_getElem? (i := 780) (by decide +kernel), List.mem_of_getElem? (i := 781) (by decide +kernel)⟩
theorem lw_p33 : lw_okq (⟨"RescanMill$Expression", "inFront", "(I)LRescanMill$Operator;"⟩, 10) := ⟨⟨by decide +kernel, by decide +kernel⟩, List.mem_of_getElem? (i := 281) (by decide +kernel), List.mem_of_getElem? (i := 784) (by decide +kernel), List.mem_of_getElem? (i := 785) (by decide +kernel)⟩
theorem lw_p34 : lw_okq (⟨"RescanMill$Expression", "await", "(LRescanMill$Operator;)Z"⟩, 10) := ⟨⟨by decide +kernel, by decide +kernel⟩, List.mem_of_getElem? (i := 281) (by decide +kernel), List.mem_of_getElem? (i := 798) (by decide +kernel), List.mem_of_getElem? (i := 799) (by decide +kernel)⟩
theorem lw_p35 : lw_okq (⟨"RescanMill$Expression", "takeClosing", "()Z"⟩, 10) := ⟨⟨by decide +kernel, by decide +kernel⟩, List.mem_of_getElem? (i := 281) (by decide +kernel), List.mem_of_getElem? (i := 802) (by decide +kernel), List.mem_of_getElem? (i := 803) (by decide +kernel)⟩
theorem lw_p36 : lw_okq (⟨"RescanMill$Expression", "takeBetween", "()Z"⟩, 10) := ⟨⟨by decide +kernel, by decide +kernel⟩, List.mem_of_getElem? (i := 281) (by decide +kernel), List.mem_of_getElem? (i := 806) (by decide +kernel), List.mem_of_getElem? (i := 807) (by decide +kernel)⟩
theorem lw_p37 : lw_okq (⟨"RescanMill$Expression", "between", "()LRescanMill$Operator;"⟩, 10) := ⟨⟨by decide +kernel, by decide +kernel⟩, List.mem_of_getElem? (i := 281) (by decide +kernel), List.mem_of_getElem? (i := 810) (by decide +kernel), List.mem_of_getElem? (i := 811) (by decide +kernel)⟩
theorem lw_p38 : lw_okq (⟨"RescanMill$Expression", "isNext", "(Ljava/lang/String;)Z"⟩, 10) := ⟨⟨by decide +kernel, by decide +kernel⟩, List.mem_of_getElem? (i := 281) (by decide +kernel), List.mem_of_getElem? (i := 816) (by decide +kernel), List.mem_of_getElem? (i := 817) (by decide +kernel)⟩
theorem lw_p39 : lw_okq (⟨"RescanMill", "addTo", "(I)I"⟩, 10) := ⟨⟨by decide +kernel, by decide +kernel⟩, List.mem_of_getElem? (i := 22) (by decide +kernel), List.mem_of_getElem? (i := 823) (by decide +kernel), List.mem_of_getElem? (i := 824) (by decide +kernel)⟩
theorem lw_p40 : lw_okq (⟨"RescanMill", "number", "(I)I"⟩, 10) := ⟨⟨by decide +kernel, by decide +kernel⟩, List.mem_of_getElem? (i := 22) (by decide +kernel), List.mem_of_getElem? (i := 827) (by decide +kernel), List.mem_of_getElem? (i := 828) (by decide +kernel)⟩
theorem lw_p41 : lw_okq (⟨"RescanMill", "findPlace", "(IIII)I"⟩, 10) := ⟨⟨by decide +kernel, by decide +kernel⟩, List.mem_of_getElem? (i := 22) (by decide +kernel), List.mem_of_getElem? (i := 832) (by decide +kernel), List.mem_of_getElem? (i := 833) (by decide +kernel)⟩
theorem lw_p42 : lw_okq (⟨"RescanMill", "fillFallBack", "(II)V"⟩, 10) := ⟨⟨by decide +kernel, by decide +kernel⟩, List.mem_of_getElem? (i := 22) (by decide +kernel), List.mem_of_getElem? (i := 836) (by decide +kernel), List.mem_of_getElem? (i := 837) (by decide +kernel)⟩
theorem lw_p43 : lw_okq (⟨"RescanMill", "extend", "(III)I"⟩, 10) := ⟨⟨by decide +kernel, by decide +kernel⟩, List.mem_of_getElem? (i := 22) (by decide +kernel), List.mem_of_getElem? (i := 840) (by decide +kernel), List.mem_of_getElem? (i := 841) (by decide +kernel)⟩
theorem lw_p44 : lw_okq (⟨"RescanMill", "cutOut", "()I"⟩, 10) := ⟨⟨by decide +kernel, by decide +kernel⟩, List.mem_of_getElem? (i := 22) (by decide +kernel), List.mem_of_getElem? (i := 847) (by decide +kernel), List.mem_of_getElem? (i := 848) (by decide +kernel)⟩
theorem lw_p45 : lw_okq (⟨"RescanMill", "divert", "()I"⟩, 10) := ⟨⟨by decide +kernel, by decide +kernel⟩, List.mem_of_getElem? (i := 22) (by decide +kernel), List.mem_of_getElem? (i := 855) (by decide +kernel), List.mem_of_getElem? (i := 856) (by decide +kernel)⟩
theorem lw_p46 : lw_okq (⟨"RescanMill", "undivert", "()I"⟩, 10) := ⟨⟨by decide +kernel, by decide +kernel⟩, List.mem_of_getElem? (i := 22) (by decide +kernel), List.mem_of_getElem? (i := 859) (by decide +kernel), List.mem_of_getElem? (i := 860) (by decide +kernel)⟩
theorem lw_p47 : lw_okq (⟨"RescanMill", "changeQuotes", "()I"⟩, 10) := ⟨⟨by decide +kernel, by decide +kernel⟩, List.mem_of_getElem? (i := 22) (by decide +kernel), List.mem_of_getElem? (i := 872) (by decide +kernel), List.mem_of_getElem? (i := 873) (by decide +kernel)⟩
def lw_privs_3 : List (MethodName × Nat) := [(⟨"RescanMill$Expression", "takeInFront", "(I)Z"⟩, 10), (⟨"RescanMill$Expression", "inFront", "(I)LRescanMill$Operator;"⟩, 10), (⟨"RescanMill$Expression", "await", "(LRescanMill$Operator;)Z"⟩, 10), (⟨"RescanMill$Expression", "takeClosing", "()Z"⟩, 10), (⟨"RescanMill$Expression", "takeBetween", "()Z"⟩, 10), (⟨"RescanMill$Expression", "between", "()LRescanMill$Operator;"⟩, 10), (⟨"RescanMill$Expression", "isNext", "(Ljava/lang/String;)Z"⟩, 10), (⟨"RescanMill", "addTo", "(I)I"⟩, 10), (⟨"RescanMill", "number", "(I)I"⟩, 10), (⟨"RescanMill", "findPlace", "(IIII)I"⟩, 10), (⟨"RescanMill", "fillFallBack", "(II)V"⟩, 10), (⟨"RescanMill", "extend", "(III)I"⟩, 10), (⟨"RescanMill", "cutOut", "()I"⟩, 10), (⟨"RescanMill", "divert", "()I"⟩, 10), (⟨"RescanMill", "undivert", "()I"⟩, 10), (⟨"RescanMill", "changeQuotes", "()I"⟩, 10)]
theorem lw_r3 : ∀ q ∈ lw_privs_3, lw_okq q := List.forall_mem_cons.mpr ⟨lw_p32, List.forall_mem_cons.mpr ⟨lw_p33, List.forall_mem_cons.mpr ⟨lw_p34, List.forall_mem_cons.mpr ⟨lw_p35, List.forall_mem_cons.mpr ⟨lw_p36, List.forall_mem_cons.mpr ⟨lw_p37, List.forall_mem_cons.mpr ⟨lw_p38, List.forall_mem_cons.mpr ⟨lw_p39, List.forall_mem_cons.mpr ⟨lw_p40, List.forall_mem_cons.mpr ⟨lw_p41, List.forall_mem_cons.mpr ⟨lw_p42, List.forall_mem_cons.mpr ⟨lw_p43, List.forall_mem_cons.mpr ⟨lw_p44, List.forall_mem_cons.mpr ⟨lw_p45, List.forall_mem_cons.mpr ⟨lw_p46, List.forall_mem_cons.mpr ⟨lw_p47, fun _ h => absurd h List.not_mem_nil⟩⟩⟩⟩⟩⟩⟩⟩⟩⟩⟩⟩⟩⟩⟩⟩
theorem lw_p48 : lw_okq (⟨"RescanMill", "isQuote", "(II)Z"⟩, 10) := ⟨⟨by decide +kernel, by decide +kernel⟩, List.mem_of_getElem? (i := 22) (by decide +kernel), List.mem_of_getElem? (i := 877) (by decide +kernel), List.mem_of_getElem? (i := 878) (by decide +kernel)⟩
theorem lw_p49 : lw_okq (⟨"RescanMill", "finish", "(I)V"⟩, 10) := ⟨⟨by decide +kernel, by decide +kernel⟩, List.mem_of_getElem? (i := 22) (by decide +kernel), List.mem_of_getElem? (i := 890) (by decide +kernel), List.mem_of_getElem? (i := 891) (by decide +kernel)⟩
theorem lw_p50 : lw_okq (⟨"RescanMillModel", "beginMeanings", "()V"⟩, 47) := ⟨⟨by decide +kernel, by decide +kernel⟩, List.mem_of_getElem? (i := 914) (by decide +kernel), List.mem_of_getElem? (i := 1082) (by decide +kernel), List.mem_of_getElem? (i := 1083) (by decide +kernel)⟩
theorem lw_p51 : lw_okq (⟨"RescanMillModel", "readToken", "()V"⟩, 47) := ⟨⟨by decide +kernel, by decide +kernel⟩, List.mem_of_getElem? (i := 914) (by decide +kernel), List.mem_of_getElem? (i := 1108) (by decide +kernel), List.mem_of_getElem? (i := 1109) (by decide +kernel)⟩
theorem lw_p52 : lw_okq (⟨"RescanMillModel", "peek", "(I)I"⟩, 47) := ⟨⟨by decide +kernel, by decide +kernel⟩, List.mem_of_getElem? (i := 914) (by decide +kernel), List.mem_of_getElem? (i := 1112) (by decide +kernel), List.mem_of_getElem? (i := 1113) (by decide +kernel)⟩
theorem lw_p53 : lw_okq (⟨"RescanMillModel", "isAhead", "([II)Z"⟩, 47) := ⟨⟨by decide +kernel, by decide +kernel⟩, List.mem_of_getElem? (i := 914) (by decide +kernel), List.mem_of_getElem? (i := 1116) (by decide +kernel), List.mem_of_getElem? (i := 1117) (by decide +kernel)⟩
theorem lw_p54 : lw_okq (⟨"RescanMillModel", "readQuoted", "()V"⟩, 47) := ⟨⟨by decide +kernel, by decide +kernel⟩, List.mem_of_getElem? (i := 914) (by decide +kernel), List.mem_of_getElem? (i := 1120) (by decide +kernel), List.mem_of_getElem? (i := 1121) (by decide +kernel)⟩
theorem lw_p55 : lw_okq (⟨"RescanMillModel", "pass", "(IZ)V"⟩, 47) := ⟨⟨by decide +kernel, by decide +kernel⟩, List.mem_of_getElem? (i := 914) (by decide +kernel), List.mem_of_getElem? (i := 1124) (by decide +kernel), List.mem_of_getElem? (i := 1125) (by decide +kernel)⟩
theorem lw_p56 : lw_okq (⟨"RescanMillModel", "take", "()I"⟩, 47) := ⟨⟨by decide +kernel, by decide +kernel⟩, List.mem_of_getElem? (i := 914) (by decide +kernel), List.mem_of_getElem? (i := 1128) (by decide +kernel), List.mem_of_getElem? (i := 1129) (by decide +kernel)⟩
theorem lw_p57 : lw_okq (⟨"RescanMillModel", "fail1", "(I)V"⟩, 47) := ⟨⟨by decide +kernel, by decide +kernel⟩, List.mem_of_getElem? (i := 914) (by decide +kernel), List.mem_of_getElem? (i := 1132) (by decide +kernel), List.mem_of_getElem? (i := 1133) (by decide +kernel)⟩
theorem lw_p58 : lw_okq (⟨"RescanMillModel", "fail", "(II)V"⟩, 47) := ⟨⟨by decide +kernel, by decide +kernel⟩, List.mem_of_getElem? (i := 914) (by decide +kernel), List.mem_of_getElem? (i := 1136) (by decide +kernel), List.mem_of_getElem? (i := 1137) (by decide +kernel)⟩
theorem lw_p59 : lw_okq (⟨"RescanMillModel", "handle", "(Z)V"⟩, 47) := ⟨⟨by decide +kernel, by decide +kernel⟩, List.mem_of_getElem? (i := 914) (by decide +kernel), List.mem_of_getElem? (i := 1146) (by decide +kernel), List.mem_of_getElem? (i := 1147) (by decide +kernel)⟩
theorem lw_p60 : lw_okq (⟨"RescanMillModel", "top", "([BII)I"⟩, 47) := ⟨⟨by decide +kernel, by decide +kernel⟩, List.mem_of_getElem? (i := 914) (by decide +kernel), List.mem_of_getElem? (i := 1150) (by decide +kernel), List.mem_of_getElem? (i := 1151) (by decide +kernel)⟩
theorem lw_p61 : lw_okq (⟨"RescanMillModel", "isNamed", "(I[BII)Z"⟩, 47) := ⟨⟨by decide +kernel, by decide +kernel⟩, List.mem_of_getElem? (i := 914) (by decide +kernel), List.mem_of_getElem? (i := 1154) (by decide +kernel), List.mem_of_getElem? (i := 1155) (by decide +kernel)⟩
theorem lw_p62 : lw_okq (⟨"RescanMillModel", "putToken", "(Z)V"⟩, 47) := ⟨⟨by decide +kernel, by decide +kernel⟩, List.mem_of_getElem? (i := 914) (by decide +kernel), List.mem_of_getElem? (i := 1158) (by decide +kernel), List.mem_of_getElem? (i := 1159) (by decide +kernel)⟩
theorem lw_p63 : lw_okq (⟨"RescanMillModel", "putArgument", "(I)V"⟩, 47) := ⟨⟨by decide +kernel, by decide +kernel⟩, List.mem_of_getElem? (i := 914) (by decide +kernel), List.mem_of_getElem? (i := 1162) (by decide +kernel), List.mem_of_getElem? (i := 1163) (by decide +kernel)⟩
def lw_privs_4 : List (MethodName × Nat) := [(⟨"RescanMill", "isQuote", "(II)Z"⟩, 10), (⟨"RescanMill", "finish", "(I)V"⟩, 10), (⟨"RescanMillModel", "beginMeanings", "()V"⟩, 47), (⟨"RescanMillModel", "readToken", "()V"⟩, 47), (⟨"RescanMillModel", "peek", "(I)I"⟩, 47), (⟨"RescanMillModel", "isAhead", "([II)Z"⟩, 47), (⟨"RescanMillModel", "readQuoted", "()V"⟩, 47), (⟨"RescanMillModel", "pass", "(IZ)V"⟩, 47), (⟨"RescanMillModel", "take", "()I"⟩, 47), (⟨"RescanMillModel", "fail1", "(I)V"⟩, 47), (⟨"RescanMillModel", "fail", "(II)V"⟩, 47), (⟨"RescanMillModel", "handle", "(Z)V"⟩, 47), (⟨"RescanMillModel", "top", "([BII)I"⟩, 47), (⟨"RescanMillModel", "isNamed", "(I[BII)Z"⟩, 47), (⟨"RescanMillModel", "putToken", "(Z)V"⟩, 47), (⟨"RescanMillModel", "putArgument", "(I)V"⟩, 47)]
theorem lw_r4 : ∀ q ∈ lw_privs_4, lw_okq q := List.forall_mem_cons.mpr ⟨lw_p48, List.forall_mem_cons.mpr ⟨lw_p49, List.forall_mem_cons.mpr ⟨lw_p50, List.forall_mem_cons.mpr ⟨lw_p51, List.forall_mem_cons.mpr ⟨lw_p52, List.forall_mem_cons.mpr ⟨lw_p53, List.forall_mem_cons.mpr ⟨lw_p54, List.forall_mem_cons.mpr ⟨lw_p55, List.forall_mem_cons.mpr ⟨lw_p56, List.forall_mem_cons.mpr ⟨lw_p57, List.forall_mem_cons.mpr ⟨lw_p58, List.forall_mem_cons.mpr ⟨lw_p59, List.forall_mem_cons.mpr ⟨lw_p60, List.forall_mem_cons.mpr ⟨lw_p61, List.forall_mem_cons.mpr ⟨lw_p62, List.forall_mem_cons.mpr ⟨lw_p63, fun _ h => absurd h List.not_mem_nil⟩⟩⟩⟩⟩⟩⟩⟩⟩⟩⟩⟩⟩⟩⟩⟩
theorem lw_p64 : lw_okq (⟨"RescanMillModel", "divertByte", "(II)V"⟩, 47) := ⟨⟨by decide +kernel, by decide +kernel⟩, List.mem_of_getElem? (i := 914) (by decide +kernel), List.mem_of_getElem? (i := 1166) (by decide +kernel), List.mem_of_getElem? (i := 1167) (by decide +kernel)⟩
theorem lw_p65 : lw_okq (⟨"RescanMillModel", "readArguments", "()V"⟩, 47) := ⟨⟨by decide +kernel, by decide +kernel⟩, List.mem_of_getElem? (i := 914) (by decide +kernel), List.mem_of_getElem? (i := 1170) (by decide +kernel), List.mem_of_getElem? (i := 1171) (by decide +kernel)⟩
theorem lw_p66 : lw_okq (⟨"RescanMillModel", "beginArgument", "()V"⟩, 47) := ⟨⟨by decide +kernel, by decide +kernel⟩, List.mem_of_getElem? (i := 914) (by decide +kernel), List.mem_of_getElem? (i := 1174) (by decide +kernel), List.mem_of_getElem? (i := 1175) (by decide +kernel)⟩
theorem lw_p67 : lw_okq (⟨"RescanMillModel", "act", "(IIII)V"⟩, 47) := ⟨⟨by decide +kernel, by decide +kernel⟩, List.mem_of_getElem? (i := 914) (by decide +kernel), List.mem_of_getElem? (i := 1181) (by decide +kernel), List.mem_of_getElem? (i := 1182) (by decide +kernel)⟩
theorem lw_p68 : lw_okq (⟨"RescanMillModel", "giveText", "(IIII)V"⟩, 47) := ⟨⟨by decide +kernel, by decide +kernel⟩, List.mem_of_getElem? (i := 914) (by decide +kernel), List.mem_of_getElem? (i := 1185) (by decide +kernel), List.mem_of_getElem? (i := 1186) (by decide +kernel)⟩
theorem lw_p69 : lw_okq (⟨"RescanMillModel", "give", "(I)V"⟩, 47) := ⟨⟨by decide +kernel, by decide +kernel⟩, List.mem_of_getElem? (i := 914) (by decide +kernel), List.mem_of_getElem? (i := 1189) (by decide +kernel), List.mem_of_getElem? (i := 1190) (by decide +kernel)⟩
theorem lw_p70 : lw_okq (⟨"RescanMillModel", "inputLeft", "()I"⟩, 47) := ⟨⟨by decide +kernel, by decide +kernel⟩, List.mem_of_getElem? (i := 914) (by decide +kernel), List.mem_of_getElem? (i := 1193) (by decide +kernel), List.mem_of_getElem? (i := 1194) (by decide +kernel)⟩
theorem lw_p71 : lw_okq (⟨"RescanMillModel", "giveArgument", "(II)V"⟩, 47) := ⟨⟨by decide +kernel, by decide +kernel⟩, List.mem_of_getElem? (i := 914) (by decide +kernel), List.mem_of_getElem? (i := 1197) (by decide +kernel), List.mem_of_getElem? (i := 1198) (by decide +kernel)⟩
theorem lw_p72 : lw_okq (⟨"RescanMillModel", "argumentAt", "(II)I"⟩, 47) := ⟨⟨by decide +kernel, by decide +kernel⟩, List.mem_of_getElem? (i := 914) (by decide +kernel), List.mem_of_getElem? (i := 1201) (by decide +kernel), List.mem_of_getElem? (i := 1202) (by decide +kernel)⟩
theorem lw_p73 : lw_okq (⟨"RescanMillModel", "argumentSize", "(II)I"⟩, 47) := ⟨⟨by decide +kernel, by decide +kernel⟩, List.mem_of_getElem? (i := 914) (by decide +kernel), List.mem_of_getElem? (i := 1205) (by decide +kernel), List.mem_of_getElem? (i := 1206) (by decide +kernel)⟩
theorem lw_p74 : lw_okq (⟨"RescanMillModel", "giveNumber", "(J)V"⟩, 47) := ⟨⟨by decide +kernel, by decide +kernel⟩, List.mem_of_getElem? (i := 914) (by decide +kernel), List.mem_of_getElem? (i := 1209) (by decide +kernel), List.mem_of_getElem? (i := 1210) (by decide +kernel)⟩
theorem lw_p75 : lw_okq (⟨"RescanMillModel", "giveQuotedArgument", "(II)V"⟩, 47) := ⟨⟨by decide +kernel, by decide +kernel⟩, List.mem_of_getElem? (i := 914) (by decide +kernel), List.mem_of_getElem? (i := 1216) (by decide +kernel), List.mem_of_getElem? (i := 1217) (by decide +kernel)⟩
theorem lw_p76 : lw_okq (⟨"RescanMillModel", "define", "(IZ)V"⟩, 47) := ⟨⟨by decide +kernel, by decide +kernel⟩, List.mem_of_getElem? (i := 914) (by decide +kernel), List.mem_of_getElem? (i := 1220) (by decide +kernel), List.mem_of_getElem? (i := 1221) (by decide +kernel)⟩
theorem lw_p77 : lw_okq (⟨"RescanMillModel", "isNameArgument", "(I)Z"⟩, 47) := ⟨⟨by decide +kernel, by decide +kernel⟩, List.mem_of_getElem? (i := 914) (by decide +kernel), List.mem_of_getElem? (i := 1224) (by decide +kernel), List.mem_of_getElem? (i := 1225) (by decide +kernel)⟩
theorem lw_p78 : lw_okq (⟨"RescanMillModel", "forget", "(I)V"⟩, 47) := ⟨⟨by decide +kernel, by decide +kernel⟩, List.mem_of_getElem? (i := 914) (by decide +kernel), List.mem_of_getElem? (i := 1228) (by decide +kernel), List.mem_of_getElem? (i := 1229) (by decide +kernel)⟩
theorem lw_p79 : lw_okq (⟨"RescanMillModel", "addMeaning", "(IIII)V"⟩, 47) := ⟨⟨by decide +kernel, by decide +kernel⟩, List.mem_of_getElem? (i := 914) (by decide +kernel), List.mem_of_getElem? (i := 1232) (by decide +kernel), List.mem_of_getElem? (i := 1233) (by decide +kernel)⟩
def lw_privs_5 : List (MethodName × Nat) := [(⟨"RescanMillModel", "divertByte", "(II)V"⟩, 47), (⟨"RescanMillModel", "readArguments", "()V"⟩, 47), (⟨"RescanMillModel", "beginArgument", "()V"⟩, 47), (⟨"RescanMillModel", "act", "(IIII)V"⟩, 47), (⟨"RescanMillModel", "giveText", "(IIII)V"⟩, 47), (⟨"RescanMillModel", "give", "(I)V"⟩, 47), (⟨"RescanMillModel", "inputLeft", "()I"⟩, 47), (⟨"RescanMillModel", "giveArgument", "(II)V"⟩, 47), (⟨"RescanMillModel", "argumentAt", "(II)I"⟩, 47), (⟨"RescanMillModel", "argumentSize", "(II)I"⟩, 47), (⟨"RescanMillModel", "giveNumber", "(J)V"⟩, 47), (⟨"RescanMillModel", "giveQuotedArgument", "(II)V"⟩, 47), (⟨"RescanMillModel", "define", "(IZ)V"⟩, 47), (⟨"RescanMillModel", "isNameArgument", "(I)Z"⟩, 47), (⟨"RescanMillModel", "forget", "(I)V"⟩, 47), (⟨"RescanMillModel", "addMeaning", "(IIII)V"⟩, 47)]
theorem lw_r5 : ∀ q ∈ lw_privs_5, lw_okq q := List.forall_mem_cons.mpr ⟨lw_p64, List.forall_mem_cons.mpr ⟨lw_p65, List.forall_mem_cons.mpr ⟨lw_p66, List.forall_mem_cons.mpr ⟨lw_p67, List.forall_mem_cons.mpr ⟨lw_p68, List.forall_mem_cons.mpr ⟨lw_p69, List.forall_mem_cons.mpr ⟨lw_p70, List.forall_mem_cons.mpr ⟨lw_p71, List.forall_mem_cons.mpr ⟨lw_p72, List.forall_mem_cons.mpr ⟨lw_p73, List.forall_mem_cons.mpr ⟨lw_p74, List.forall_mem_cons.mpr ⟨lw_p75, List.forall_mem_cons.mpr ⟨lw_p76, List.forall_mem_cons.mpr ⟨lw_p77, List.forall_mem_cons.mpr ⟨lw_p78, List.forall_mem_cons.mpr ⟨lw_p79, fun _ h => absurd h List.not_mem_nil⟩⟩⟩⟩⟩⟩⟩⟩⟩⟩⟩⟩⟩⟩⟩⟩
theorem lw_p80 : lw_okq (⟨"RescanMillModel", "choose", "(II)V"⟩, 47) := ⟨⟨by decide +kernel, by decide +kernel⟩, List.mem_of_getElem? (i := 914) (by decide +kernel), List.mem_of_getElem? (i := 1236) (by decide +kernel), List.mem_of_getElem? (i := 1237) (by decide +kernel)⟩
theorem lw_p81 : lw_okq (⟨"RescanMillModel", "same", "(III)Z"⟩, 47) := ⟨⟨by decide +kernel, by decide +kernel⟩, List.mem_of_getElem? (i := 914) (by decide +kernel), List.mem_of_getElem? (i := 1240) (by decide +kernel), List.mem_of_getElem? (i := 1241) (by decide +kernel)⟩
theorem lw_p82 : lw_okq (⟨"RescanMillModel", "evaluate", "(I)V"⟩, 47) := ⟨⟨by decide +kernel, by decide +kernel⟩, List.mem_of_getElem? (i := 914) (by decide +kernel), List.mem_of_getElem? (i := 1244) (by decide +kernel), List.mem_of_getElem? (i := 1245) (by decide +kernel)⟩
theorem lw_p83 : lw_okq (⟨"RescanMillModel", "operands", "()I"⟩, 47) := ⟨⟨by decide +kernel, by decide +kernel⟩, List.mem_of_getElem? (i := 914) (by decide +kernel), List.mem_of_getElem? (i := 1248) (by decide +kernel), List.mem_of_getElem? (i := 1249) (by decide +kernel)⟩
theorem lw_p84 : lw_okq (⟨"RescanMillModel", "unary", "()I"⟩, 47) := ⟨⟨by decide +kernel, by decide +kernel⟩, List.mem_of_getElem? (i := 914) (by decide +kernel), List.mem_of_getElem? (i := 1252) (by decide +kernel), List.mem_of_getElem? (i := 1253) (by decide +kernel)⟩
theorem lw_p85 : lw_okq (⟨"RescanMillModel", "skipBlanks", "()V"⟩, 47) := ⟨⟨by decide +kernel, by decide +kernel⟩, List.mem_of_getElem? (i := 914) (by decide +kernel), List.mem_of_getElem? (i := 1256) (by decide +kernel), List.mem_of_getElem? (i := 1257) (by decide +kernel)⟩
theorem lw_p86 : lw_okq (⟨"RescanMillModel", "sign", "(I)I"⟩, 47) := ⟨⟨by decide +kernel, by decide +kernel⟩, List.mem_of_getElem? (i := 914) (by decide +kernel), List.mem_of_getElem? (i := 1260) (by decide +kernel), List.mem_of_getElem? (i := 1261) (by decide +kernel)⟩
theorem lw_p87 : lw_okq (⟨"RescanMillModel", "numeral", "()I"⟩, 47) := ⟨⟨by decide +kernel, by decide +kernel⟩, List.mem_of_getElem? (i := 914) (by decide +kernel), List.mem_of_getElem? (i := 1264) (by decide +kernel), List.mem_of_getElem? (i := 1265) (by decide +kernel)⟩
theorem lw_p88 : lw_okq (⟨"RescanMillModel", "operator", "()I"⟩, 47) := ⟨⟨by decide +kernel, by decide +kernel⟩, List.mem_of_getElem? (i := 914) (by decide +kernel), List.mem_of_getElem? (i := 1268) (by decide +kernel), List.mem_of_getElem? (i := 1269) (by decide +kernel)⟩
theorem lw_p89 : lw_okq (⟨"RescanMillModel", "settle", "(I)I"⟩, 47) := ⟨⟨by decide +kernel, by decide +kernel⟩, List.mem_of_getElem? (i := 914) (by decide +kernel), List.mem_of_getElem? (i := 1275) (by decide +kernel), List.mem_of_getElem? (i := 1276) (by decide +kernel)⟩
theorem lw_p90 : lw_okq (⟨"RescanMillModel", "apply", "(III)I"⟩, 47) := ⟨⟨by decide +kernel, by decide +kernel⟩, List.mem_of_getElem? (i := 914) (by decide +kernel), List.mem_of_getElem? (i := 1279) (by decide +kernel), List.mem_of_getElem? (i := 1280) (by decide +kernel)⟩
theorem lw_p91 : lw_okq (⟨"RescanMillModel", "number", "(II)I"⟩, 47) := ⟨⟨by decide +kernel, by decide +kernel⟩, List.mem_of_getElem? (i := 914) (by decide +kernel), List.mem_of_getElem? (i := 1283) (by decide +kernel), List.mem_of_getElem? (i := 1284) (by decide +kernel)⟩
theorem lw_p92 : lw_okq (⟨"RescanMillModel", "giveIfRight", "(J)V"⟩, 47) := ⟨⟨by decide +kernel, by decide +kernel⟩, List.mem_of_getElem? (i := 914) (by decide +kernel), List.mem_of_getElem? (i := 1287) (by decide +kernel), List.mem_of_getElem? (i := 1288) (by decide +kernel)⟩
theorem lw_p93 : lw_okq (⟨"RescanMillModel", "placeOf", "(I)I"⟩, 47) := ⟨⟨by decide +kernel, by decide +kernel⟩, List.mem_of_getElem? (i := 914) (by decide +kernel), List.mem_of_getElem? (i := 1291) (by decide +kernel), List.mem_of_getElem? (i := 1292) (by decide +kernel)⟩
theorem lw_p94 : lw_okq (⟨"RescanMillModel", "giveSome", "(II)V"⟩, 47) := ⟨⟨by decide +kernel, by decide +kernel⟩, List.mem_of_getElem? (i := 914) (by decide +kernel), List.mem_of_getElem? (i := 1295) (by decide +kernel), List.mem_of_getElem? (i := 1296) (by decide +kernel)⟩
theorem lw_p95 : lw_okq (⟨"RescanMillModel", "actOnInput", "(III)V"⟩, 47) := ⟨⟨by decide +kernel, by decide +kernel⟩, List.mem_of_getElem? (i := 914) (by decide +kernel), List.mem_of_getElem? (i := 1299) (by decide +kernel), List.mem_of_getElem? (i := 1300) (by decide +kernel)⟩
def lw_privs_6 : List (MethodName × Nat) := [(⟨"RescanMillModel", "choose", "(II)V"⟩, 47), (⟨"RescanMillModel", "same", "(III)Z"⟩, 47), (⟨"RescanMillModel", "evaluate", "(I)V"⟩, 47), (⟨"RescanMillModel", "operands", "()I"⟩, 47), (⟨"RescanMillModel", "unary", "()I"⟩, 47), (⟨"RescanMillModel", "skipBlanks", "()V"⟩, 47), (⟨"RescanMillModel", "sign", "(I)I"⟩, 47), (⟨"RescanMillModel", "numeral", "()I"⟩, 47), (⟨"RescanMillModel", "operator", "()I"⟩, 47), (⟨"RescanMillModel", "settle", "(I)I"⟩, 47), (⟨"RescanMillModel", "apply", "(III)I"⟩, 47), (⟨"RescanMillModel", "number", "(II)I"⟩, 47), (⟨"RescanMillModel", "giveIfRight", "(J)V"⟩, 47), (⟨"RescanMillModel", "placeOf", "(I)I"⟩, 47), (⟨"RescanMillModel", "giveSome", "(II)V"⟩, 47), (⟨"RescanMillModel", "actOnInput", "(III)V"⟩, 47)]
theorem lw_r6 : ∀ q ∈ lw_privs_6, lw_okq q := List.forall_mem_cons.mpr ⟨lw_p80, List.forall_mem_cons.mpr ⟨lw_p81, List.forall_mem_cons.mpr ⟨lw_p82, List.forall_mem_cons.mpr ⟨lw_p83, List.forall_mem_cons.mpr ⟨lw_p84, List.forall_mem_cons.mpr ⟨lw_p85, List.forall_mem_cons.mpr ⟨lw_p86, List.forall_mem_cons.mpr ⟨lw_p87, List.forall_mem_cons.mpr ⟨lw_p88, List.forall_mem_cons.mpr ⟨lw_p89, List.forall_mem_cons.mpr ⟨lw_p90, List.forall_mem_cons.mpr ⟨lw_p91, List.forall_mem_cons.mpr ⟨lw_p92, List.forall_mem_cons.mpr ⟨lw_p93, List.forall_mem_cons.mpr ⟨lw_p94, List.forall_mem_cons.mpr ⟨lw_p95, fun _ h => absurd h List.not_mem_nil⟩⟩⟩⟩⟩⟩⟩⟩⟩⟩⟩⟩⟩⟩⟩⟩
theorem lw_p96 : lw_okq (⟨"RescanMillModel", "undivert", "(I)V"⟩, 47) := ⟨⟨by decide +kernel, by decide +kernel⟩, List.mem_of_getElem? (i := 914) (by decide +kernel), List.mem_of_getElem? (i := 1303) (by decide +kernel), List.mem_of_getElem? (i := 1304) (by decide +kernel)⟩
theorem lw_p97 : lw_okq (⟨"RescanMillModel", "changeQuotes", "(II)V"⟩, 47) := ⟨⟨by decide +kernel, by decide +kernel⟩, List.mem_of_getElem? (i := 914) (by decide +kernel), List.mem_of_getElem? (i := 1307) (by decide +kernel), List.mem_of_getElem? (i := 1308) (by decide +kernel)⟩
theorem lw_p98 : lw_okq (⟨"RescanMillModel", "isQuote", "(II)Z"⟩, 47) := ⟨⟨by decide +kernel, by decide +kernel⟩, List.mem_of_getElem? (i := 914) (by decide +kernel), List.mem_of_getElem? (i := 1311) (by decide +kernel), List.mem_of_getElem? (i := 1312) (by decide +kernel)⟩
theorem lw_p99 : lw_okq (⟨"RescanMillModel", "putBack", "()V"⟩, 47) := ⟨⟨by decide +kernel, by decide +kernel⟩, List.mem_of_getElem? (i := 914) (by decide +kernel), List.mem_of_getElem? (i := 1315) (by decide +kernel), List.mem_of_getElem? (i := 1316) (by decide +kernel)⟩
def lw_privs_7 : List (MethodName × Nat) := [(⟨"RescanMillModel", "undivert", "(I)V"⟩, 47), (⟨"RescanMillModel", "changeQuotes", "(II)V"⟩, 47), (⟨"RescanMillModel", "isQuote", "(II)Z"⟩, 47), (⟨"RescanMillModel", "putBack", "()V"⟩, 47)]
theorem lw_r7 : ∀ q ∈ lw_privs_7, lw_okq q := List.forall_mem_cons.mpr ⟨lw_p96, List.forall_mem_cons.mpr ⟨lw_p97, List.forall_mem_cons.mpr ⟨lw_p98, List.forall_mem_cons.mpr ⟨lw_p99, fun _ h => absurd h List.not_mem_nil⟩⟩⟩⟩
def lw_privs : List (MethodName × Nat) := lw_privs_1 ++ (lw_privs_2 ++ (lw_privs_3 ++ (lw_privs_4 ++ (lw_privs_5 ++ (lw_privs_6 ++ (lw_privs_7))))))
def lw_tbl : List Cond := k2_sels lw_privs ++ tables_1
theorem lw_privs_ok : ∀ q ∈ lw_privs, lw_okq q := by
  show ∀ q ∈ lw_privs_1 ++ (lw_privs_2 ++ (lw_privs_3 ++ (lw_privs_4 ++ (lw_privs_5 ++ (lw_privs_6 ++ (lw_privs_7)))))), lw_okq q
  exact List.forall_mem_append.mpr ⟨lw_r1, List.forall_mem_append.mpr ⟨lw_r2, List.forall_mem_append.mpr ⟨lw_r3, List.forall_mem_append.mpr ⟨lw_r4, List.forall_mem_append.mpr ⟨lw_r5, List.forall_mem_append.mpr ⟨lw_r6, lw_r7⟩⟩⟩⟩⟩⟩
end
section
def tbG : List Cond := lw_tbl.filter goodWord
theorem tbG_good : ∀ w ∈ tbG, (w.onTables && w.keeps) = true ∨ ∃ ty, w = .arrayClass ty := fun w h => good_of_word (List.mem_filter.mp h).2
theorem tb_in {i : Nat} {w : Cond} (h : tables_1[i]? = some w) (g : goodWord w = true) : w ∈ tbG := List.mem_filter.mpr ⟨List.mem_append_right _ (List.mem_of_getElem? h), g⟩
theorem ts_in {i : Nat} {w : Cond} (h : (k2_sels lw_privs)[i]? = some w) (g : goodWord w = true) : w ∈ tbG := List.mem_filter.mpr ⟨List.mem_append_left _ (List.mem_of_getElem? h), g⟩
theorem in_ps {ws : List Cond} (ps : List Nat) (hp : ws = ps.filterMap (fun i => tables_1[i]?)) (hg : ws.all goodWord = true) : ∀ w ∈ ws, w ∈ tbG := by
  intro w hw
  have h1 := List.all_eq_true.mp hg w hw
  rw [hp] at hw
  obtain ⟨i, -, hi⟩ := List.mem_filterMap.mp hw
  exact tb_in hi h1
def T_Mi : u_T := fun k => match k with
  | 0 => ("RescanMill", "text", "LRescanMill$Bytes;", true)
  | 1 => ("RescanMill", "out", "LRescanMill$Bytes;", true)
  | 2 => ("RescanMill", "result", "LRescanMill$Bytes;", true)
  | 3 => ("RescanMill", "input", "LRescanMill$Input;", true)
  | 4 => ("RescanMill", "calls", "LRescanMill$Calls;", true)
  | 5 => ("RescanMill", "meanings", "LRescanMill$Meanings;", true)
  | 6 => ("RescanMill", "diversions", "LRescanMill$Diversions;", true)
  | 7 => ("RescanMill", "expression", "LRescanMill$Expression;", true)
  | 8 => ("RescanMill", "fallBack", "[I", true)
  | _ => ("RescanMill", "errorLine", "I", false)
def T_By : u_T := fun k => match k with
  | 0 => ("RescanMill$Bytes", "row", "[B", true)
  | 1 => ("RescanMill$Bytes", "count", "I", false)
  | _ => ("RescanMill$Bytes", "over", "Z", false)
def T_Ca : u_T := fun k => match k with
  | 0 => ("RescanMill$Calls", "held", "LRescanMill$Bytes;", true)
  | 1 => ("RescanMill$Calls", "open", "I", false)
  | 2 => ("RescanMill$Calls", "complete", "Z", false)
  | 3 => ("RescanMill$Calls", "argumentStarts", "[I", true)
  | 4 => ("RescanMill$Calls", "argumentsHeld", "I", false)
  | 5 => ("RescanMill$Calls", "nameStarts", "[I", true)
  | 6 => ("RescanMill$Calls", "firstArguments", "[I", true)
  | 7 => ("RescanMill$Calls", "nested", "[I", true)
  | _ => ("RescanMill$Calls", "tokenCame", "[Z", true)
def T_Ce : u_T := fun k => match k with
  | 0 => ("RescanMill$Cells", "bytes", "[B", true)
  | 1 => ("RescanMill$Cells", "next", "[I", true)
  | 2 => ("RescanMill$Cells", "fresh", "I", false)
  | 3 => ("RescanMill$Cells", "free", "I", false)
  | _ => ("RescanMill$Cells", "used", "I", false)
def T_Ch : u_T := fun k => match k with
  | 0 => ("RescanMill$Chain", "first", "I", false)
  | 1 => ("RescanMill$Chain", "last", "I", false)
  | _ => ("RescanMill$Chain", "count", "I", false)
def T_Di : u_T := fun k => match k with
  | 0 => ("RescanMill$Diversions", "current", "I", false)
  | 1 => ("RescanMill$Diversions", "cells", "LRescanMill$Cells;", true)
  | _ => ("RescanMill$Diversions", "chains", "[LRescanMill$Chain;", true)
def T_Ex : u_T := fun k => match k with
  | 0 => ("RescanMill$Expression", "source", "LRescanMill$Bytes;", false)
  | 1 => ("RescanMill$Expression", "at", "I", false)
  | 2 => ("RescanMill$Expression", "end", "I", false)
  | 3 => ("RescanMill$Expression", "values", "[I", true)
  | 4 => ("RescanMill$Expression", "valueCount", "I", false)
  | 5 => ("RescanMill$Expression", "waiting", "[LRescanMill$Operator;", true)
  | 6 => ("RescanMill$Expression", "waitingCount", "I", false)
  | 7 => ("RescanMill$Expression", "nested", "I", false)
  | 8 => ("RescanMill$Expression", "valueDue", "Z", false)
  | _ => ("RescanMill$Expression", "byZero", "Z", false)
def T_In : u_T := fun k => match k with
  | 0 => ("RescanMill$Input", "opening", "LRescanMill$Bytes;", true)
  | 1 => ("RescanMill$Input", "closing", "LRescanMill$Bytes;", true)
  | 2 => ("RescanMill$Input", "token", "LRescanMill$Bytes;", true)
  | 3 => ("RescanMill$Input", "kind", "I", false)
  | 4 => ("RescanMill$Input", "tokenLine", "I", false)
  | 5 => ("RescanMill$Input", "taken", "I", false)
  | 6 => ("RescanMill$Input", "text", "LRescanMill$Bytes;", false)
  | 7 => ("RescanMill$Input", "textAt", "I", false)
  | 8 => ("RescanMill$Input", "back", "[B", true)
  | 9 => ("RescanMill$Input", "backAt", "I", false)
  | 10 => ("RescanMill$Input", "fuel", "I", false)
  | _ => ("RescanMill$Input", "lines", "I", false)
def T_Me : u_T := fun k => match k with
  | 0 => ("RescanMill$Meaning", "name", "LRescanMill$Chain;", true)
  | 1 => ("RescanMill$Meaning", "text", "LRescanMill$Chain;", true)
  | 2 => ("RescanMill$Meaning", "builtIn", "LRescanMill$BuiltIn;", false)
  | 3 => ("RescanMill$Meaning", "hash", "I", false)
  | _ => ("RescanMill$Meaning", "next", "LRescanMill$Meaning;", false)
def T_Ms : u_T := fun k => match k with
  | 0 => ("RescanMill$Meanings", "cells", "LRescanMill$Cells;", true)
  | 1 => ("RescanMill$Meanings", "defined", "I", false)
  | 2 => ("RescanMill$Meanings", "definedBytes", "I", false)
  | 3 => ("RescanMill$Meanings", "buckets", "[LRescanMill$Meaning;", true)
  | 4 => ("RescanMill$Meanings", "all", "[LRescanMill$Meaning;", true)
  | _ => ("RescanMill$Meanings", "spare", "LRescanMill$Meaning;", false)
def T_Rf : u_T := fun k => match k with
  | 0 => ("RescanMillModel", "textSize", "I", false)
  | 1 => ("RescanMillModel", "text", "[B", true)
  | 2 => ("RescanMillModel", "error", "I", false)
  | 3 => ("RescanMillModel", "errorLine", "I", false)
  | 4 => ("RescanMillModel", "tokensRead", "I", false)
  | 5 => ("RescanMillModel", "out", "[B", true)
  | 6 => ("RescanMillModel", "outSize", "I", false)
  | 7 => ("RescanMillModel", "input", "[B", true)
  | 8 => ("RescanMillModel", "inputAt", "I", false)
  | 9 => ("RescanMillModel", "mainLeft", "I", false)
  | 10 => ("RescanMillModel", "line", "I", false)
  | 11 => ("RescanMillModel", "fuel", "I", false)
  | 12 => ("RescanMillModel", "open", "[I", true)
  | 13 => ("RescanMillModel", "openSize", "I", false)
  | 14 => ("RescanMillModel", "close", "[I", true)
  | 15 => ("RescanMillModel", "closeSize", "I", false)
  | 16 => ("RescanMillModel", "kind", "I", false)
  | 17 => ("RescanMillModel", "token", "[B", true)
  | 18 => ("RescanMillModel", "tokenSize", "I", false)
  | 19 => ("RescanMillModel", "given", "[B", true)
  | 20 => ("RescanMillModel", "givenSize", "I", false)
  | 21 => ("RescanMillModel", "meanings", "I", false)
  | 22 => ("RescanMillModel", "meaningAt", "[I", true)
  | 23 => ("RescanMillModel", "meaningName", "[I", true)
  | 24 => ("RescanMillModel", "meaningText", "[I", true)
  | 25 => ("RescanMillModel", "builtIn", "[I", true)
  | 26 => ("RescanMillModel", "texts", "[B", true)
  | 27 => ("RescanMillModel", "textsSize", "I", false)
  | 28 => ("RescanMillModel", "defined", "I", false)
  | 29 => ("RescanMillModel", "definedBytes", "I", false)
  | 30 => ("RescanMillModel", "diverted", "[B", true)
  | 31 => ("RescanMillModel", "divertedSize", "[I", true)
  | 32 => ("RescanMillModel", "divertedAll", "I", false)
  | 33 => ("RescanMillModel", "current", "I", false)
  | 34 => ("RescanMillModel", "calls", "I", false)
  | 35 => ("RescanMillModel", "arguments", "[B", true)
  | 36 => ("RescanMillModel", "argumentsSize", "I", false)
  | 37 => ("RescanMillModel", "starts", "I", false)
  | 38 => ("RescanMillModel", "start", "[I", true)
  | 39 => ("RescanMillModel", "place", "I", false)
  | 40 => ("RescanMillModel", "stop", "I", false)
  | 41 => ("RescanMillModel", "wrong", "Z", false)
  | 42 => ("RescanMillModel", "divided", "Z", false)
  | 43 => ("RescanMillModel", "nested", "I", false)
  | 44 => ("RescanMillModel", "waiting", "I", false)
  | 45 => ("RescanMillModel", "waitingSign", "[I", true)
  | _ => ("RescanMillModel", "waitingValue", "[I", true)
def vwCl : List vw_C := [("RescanMill", T_Mi, 10), ("RescanMill$Bytes", T_By, 3), ("RescanMill$Calls", T_Ca, 9), ("RescanMill$Cells", T_Ce, 5), ("RescanMill$Chain", T_Ch, 3), ("RescanMill$Diversions", T_Di, 3), ("RescanMill$Expression", T_Ex, 10), ("RescanMill$Input", T_In, 12), ("RescanMill$Meaning", T_Me, 5), ("RescanMill$Meanings", T_Ms, 6), ("RescanMillModel", T_Rf, 47)]
def nfT (ci : Nat) : Nat := match ci with
  | 0 => 10
  | 1 => 3
  | 2 => 9
  | 3 => 5
  | 4 => 3
  | 5 => 3
  | 6 => 10
  | 7 => 12
  | 8 => 5
  | 9 => 6
  | 10 => 47
  | _ => 0
def f_Mi : List (Nat × FieldType) := [(2, .object "RescanMill$Bytes"), (2, .object "RescanMill$Bytes"), (2, .object "RescanMill$Bytes"), (2, .object "RescanMill$Input"), (2, .object "RescanMill$Calls"), (2, .object "RescanMill$Meanings"), (2, .object "RescanMill$Diversions"), (2, .object "RescanMill$Expression"), (2, .array .int), (0, .int)]
def f_By : List (Nat × FieldType) := [(2, .array .byte), (0, .int), (0, .boolean)]
def f_Ca : List (Nat × FieldType) := [(2, .object "RescanMill$Bytes"), (0, .int), (0, .boolean), (2, .array .int), (0, .int), (2, .array .int), (2, .array .int), (2, .array .int), (2, .array .boolean)]
def f_Ce : List (Nat × FieldType) := [(2, .array .byte), (2, .array .int), (0, .int), (0, .int), (0, .int)]
def f_Ch : List (Nat × FieldType) := [(0, .int), (0, .int), (0, .int)]
def f_Di : List (Nat × FieldType) := [(0, .int), (2, .object "RescanMill$Cells"), (2, .array (.object "RescanMill$Chain"))]
def f_Ex : List (Nat × FieldType) := [(1, .object "RescanMill$Bytes"), (0, .int), (0, .int), (2, .array .int), (0, .int), (2, .array (.object "RescanMill$Operator")), (0, .int), (0, .int), (0, .boolean), (0, .boolean)]
def f_In : List (Nat × FieldType) := [(2, .object "RescanMill$Bytes"), (2, .object "RescanMill$Bytes"), (2, .object "RescanMill$Bytes"), (0, .int), (0, .int), (0, .int), (1, .object "RescanMill$Bytes"), (0, .int), (2, .array .byte), (0, .int), (0, .int), (0, .int)]
def f_Me : List (Nat × FieldType) := [(2, .object "RescanMill$Chain"), (2, .object "RescanMill$Chain"), (1, .object "RescanMill$BuiltIn"), (0, .int), (1, .object "RescanMill$Meaning")]
def f_Ms : List (Nat × FieldType) := [(2, .object "RescanMill$Cells"), (0, .int), (0, .int), (2, .array (.object "RescanMill$Meaning")), (2, .array (.object "RescanMill$Meaning")), (1, .object "RescanMill$Meaning")]
def f_Rf : List (Nat × FieldType) := [(0, .int), (2, .array .byte), (0, .int), (0, .int), (0, .int), (2, .array .byte), (0, .int), (2, .array .byte), (0, .int), (0, .int), (0, .int), (0, .int), (2, .array .int), (0, .int), (2, .array .int), (0, .int), (0, .int), (2, .array .byte), (0, .int), (2, .array .byte), (0, .int), (0, .int), (2, .array .int), (2, .array .int), (2, .array .int), (2, .array .int), (2, .array .byte), (0, .int), (0, .int), (0, .int), (2, .array .byte), (2, .array .int), (0, .int), (0, .int), (0, .int), (2, .array .byte), (0, .int), (0, .int), (2, .array .int), (0, .int), (0, .int), (0, .boolean), (0, .boolean), (0, .int), (0, .int), (2, .array .int), (2, .array .int)]
def fkT (ci : Nat) : List (Nat × FieldType) := match ci with
  | 0 => f_Mi
  | 1 => f_By
  | 2 => f_Ca
  | 3 => f_Ce
  | 4 => f_Ch
  | 5 => f_Di
  | 6 => f_Ex
  | 7 => f_In
  | 8 => f_Me
  | 9 => f_Ms
  | 10 => f_Rf
  | _ => []
def fsT (ci k : Nat) : Nat := ((fkT ci).getD k (0, .int)).1
def ftT (ci k : Nat) : FieldType := ((fkT ci).getD k (0, .int)).2
def tyT : List FieldType := [.int, .byte, .boolean, .object "RescanMill$Chain", .object "RescanMill$Meaning", .object "RescanMill$Operator"]
def kdT (i : Nat) : Nat ⊕ (Nat × Nat) := if 31 ≤ i ∧ i < 982 then (if (i - 31) % 3 = 0 then .inl 8 else .inl 4) else if 987 ≤ i ∧ i < 997 then .inl 4 else match i with
  | 0 => .inl 0
  | 1 => .inl 1
  | 2 => .inr (1, 32768)
  | 3 => .inl 1
  | 4 => .inr (1, 32768)
  | 5 => .inl 1
  | 6 => .inr (1, 32768)
  | 7 => .inl 7
  | 8 => .inl 1
  | 9 => .inr (1, 4)
  | 10 => .inl 1
  | 11 => .inr (1, 4)
  | 12 => .inl 1
  | 13 => .inr (1, 32768)
  | 14 => .inl 1
  | 15 => .inr (1, 0)
  | 16 => .inr (1, 32768)
  | 17 => .inl 2
  | 18 => .inl 1
  | 19 => .inr (1, 16384)
  | 20 => .inr (0, 8192)
  | 21 => .inr (0, 50)
  | 22 => .inr (0, 50)
  | 23 => .inr (0, 50)
  | 24 => .inr (2, 50)
  | 25 => .inl 9
  | 26 => .inl 3
  | 27 => .inr (1, 16512)
  | 28 => .inr (0, 16512)
  | 29 => .inr (4, 128)
  | 30 => .inr (4, 317)
  | 982 => .inl 5
  | 983 => .inl 3
  | 984 => .inr (1, 32768)
  | 985 => .inr (0, 32768)
  | 986 => .inr (3, 10)
  | 997 => .inl 6
  | 998 => .inl 1
  | 999 => .inr (1, 0)
  | 1000 => .inr (0, 342)
  | 1001 => .inr (5, 341)
  | 1002 => .inr (0, 8192)
  | 1003 => .inl 10
  | 1004 => .inr (1, 32768)
  | 1005 => .inr (1, 32768)
  | 1006 => .inr (1, 32768)
  | 1007 => .inr (0, 4)
  | 1008 => .inr (0, 4)
  | 1009 => .inr (1, 32768)
  | 1010 => .inr (1, 32769)
  | 1011 => .inr (0, 340)
  | 1012 => .inr (0, 340)
  | 1013 => .inr (0, 340)
  | 1014 => .inr (0, 340)
  | 1015 => .inr (1, 16684)
  | 1016 => .inr (1, 327680)
  | 1017 => .inr (0, 10)
  | 1018 => .inr (1, 16385)
  | 1019 => .inr (0, 8300)
  | 1020 => .inr (0, 400)
  | 1021 => .inr (0, 400)
  | _ => .inl 4
def nstT : List Cond := [Cond.methodLinkNest "RescanMill" (29 : Nat) ({ cls := "RescanMill$Input", name := "<init>", desc := "()V" } : MethodName) "RescanMill", Cond.methodLinkNest "RescanMill" (36 : Nat) ({ cls := "RescanMill$Calls", name := "<init>", desc := "()V" } : MethodName) "RescanMill", Cond.fieldLinkNest "RescanMill$Meanings" (26 : Nat) "RescanMill" "BUILT_INS" "[LRescanMill$BuiltIn;" "RescanMill", Cond.methodLinkNest "RescanMill$Meanings" (33 : Nat) ({ cls := "RescanMill$Meaning", name := "<init>", desc := "()V" } : MethodName) "RescanMill", Cond.methodLinkNest "RescanMill$Meaning" (9 : Nat) ({ cls := "RescanMill$Chain", name := "<init>", desc := "()V" } : MethodName) "RescanMill", Cond.methodLinkNest "RescanMill$Diversions" (27 : Nat) ({ cls := "RescanMill$Chain", name := "<init>", desc := "()V" } : MethodName) "RescanMill", Cond.methodLinkNest "RescanMill" (57 : Nat) ({ cls := "RescanMill$Expression", name := "<init>", desc := "()V" } : MethodName) "RescanMill", Cond.methodLinkNest "RescanMill$Input" (108 : Nat) ({ cls := "RescanMill", name := "isLetter", desc := "(I)Z" } : MethodName) "RescanMill", Cond.methodLinkNest "RescanMill$Input" (119 : Nat) ({ cls := "RescanMill", name := "isNamePart", desc := "(I)Z" } : MethodName) "RescanMill", Cond.methodLinkNest "RescanMill$Expression" (44 : Nat) ({ cls := "RescanMill", name := "isSpace", desc := "(I)Z" } : MethodName) "RescanMill", Cond.methodLinkNest "RescanMill$Expression" (52 : Nat) ({ cls := "RescanMill", name := "isDigit", desc := "(I)Z" } : MethodName) "RescanMill", Cond.fieldLinkNest "RescanMill$Expression" (127 : Nat) "RescanMill" "OPERATORS" "[LRescanMill$Operator;" "RescanMill"]
theorem nst_ok : ∀ w ∈ nstT, (∃ a i b n d h, w = Cond.fieldLinkNest a i b n d h) ∨ ∃ a i x h, w = Cond.methodLinkNest a i x h := by
  intro w hw
  simp only [nstT, List.mem_cons, List.not_mem_nil, or_false] at hw
  rcases hw with rfl | rfl | rfl | rfl | rfl | rfl | rfl | rfl | rfl | rfl | rfl | rfl
  · exact Or.inr ⟨_, _, _, _, rfl⟩
  · exact Or.inr ⟨_, _, _, _, rfl⟩
  · exact Or.inl ⟨_, _, _, _, _, _, rfl⟩
  · exact Or.inr ⟨_, _, _, _, rfl⟩
  · exact Or.inr ⟨_, _, _, _, rfl⟩
  · exact Or.inr ⟨_, _, _, _, rfl⟩
  · exact Or.inr ⟨_, _, _, _, rfl⟩
  · exact Or.inr ⟨_, _, _, _, rfl⟩
  · exact Or.inr ⟨_, _, _, _, rfl⟩
  · exact Or.inr ⟨_, _, _, _, rfl⟩
  · exact Or.inr ⟨_, _, _, _, rfl⟩
  · exact Or.inl ⟨_, _, _, _, _, _, rfl⟩
end
section

/-! THE WALKS' KIT: codes for addresses, memory as functions, a row an instruction -/
abbrev ev_T : Type := Nat × va_G × (Nat → ClassId) × (Nat → Nat)
def ev_ad (q : ev_T) (c : Nat) : Nat := if c < 1048576 then q.1 + c else q.2.2.2 c
def ev_v (q : ev_T) (v : Value) : Value := match v with
  | .ref c => .ref (ev_ad q c)
  | w => w
theorem ev_rf (q : ev_T) (r : Option Nat) : ev_v q (va_rf r) = va_rf (r.map (ev_ad q)) := by cases r <;> rfl
theorem ev_cat (q : ev_T) (v : Value) : (ev_v q v).category = v.category := by cases v <;> rfl
theorem ev_lo {q : ev_T} {c : Nat} (h : c < 1048576) : ev_ad q c = q.1 + c := if_pos h
theorem ev_hi {q : ev_T} {c : Nat} (h : 1048576 ≤ c) : ev_ad q c = q.2.2.2 c := if_neg (Nat.not_lt.mpr h)
/-- cells left, slots left, cells made, final references, ints, references -/
abbrev mu_T : Type := Nat × (Nat → Nat → Option Nat) × (Nat → Nat → Int32) × (Nat → Nat → Option Nat)
abbrev mm_T : Type := Nat × Nat × mu_T
abbrev gN (g : mu_T) : Nat := g.1
abbrev gF (g : mu_T) : Nat → Nat → Option Nat := g.2.1
abbrev gI (g : mu_T) : Nat → Nat → Int32 := g.2.2.1
abbrev gR (g : mu_T) : Nat → Nat → Option Nat := g.2.2.2
abbrev mN (u : mm_T) : Nat := u.2.2.1
abbrev mF (u : mm_T) : Nat → Nat → Option Nat := u.2.2.2.1
abbrev mI (u : mm_T) : Nat → Nat → Int32 := u.2.2.2.2.1
abbrev mR (u : mm_T) : Nat → Nat → Option Nat := u.2.2.2.2.2
def up2 {α : Type} (f : Nat → Nat → α) (a k : Nat) (x : α) : Nat → Nat → α := fun b j => if b = a ∧ j = k then x else f b j
theorem up2_eq {α : Type} (f : Nat → Nat → α) (a k : Nat) (x : α) : up2 f a k x a k = x := if_pos ⟨rfl, rfl⟩
theorem up2_na {α : Type} {f : Nat → Nat → α} {a k b j : Nat} {x : α} (h : b ≠ a) : up2 f a k x b j = f b j := if_neg fun z => h z.1
theorem up2_nk {α : Type} {f : Nat → Nat → α} {a k b j : Nat} {x : α} (h : j ≠ k) : up2 f a k x b j = f b j := if_neg fun z => h z.2
theorem up2_nf {α : Type} {f : Nat → Nat → α} {a k b : Nat} {x : α} (h : b ≠ a) : up2 f a k x b = f b := funext fun _ => up2_na h
def xI (g : mu_T) (a k : Nat) (x : Int32) : mu_T := (g.1, g.2.1, up2 g.2.2.1 a k x, g.2.2.2)
def xR (g : mu_T) (a k : Nat) (x : Option Nat) : mu_T := (g.1, g.2.1, g.2.2.1, up2 g.2.2.2 a k x)
def xF (g : mu_T) (a k : Nat) (x : Option Nat) : mu_T := (g.1, up2 g.2.1 a k x, g.2.2.1, g.2.2.2)
def xA (g : mu_T) (a : Nat) (f : Nat → Int32) : mu_T := (g.1, g.2.1, fun b => if b = a then f else g.2.2.1 b, g.2.2.2)
def wI (u : mm_T) (a k : Nat) (x : Int32) : mm_T := (u.1, u.2.1, u.2.2.1, u.2.2.2.1, up2 u.2.2.2.2.1 a k x, u.2.2.2.2.2)
def wR (u : mm_T) (a k : Nat) (x : Option Nat) : mm_T := (u.1, u.2.1, u.2.2.1, u.2.2.2.1, u.2.2.2.2.1, up2 u.2.2.2.2.2 a k x)
def wF (u : mm_T) (a k : Nat) (x : Option Nat) : mm_T := (u.1, u.2.1, u.2.2.1, up2 u.2.2.2.1 a k x, u.2.2.2.2.1, u.2.2.2.2.2)
/-- a whole row of ints -/
def wA (u : mm_T) (a : Nat) (f : Nat → Int32) : mm_T := (u.1, u.2.1, u.2.2.1, u.2.2.2.1, fun b => if b = a then f else u.2.2.2.2.1 b, u.2.2.2.2.2)
def mm_av (u : mm_T) (ci a k : Nat) : Value := match fsT ci k with
  | 0 => .int (mI u a k)
  | 1 => va_rf (mR u a k)
  | _ => va_rf (mF u a k)
def mm_E (q : ev_T) (u : mm_T) (i : Nat) : va_E := match kdT i with
  | .inl ci => .inr (ci, (List.range (nfT ci)).map (fun k => ev_v q (mm_av u ci i k)))
  | .inr (t, len) => if t < 3 then .inl (q.2.2.1 t, len, .inl (mI u i)) else .inl (q.2.2.1 t, len, .inr (.inr (.inr (.inr (fun j => (mR u i j).map (ev_ad q))))))
def mm_ws (q : ev_T) (u : mm_T) : va_W := (List.range (mN u)).map (fun i => (q.1 + i, mm_E q u i))
/-- rows of bytes hold bytes -/
def mmB (u : mm_T) : Prop := ∀ (i len : Nat), kdT i = .inr (1, len) → ∀ j, (mI u i j).toInt8.toInt32 = mI u i j
/-- what is not made yet is blank -/
def mmZ (u : mm_T) : Prop := ∀ i, mN u ≤ i → ∀ k, mI u i k = 0 ∧ mR u i k = none ∧ mF u i k = none
def WD (q : ev_T) (u : mm_T) (H : Heap) : Prop := H.size = q.1 + mN u ∧ va_P q.2.1 vwCl (mm_ws q u) H ∧ mN u ≤ 1048576 ∧ mmB u ∧ mmZ u
def ev_tys (q : ev_T) : List (ClassId × FieldType) := (List.range tyT.length).map (fun t => (q.2.2.1 t, tyT.getD t .int))
theorem mmZ_I {u : mm_T} {a k : Nat} {x : Int32} (h : mmZ u) (ha : a < mN u) : mmZ (wI u a k x) := fun i hi j => ⟨(up2_na (by intro z; subst z; exact absurd (show mN u ≤ i from hi) (Nat.not_le.mpr ha))).trans (h i hi j).1, (h i hi j).2⟩
theorem mmZ_R {u : mm_T} {a k : Nat} {x : Option Nat} (h : mmZ u) (ha : a < mN u) : mmZ (wR u a k x) := fun i hi j => ⟨(h i hi j).1, (up2_na (by intro z; subst z; exact absurd (show mN u ≤ i from hi) (Nat.not_le.mpr ha))).trans (h i hi j).2.1, (h i hi j).2.2⟩
theorem mmZ_F {u : mm_T} {a k : Nat} {x : Option Nat} (h : mmZ u) (ha : a < mN u) : mmZ (wF u a k x) := fun i hi j => ⟨(h i hi j).1, (h i hi j).2.1, (up2_na (by intro z; subst z; exact absurd (show mN u ≤ i from hi) (Nat.not_le.mpr ha))).trans (h i hi j).2.2⟩
theorem mmZ_A {u : mm_T} {a : Nat} {f : Nat → Int32} (h : mmZ u) (ha : a < mN u) : mmZ (wA u a f) := fun i hi j => ⟨by
    have hne : i ≠ a := by intro z; subst z; exact absurd (show mN u ≤ i from hi) (Nat.not_le.mpr ha)
    show (if i = a then f else mI u i) j = 0
    rw [if_neg hne]; exact (h i hi j).1, (h i hi j).2⟩
theorem mmB_R {u : mm_T} {a k : Nat} {x : Option Nat} (h : mmB u) : mmB (wR u a k x) := h
theorem mmB_F {u : mm_T} {a k : Nat} {x : Option Nat} (h : mmB u) : mmB (wF u a k x) := h
theorem mmB_In {u : mm_T} {a k : Nat} {x : Int32} (h : mmB u) (hk : ∀ len, kdT a ≠ .inr (1, len)) : mmB (wI u a k x) := fun i len hi j => by
  have hne : i ≠ a := by intro z; subst z; exact hk len hi
  show (up2 (mI u) a k x i j).toInt8.toInt32 = up2 (mI u) a k x i j
  rw [up2_na hne]; exact h i len hi j
theorem mmB_Ib {u : mm_T} {a k : Nat} {x : Int32} (h : mmB u) (hx : x.toInt8.toInt32 = x) : mmB (wI u a k x) := fun i len hi j => by
  show (up2 (mI u) a k x i j).toInt8.toInt32 = up2 (mI u) a k x i j
  by_cases hj : i = a ∧ j = k
  · rw [show up2 (mI u) a k x i j = x from if_pos hj]; exact hx
  · rw [show up2 (mI u) a k x i j = mI u i j from if_neg hj]; exact h i len hi j
theorem mmB_A {u : mm_T} {a : Nat} {f : Nat → Int32} (h : mmB u) (hf : ∀ len, kdT a = .inr (1, len) → ∀ j, (f j).toInt8.toInt32 = f j) : mmB (wA u a f) := fun i len hi j => by
  show ((if i = a then f else mI u i) j).toInt8.toInt32 = (if i = a then f else mI u i) j
  by_cases hj : i = a
  · rw [if_pos hj]; subst hj; exact hf len hi j
  · rw [if_neg hj]; exact h i len hi j
theorem mm_at {q : ev_T} {u : mm_T} {i : Nat} (h : i < mN u) : (mm_ws q u)[i]? = some (q.1 + i, mm_E q u i) := by
  simp only [mm_ws, List.getElem?_map, List.getElem?_range h, Option.map_some]
theorem mm_D (q : ev_T) (u : mm_T) : va_D (fun a => q.1 ≤ a) (mm_ws q u) := by
  refine ⟨fun i j x y hi hj hxy => ?_, fun k x hk => ?_⟩
  · have hi' := (List.getElem?_eq_some_iff.mp hi).1
    have hj' := (List.getElem?_eq_some_iff.mp hj).1
    have li : i < mN u := by simpa [mm_ws] using hi'
    have lj : j < mN u := by simpa [mm_ws] using hj'
    rw [mm_at li] at hi
    rw [mm_at lj] at hj
    cases hi
    cases hj
    have : q.1 + i = q.1 + j := hxy
    omega
  · have hk' := (List.getElem?_eq_some_iff.mp hk).1
    have lk : k < mN u := by simpa [mm_ws] using hk'
    rw [mm_at lk] at hk
    cases hk
    exact Nat.le_add_right _ _
theorem WD.at {q : ev_T} {u : mm_T} {H : Heap} (h : WD q u H) {i : Nat} (hi : i < mN u) : va_at q.2.1 vwCl (q.1 + i, mm_E q u i) H := h.2.1 i _ (mm_at hi)
/-- one cell is written -/
theorem WD.upd {q : ev_T} {u w : mm_T} {H H1 : Heap} {a : Nat} (h : WD q u H) (hn : mN w = mN u) (hB : mmB w) (hZ : mmZ w) (he : va_at q.2.1 vwCl (q.1 + a, mm_E q w a) H1) (ho : ∀ i, i ≠ a → mm_E q w i = mm_E q u i) (hz : H1.size = H.size) (oq : ∀ x : Nat, x ≠ q.1 + a → H1[x]? = H[x]?) : WD q w H1 := by
  refine ⟨by rw [hz, hn]; exact h.1, fun k x hk => ?_, by rw [hn]; exact h.2.2.1, hB, hZ⟩
  have hk' := (List.getElem?_eq_some_iff.mp hk).1
  have lk : k < mN w := by simpa [mm_ws] using hk'
  rw [mm_at lk] at hk
  cases hk
  by_cases hka : k = a
  · subst hka; exact he
  · rw [ho k hka]
    exact (h.at (by rw [← hn]; exact lk)).kept (oq (q.1 + k) (by omega))
/-- one cell is made -/
theorem WD.new {q : ev_T} {u w : mm_T} {H H1 : Heap} (h : WD q u H) (hn : mN w = mN u + 1) (hc : mN u < 1048576) (hB : mmB w) (hZ : mmZ w) (he : va_at q.2.1 vwCl (q.1 + mN u, mm_E q w (mN u)) H1) (ho : ∀ i, i < mN u → mm_E q w i = mm_E q u i) (hz : H1.size = H.size + 1) (oq : ∀ x : Nat, x < H.size → H1[x]? = H[x]?) : WD q w H1 := by
  refine ⟨by rw [hz, hn, h.1]; omega, fun k x hk => ?_, by rw [hn]; exact hc, hB, hZ⟩
  have hk' := (List.getElem?_eq_some_iff.mp hk).1
  have lk : k < mN w := by simpa [mm_ws] using hk'
  rw [mm_at lk] at hk
  cases hk
  by_cases hka : k = mN u
  · subst hka; exact he
  · have hlt : k < mN u := by omega
    rw [ho k hlt]
    exact (h.at hlt).kept (oq (q.1 + k) (by rw [h.1]; omega))
theorem mm_E_I {q : ev_T} {u : mm_T} {a k i : Nat} {x : Int32} (h : i ≠ a) : mm_E q (wI u a k x) i = mm_E q u i := by
  simp only [mm_E, mm_av, wI, mI, mR, mF, up2_nf h, up2_na h]
theorem mm_E_R {q : ev_T} {u : mm_T} {a k i : Nat} {x : Option Nat} (h : i ≠ a) : mm_E q (wR u a k x) i = mm_E q u i := by
  simp only [mm_E, mm_av, wR, mI, mR, mF, up2_nf h, up2_na h]
theorem mm_E_F {q : ev_T} {u : mm_T} {a k i : Nat} {x : Option Nat} (h : i ≠ a) : mm_E q (wF u a k x) i = mm_E q u i := by
  simp only [mm_E, mm_av, wF, mI, mR, mF, up2_nf h, up2_na h]
theorem mm_E_A {q : ev_T} {u : mm_T} {a i : Nat} {f : Nat → Int32} (h : i ≠ a) : mm_E q (wA u a f) i = mm_E q u i := by
  simp only [mm_E, mm_av, wA, mI, mR, mF, if_neg h]
theorem mm_ob {q : ev_T} {u : mm_T} {i ci : Nat} (h : kdT i = .inl ci) : mm_E q u i = .inr (ci, (List.range (nfT ci)).map (fun k => ev_v q (mm_av u ci i k))) := by simp only [mm_E, h]
theorem mm_ai {q : ev_T} {u : mm_T} {i t len : Nat} (h : kdT i = .inr (t, len)) (ht : t < 3) : mm_E q u i = .inl (q.2.2.1 t, len, .inl (mI u i)) := by simp only [mm_E, h, if_pos ht]
theorem mm_ar {q : ev_T} {u : mm_T} {i t len : Nat} (h : kdT i = .inr (t, len)) (ht : ¬ t < 3) : mm_E q u i = .inl (q.2.2.1 t, len, .inr (.inr (.inr (.inr (fun j => (mR u i j).map (ev_ad q)))))) := by simp only [mm_E, h, if_neg ht]
theorem vp_V_map (f : Nat → Value) {n k : Nat} (h : k < n) : vp_V ((List.range n).map f) k = f k := by
  simp [vp_V, List.getD_eq_getElem?_getD, List.getElem?_map, List.getElem?_range h]
/-- the locals -/
def lh (q : ev_T) (nL : Nat) (la : List (Option Value)) (ls : Array Slot) : Prop := ls.size = nL ∧ la.length = nL ∧ lv_wf ls ∧ ∀ (k : Nat) (v : Value), la[k]? = some (some v) → ls[k]? = some (.val (ev_v q v))
def clr (o : Option Value) : Option Value := match o with
  | some (.long _) => none
  | some (.double _) => none
  | w => w
def st1 (la : List (Option Value)) (i : Nat) (v : Value) : List (Option Value) := (List.range la.length).map (fun k => if k = i then some v else if k + 1 = i then clr (la.getD k none) else la.getD k none)
def st2 (la : List (Option Value)) (i : Nat) (v : Value) : List (Option Value) := (List.range la.length).map (fun k => if k = i then some v else if k = i + 1 then none else if k + 1 = i then clr (la.getD k none) else la.getD k none)
theorem clr_some {o : Option Value} {v : Value} (h : clr o = some v) : o = some v ∧ ¬ v.category = 2 := by
  cases o with
  | none => cases h
  | some w => cases w <;> first | (cases h; exact ⟨rfl, by simp [Value.category]⟩) | (cases h)
def lh_all (ls : Array Slot) : List (Nat × Value) := (List.range ls.size).filterMap (fun k => match (ls[k]? : Option Slot) with
  | some (Slot.val w) => some (k, w)
  | _ => none)
theorem lh_all_mem {ls : Array Slot} {k : Nat} {w : Value} (h : ls[k]? = some (.val w)) : (k, w) ∈ lh_all ls := by
  refine List.mem_filterMap.mpr ⟨k, List.mem_range.mpr (Array.getElem?_eq_some_iff.mp h).1, ?_⟩
  simp only [h]
theorem lh_all_has {q : ev_T} {nL : Nat} {la : List (Option Value)} {ls : Array Slot} (h : lh q nL la ls) : lv_has ls nL (lh_all ls) := by
  refine ⟨h.1, h.2.2.1, fun x hx => ?_⟩
  obtain ⟨k, -, hk⟩ := List.mem_filterMap.mp hx
  cases hs : ls[k]? with
  | none => simp only [hs] at hk; cases hk
  | some z =>
    cases z with
    | val w => simp only [hs] at hk; cases hk; exact hs
    | _ => simp only [hs] at hk; cases hk
theorem lh_st1 {q : ev_T} {nL : Nat} {la : List (Option Value)} {ls ls' : Array Slot} {i : Nat} {v : Value} (h : lh q nL la ls) (h' : lv_has ls' nL ((i, ev_v q v) :: (lh_all ls).filter (fun z => !(z.1 == i) && !(z.1 + 1 == i && z.2.category == 2)))) : lh q nL (st1 la i v) ls' := by
  refine ⟨h'.1, by simp only [st1, List.length_map, List.length_range]; exact h.2.1, h'.2.1, fun k w hk => ?_⟩
  have hlt : k < la.length := by
    have := (List.getElem?_eq_some_iff.mp hk).1
    simpa [st1] using this
  simp only [st1, List.getElem?_map, List.getElem?_range hlt, Option.map_some, Option.some.injEq] at hk
  by_cases h1 : k = i
  · rw [if_pos h1] at hk
    cases hk
    subst h1
    exact h'.2.2 (k, ev_v q v) List.mem_cons_self
  · rw [if_neg h1] at hk
    have key : la.getD k none = some w → (k + 1 = i → ¬ w.category = 2) → ls'[k]? = some (.val (ev_v q w)) := fun hw hc => by
      have hg : la[k]? = some (some w) := by
        rw [List.getD_eq_getElem?_getD, List.getElem?_eq_getElem hlt, Option.getD_some] at hw
        rw [List.getElem?_eq_getElem hlt, hw]
      have hm := lh_all_mem (h.2.2.2 k w hg)
      refine h'.2.2 (k, ev_v q w) (List.mem_cons_of_mem _ (List.mem_filter.mpr ⟨hm, ?_⟩))
      by_cases h2 : k + 1 = i
      · simp [h1, h2, ev_cat, hc h2]
      · simp [h1, h2]
    by_cases h2 : k + 1 = i
    · rw [if_pos h2] at hk
      obtain ⟨e1, e2⟩ := clr_some hk
      exact key e1 fun _ => e2
    · rw [if_neg h2] at hk
      exact key hk fun z => absurd z h2
theorem lh_st2 {q : ev_T} {nL : Nat} {la : List (Option Value)} {ls ls' : Array Slot} {i : Nat} {v : Value} (h : lh q nL la ls) (h' : lv_has ls' nL ((i, ev_v q v) :: (lh_all ls).filter (fun z => !(z.1 == i) && (!(z.1 == i + 1) && !(z.1 + 1 == i && z.2.category == 2))))) : lh q nL (st2 la i v) ls' := by
  refine ⟨h'.1, by simp only [st2, List.length_map, List.length_range]; exact h.2.1, h'.2.1, fun k w hk => ?_⟩
  have hlt : k < la.length := by
    have := (List.getElem?_eq_some_iff.mp hk).1
    simpa [st2] using this
  simp only [st2, List.getElem?_map, List.getElem?_range hlt, Option.map_some, Option.some.injEq] at hk
  by_cases h1 : k = i
  · rw [if_pos h1] at hk
    cases hk
    subst h1
    exact h'.2.2 (k, ev_v q v) List.mem_cons_self
  · rw [if_neg h1] at hk
    by_cases h3 : k = i + 1
    · rw [if_pos h3] at hk
      cases hk
    · rw [if_neg h3] at hk
      have key : la.getD k none = some w → (k + 1 = i → ¬ w.category = 2) → ls'[k]? = some (.val (ev_v q w)) := fun hw hc => by
        have hg : la[k]? = some (some w) := by
          rw [List.getD_eq_getElem?_getD, List.getElem?_eq_getElem hlt, Option.getD_some] at hw
          rw [List.getElem?_eq_getElem hlt, hw]
        have hm := lh_all_mem (h.2.2.2 k w hg)
        refine h'.2.2 (k, ev_v q w) (List.mem_cons_of_mem _ (List.mem_filter.mpr ⟨hm, ?_⟩))
        by_cases h2 : k + 1 = i
        · simp [h1, h2, h3, ev_cat, hc h2]
        · simp [h1, h2, h3]
      by_cases h2 : k + 1 = i
      · rw [if_pos h2] at hk
        obtain ⟨e1, e2⟩ := clr_some hk
        exact key e1 fun _ => e2
      · rw [if_neg h2] at hk
        exact key hk fun z => absurd z h2
/-- fewer locals are known -/
def lle : List (Option Value) → List (Option Value) → Prop
  | [], [] => True
  | none :: r, _ :: t => lle r t
  | some v :: r, some w :: t => v = w ∧ lle r t
  | _, _ => False
theorem lle_get : ∀ {a b : List (Option Value)}, lle a b → a.length = b.length ∧ ∀ (k : Nat) (v : Value), a[k]? = some (some v) → b[k]? = some (some v)
  | [], [], _ => ⟨rfl, fun _ _ h => h⟩
  | [], _ :: _, h => h.elim
  | none :: r, [], h => h.elim
  | some v :: r, [], h => h.elim
  | none :: r, x :: t, h => by
    obtain ⟨e, f⟩ := lle_get (a := r) (b := t) (by cases x <;> exact h)
    refine ⟨by simp [e], fun k v hk => ?_⟩
    cases k with
    | zero => cases hk
    | succ k => exact f k v hk
  | some v :: r, none :: t, h => h.elim
  | some v :: r, some w :: t, h => by
    obtain ⟨e, f⟩ := lle_get (a := r) (b := t) h.2
    refine ⟨by simp [e], fun k z hk => ?_⟩
    cases k with
    | zero => rw [← h.1]; exact hk
    | succ k => exact f k z hk
theorem lh.le {q : ev_T} {nL : Nat} {la lb : List (Option Value)} {ls : Array Slot} (h : lh q nL lb ls) (hl : lle la lb) : lh q nL la ls :=
  ⟨h.1, (lle_get hl).1.trans h.2.1, h.2.2.1, fun k v hk => h.2.2.2 k v ((lle_get hl).2 k v hk)⟩
def sx_B : List (List Int32) := [[100, 101, 102, 105, 110, 101], [112, 117, 115, 104, 100, 101, 102], [117, 110, 100, 101, 102, 105, 110, 101], [112, 111, 112, 100, 101, 102], [105, 102, 100, 101, 102], [105, 102, 101, 108, 115, 101], [101, 118, 97, 108], [105, 110, 99, 114], [100, 101, 99, 114], [108, 101, 110], [105, 110, 100, 101, 120], [115, 117, 98, 115, 116, 114], [115, 104, 105, 102, 116], [100, 110, 108], [100, 105, 118, 101, 114, 116], [117, 110, 100, 105, 118, 101, 114, 116], [99, 104, 97, 110, 103, 101, 113, 117, 111, 116, 101], [124, 124], [38, 38], [61, 61], [33, 61], [60, 61], [62, 61], [60, 60], [62, 62], [124], [94], [38], [60], [62], [43], [45], [42], [47], [37], [126], [33], [40]]
def sx_N : List String := ["define", "pushdef", "undefine", "popdef", "ifdef", "ifelse", "eval", "incr", "decr", "len", "index", "substr", "shift", "dnl", "divert", "undivert", "changequote", "||", "&&", "==", "!=", "<=", ">=", "<<", ">>", "|", "^", "&", "<", ">", "+", "-", "*", "/", "%", "~", "!", "("]
def op_N : List String := ["OR", "AND", "EQUAL", "UNEQUAL", "AT_MOST", "AT_LEAST", "SHIFT_LEFT", "SHIFT_RIGHT", "BIT_OR", "BIT_XOR", "BIT_AND", "LESS", "MORE", "ADD", "SUBTRACT", "MULTIPLY", "DIVIDE", "REMAINDER", "KEEP", "NEGATE", "INVERT", "NOT", "PARENTHESIS"]
def op_S : List Nat := [17, 18, 19, 20, 21, 22, 23, 24, 25, 26, 27, 28, 29, 30, 31, 32, 33, 34, 30, 31, 35, 36, 37]
def op_T : List Int32 := [1, 2, 6, 6, 7, 7, 8, 8, 3, 4, 5, 7, 7, 9, 9, 10, 10, 10, 11, 11, 11, 11, 0]
def sw_B : List Int32 := [1, 2, 3, 4, 5, 6, 7, 8, 9, 10, 11, 12, 13, 14, 15, 16, 17]
def sw_O : List Int32 := [4, 5, 9, 10, 13, 14, 15, 16, 6, 7, 8, 11, 12, 17, 18, 19, 20, 21, 0, 1, 2, 3, 0]
def rf_K : List Nat := [154, 156, 158, 160, 162, 164, 166, 168, 170, 172, 174, 176, 178, 180, 182, 184, 186]
/-- what stands still: the constants of the two kinds of words, their texts, the tables -/
def SF (q : ev_T) (U : State) (H : Heap) : Prop :=
  (∀ i, i < 17 → va_O "RescanMill$BuiltIn" (ev_ad q (1048576 + i)) (fun a => q.1 ≤ a) U H ∧ va_OF "java/lang/Enum" "ordinal" "I" (.int (nI i)) (ev_ad q (1048576 + i)) (fun a => q.1 ≤ a) U H ∧ va_OF "RescanMill$BuiltIn" "starred" "Z" (.int (if i < 13 then 1 else 0)) (ev_ad q (1048576 + i)) (fun a => q.1 ≤ a) U H ∧ va_OF "RescanMill$BuiltIn" "spelled" "Ljava/lang/String;" (.ref (ev_ad q (1048640 + i))) (ev_ad q (1048576 + i)) (fun a => q.1 ≤ a) U H) ∧
  (∀ i, i < 23 → va_O "RescanMill$Operator" (ev_ad q (1048600 + i)) (fun a => q.1 ≤ a) U H ∧ va_OF "java/lang/Enum" "ordinal" "I" (.int (nI i)) (ev_ad q (1048600 + i)) (fun a => q.1 ≤ a) U H ∧ va_OF "RescanMill$Operator" "strength" "I" (.int (op_T.getD i 0)) (ev_ad q (1048600 + i)) (fun a => q.1 ≤ a) U H ∧ va_OF "RescanMill$Operator" "sign" "Ljava/lang/String;" (.ref (ev_ad q (1048640 + op_S.getD i 0))) (ev_ad q (1048600 + i)) (fun a => q.1 ≤ a) U H ∧ va_Z "RescanMill$Operator" (op_N.getD i "") "LRescanMill$Operator;" (.ref (ev_ad q (1048600 + i))) (fun a => q.1 ≤ a) U H) ∧
  (∀ i, i < 38 → va_O "java/lang/String" (ev_ad q (1048640 + i)) (fun a => q.1 ≤ a) U H ∧ va_OF "java/lang/String" "coder" "B" (.int 0) (ev_ad q (1048640 + i)) (fun a => q.1 ≤ a) U H ∧ va_OF "java/lang/String" "value" "[B" (.ref (ev_ad q (1048700 + i))) (ev_ad q (1048640 + i)) (fun a => q.1 ≤ a) U H ∧ va_T .byte (ev_ad q (1048700 + i)) (sx_B.getD i []).length (fun j => .int ((sx_B.getD i []).getD j 0)) (fun a => q.1 ≤ a) U H) ∧
  (va_Z "RescanMill" "BUILT_INS" "[LRescanMill$BuiltIn;" (.ref (ev_ad q 1048750)) (fun a => q.1 ≤ a) U H ∧ va_T (.object "RescanMill$BuiltIn") (ev_ad q 1048750) 17 (fun j => .ref (ev_ad q (1048576 + j))) (fun a => q.1 ≤ a) U H) ∧
  (va_Z "RescanMill" "OPERATORS" "[LRescanMill$Operator;" (.ref (ev_ad q 1048751)) (fun a => q.1 ≤ a) U H ∧ va_T (.object "RescanMill$Operator") (ev_ad q 1048751) 23 (fun j => .ref (ev_ad q (1048600 + j))) (fun a => q.1 ≤ a) U H) ∧
  (va_Z "RescanMill$1" "$SwitchMap$RescanMill$BuiltIn" "[I" (.ref (ev_ad q 1048752)) (fun a => q.1 ≤ a) U H ∧ va_T .int (ev_ad q 1048752) 17 (fun j => .int (sw_B.getD j 0)) (fun a => q.1 ≤ a) U H) ∧
  (va_Z "RescanMill$1" "$SwitchMap$RescanMill$Operator" "[I" (.ref (ev_ad q 1048753)) (fun a => q.1 ≤ a) U H ∧ va_T .int (ev_ad q 1048753) 23 (fun j => .int (sw_O.getD j 0)) (fun a => q.1 ≤ a) U H) ∧
  (va_Z "java/lang/String" "COMPACT_STRINGS" "Z" (.int 1) (fun a => q.1 ≤ a) U H ∧ (va_Z "jdk/internal/util/Preconditions" "SIOOBE_FORMATTER" "Ljava/util/function/BiFunction;" .null (fun a => q.1 ≤ a) U H ∨ va_Z "jdk/internal/util/Preconditions" "SIOOBE_FORMATTER" "Ljava/util/function/BiFunction;" (.ref (ev_ad q 1048754)) (fun a => q.1 ≤ a) U H)) ∧
  (∀ i, i < 17 → vk_R "RescanMillModel" (rf_K.getD i 0) (sx_N.getD i "") (ev_ad q (1048640 + i)) U)
theorem SF_to {q : ev_T} {s U : State} {H : Heap} (h : SF q s s.heap) (hW : s.WarmedH U.vm) (hq : ∀ a : Nat, a < s.heap.size → ¬ q.1 ≤ a → H[a]? = s.heap[a]?) : SF q U H := by
  obtain ⟨a1, a2, a3, a4, a5, a6, a7, a8, a9⟩ := h
  have hv := hW.alike
  refine ⟨fun i hi => ?_, fun i hi => ?_, fun i hi => ?_, ⟨(va_Z.moved hv a4.1).kept hq, (va_T.moved hv a4.2).kept hq⟩, ⟨(va_Z.moved hv a5.1).kept hq, (va_T.moved hv a5.2).kept hq⟩, ⟨(va_Z.moved hv a6.1).kept hq, (va_T.moved hv a6.2).kept hq⟩, ⟨(va_Z.moved hv a7.1).kept hq, (va_T.moved hv a7.2).kept hq⟩, ⟨(va_Z.moved hv a8.1).kept hq, a8.2.imp (fun z => (va_Z.moved hv z).kept hq) (fun z => (va_Z.moved hv z).kept hq)⟩, fun i hi => (a9 i hi).warm hW⟩
  · obtain ⟨b1, b2, b3, b4⟩ := a1 i hi
    exact ⟨(va_O.moved hv b1).kept hq, (va_OF.moved hv b2).kept hq, (va_OF.moved hv b3).kept hq, (va_OF.moved hv b4).kept hq⟩
  · obtain ⟨b1, b2, b3, b4, b5⟩ := a2 i hi
    exact ⟨(va_O.moved hv b1).kept hq, (va_OF.moved hv b2).kept hq, (va_OF.moved hv b3).kept hq, (va_OF.moved hv b4).kept hq, (va_Z.moved hv b5).kept hq⟩
  · obtain ⟨b1, b2, b3, b4⟩ := a3 i hi
    exact ⟨(va_O.moved hv b1).kept hq, (va_OF.moved hv b2).kept hq, (va_OF.moved hv b3).kept hq, (va_T.moved hv b4).kept hq⟩
/-- what the tables say, and what stands still -/
def Bk (q : ev_T) (U : State) : Prop := va_K q.2.1 vwCl (ev_tys q) U ∧ (∀ w ∈ nstT, va_Nw w U) ∧ SF q U U.heap
def Bw (q : ev_T) (u : mm_T) (U : State) : Prop := WD q u U.heap ∧ Bk q U
def Qw (q : ev_T) (Q : Option Value → mm_T → Prop) : Array Value → State → Outcome → State → Prop := fun _ st oc t => (∃ (v : Option Value) (u : mm_T), oc = .returned (v.map (ev_v q)) ∧ Q v u ∧ WD q u t.heap) ∧ va_F (fun a => q.1 ≤ a) st t
def Cx (p : Program) (s : State) (m : MethodId) (args : Array Value) (c : Code) (cc : ByteArray) (nL : Nat) (own : String) (q : ev_T) : Prop :=
  p.tables.exec = Jvm.exec ∧ c.code = cc ∧ c.maxLocals = nL ∧ s.vm.findClass own = some m.cls ∧ (∀ w ∈ tbG, w.before args s = true) ∧ Bk q s ∧ q.1 ≤ s.heap.size
def Vv (p : Program) (l : Launch) (e : Env) (R : Room) (s : State) (m : MethodId) (args : Array Value) (below : List Frame) (meth : Method) (c : Code) (nL : Nat) (q : ev_T) (Qf : State → Prop) (pc : Nat) (la : List (Option Value)) (st : List Value) (u : mm_T) : Prop :=
  ∀ (ls : Array Slot) (H : Heap) (locs : List Loc) (cells slots : Nat), lh q nL la ls → WD q u H → va_S (fun a => q.1 ≤ a) s.heap H locs → cells + u.1 ≤ R.cells → slots + u.2.1 ≤ R.slots →
    W p l e R s m args below meth c H locs cells slots Qf (F0 m pc ls (st.map (ev_v q)))
section VK
variable {p : Program} {l : Launch} {e : Env} {R : Room} {s : State} {m : MethodId} {args : Array Value} {below : List Frame} {meth : Method} {c : Code} {nL : Nat} {q : ev_T} {Qf : State → Prop} {pc : Nat} {la : List (Option Value)} {st : List Value} {u : mm_T} {cc : ByteArray} {own : String}
theorem v_weak {lb : List (Option Value)} (hl : lle la lb) (k : Vv p l e R s m args below meth c nL q Qf pc la st u) : Vv p l e R s m args below meth c nL q Qf pc lb st u :=
  fun ls H locs cells slots h1 h2 h3 h4 h5 => k ls H locs cells slots (h1.le hl) h2 h3 h4 h5

theorem v_iconst (X : Cx p s m args c cc nL own q) {n : Int} {v : Int32} (hd : decode cc pc = .ok (.iconst n, 1)) (hv : Int32.ofInt n = v) (k : Vv p l e R s m args below meth c nL q Qf (pc + 1) la (.int v :: st) u) : Vv p l e R s m args below meth c nL q Qf pc la st u :=
  fun ls H locs cells slots h1 h2 h3 h4 h5 => lv_iconst X.1 X.2.1 hd hv (k ls H locs cells slots h1 h2 h3 h4 h5)
theorem v_bipush (X : Cx p s m args c cc nL own q) {n : Int} {v : Int32} (hd : decode cc pc = .ok (.bipush n, 2)) (hv : (Int8.ofInt n).toInt32 = v) (k : Vv p l e R s m args below meth c nL q Qf (pc + 2) la (.int v :: st) u) : Vv p l e R s m args below meth c nL q Qf pc la st u :=
  fun ls H locs cells slots h1 h2 h3 h4 h5 => lv_bipush X.1 X.2.1 hd hv (k ls H locs cells slots h1 h2 h3 h4 h5)
theorem v_sipush (X : Cx p s m args c cc nL own q) {n : Int} {v : Int32} (hd : decode cc pc = .ok (.sipush n, 3)) (hv : (Int16.ofInt n).toInt32 = v) (k : Vv p l e R s m args below meth c nL q Qf (pc + 3) la (.int v :: st) u) : Vv p l e R s m args below meth c nL q Qf pc la st u :=
  fun ls H locs cells slots h1 h2 h3 h4 h5 => lv_sipush X.1 X.2.1 hd hv (k ls H locs cells slots h1 h2 h3 h4 h5)
theorem v_lconst (X : Cx p s m args c cc nL own q) {n : Fin 2} {v : Int64} (hd : decode cc pc = .ok (.lconst n, 1)) (hv : Int64.ofNat (n : Nat) = v) (k : Vv p l e R s m args below meth c nL q Qf (pc + 1) la (.long v :: st) u) : Vv p l e R s m args below meth c nL q Qf pc la st u :=
  fun ls H locs cells slots h1 h2 h3 h4 h5 => lv_lconst X.1 X.2.1 hd hv (k ls H locs cells slots h1 h2 h3 h4 h5)
theorem v_null (X : Cx p s m args c cc nL own q)  (hd : decode cc pc = .ok (.aconst_null, 1)) (k : Vv p l e R s m args below meth c nL q Qf (pc + 1) la (.null :: st) u) : Vv p l e R s m args below meth c nL q Qf pc la st u :=
  fun ls H locs cells slots h1 h2 h3 h4 h5 => lv_null X.1 X.2.1 hd (k ls H locs cells slots h1 h2 h3 h4 h5)
theorem v_ldc (X : Cx p s m args c cc nL own q) {i : Nat} {v : Int32} (hd : decode cc pc = .ok (.ldc i, 2)) (hc : Cond.constant own i v ∈ tbG) (k : Vv p l e R s m args below meth c nL q Qf (pc + 2) la (.int v :: st) u) : Vv p l e R s m args below meth c nL q Qf pc la st u :=
  fun ls H locs cells slots h1 h2 h3 h4 h5 => lv_ldc X.1 X.2.1 X.2.2.2.1 (X.2.2.2.2.1 _ hc) hd (k ls H locs cells slots h1 h2 h3 h4 h5)
theorem v_ldcw (X : Cx p s m args c cc nL own q) {i : Nat} {v : Int32} (hd : decode cc pc = .ok (.ldc_w i, 3)) (hc : Cond.constant own i v ∈ tbG) (k : Vv p l e R s m args below meth c nL q Qf (pc + 3) la (.int v :: st) u) : Vv p l e R s m args below meth c nL q Qf pc la st u :=
  fun ls H locs cells slots h1 h2 h3 h4 h5 => lv_ldcw X.1 X.2.1 X.2.2.2.1 (X.2.2.2.2.1 _ hc) hd (k ls H locs cells slots h1 h2 h3 h4 h5)
theorem v_ldc2 (X : Cx p s m args c cc nL own q) {i : Nat} {v : Int64} (hd : decode cc pc = .ok (.ldc2_w i, 3)) (hc : Cond.constantLong own i v ∈ tbG) (k : Vv p l e R s m args below meth c nL q Qf (pc + 3) la (.long v :: st) u) : Vv p l e R s m args below meth c nL q Qf pc la st u :=
  fun ls H locs cells slots h1 h2 h3 h4 h5 => lv_ldc2 X.1 X.2.1 X.2.2.2.1 (X.2.2.2.2.1 _ hc) hd (k ls H locs cells slots h1 h2 h3 h4 h5)
theorem v_iload (X : Cx p s m args c cc nL own q) {i : Nat} {x : Int32} (hd : decode cc pc = .ok (.iload i, 2)) (hl : la[i]? = some (some (.int x))) (k : Vv p l e R s m args below meth c nL q Qf (pc + 2) la (.int x :: st) u) : Vv p l e R s m args below meth c nL q Qf pc la st u :=
  fun ls H locs cells slots h1 h2 h3 h4 h5 => lv_iload X.1 X.2.1 hd (h1.2.2.2 i _ hl) (k ls H locs cells slots h1 h2 h3 h4 h5)
theorem v_iload_n (X : Cx p s m args c cc nL own q) {n : Fin 4} {x : Int32} (hd : decode cc pc = .ok (.iload_n n, 1)) (hl : la[(n : Nat)]? = some (some (.int x))) (k : Vv p l e R s m args below meth c nL q Qf (pc + 1) la (.int x :: st) u) : Vv p l e R s m args below meth c nL q Qf pc la st u :=
  fun ls H locs cells slots h1 h2 h3 h4 h5 => lv_iload_n X.1 X.2.1 hd rfl (h1.2.2.2 _ _ hl) (k ls H locs cells slots h1 h2 h3 h4 h5)
theorem v_lload (X : Cx p s m args c cc nL own q) {i : Nat} {x : Int64} (hd : decode cc pc = .ok (.lload i, 2)) (hl : la[i]? = some (some (.long x))) (k : Vv p l e R s m args below meth c nL q Qf (pc + 2) la (.long x :: st) u) : Vv p l e R s m args below meth c nL q Qf pc la st u :=
  fun ls H locs cells slots h1 h2 h3 h4 h5 => lv_lload X.1 X.2.1 hd (h1.2.2.2 i _ hl) (k ls H locs cells slots h1 h2 h3 h4 h5)
theorem v_lload_n (X : Cx p s m args c cc nL own q) {n : Fin 4} {x : Int64} (hd : decode cc pc = .ok (.lload_n n, 1)) (hl : la[(n : Nat)]? = some (some (.long x))) (k : Vv p l e R s m args below meth c nL q Qf (pc + 1) la (.long x :: st) u) : Vv p l e R s m args below meth c nL q Qf pc la st u :=
  fun ls H locs cells slots h1 h2 h3 h4 h5 => lv_lload_n X.1 X.2.1 hd rfl (h1.2.2.2 _ _ hl) (k ls H locs cells slots h1 h2 h3 h4 h5)
theorem v_aload (X : Cx p s m args c cc nL own q) {i x : Nat} (hd : decode cc pc = .ok (.aload i, 2)) (hl : la[i]? = some (some (.ref x))) (k : Vv p l e R s m args below meth c nL q Qf (pc + 2) la (.ref x :: st) u) : Vv p l e R s m args below meth c nL q Qf pc la st u :=
  fun ls H locs cells slots h1 h2 h3 h4 h5 => lv_aload X.1 X.2.1 hd (h1.2.2.2 i _ hl) (k ls H locs cells slots h1 h2 h3 h4 h5)
theorem v_aload_n (X : Cx p s m args c cc nL own q) {n : Fin 4} {x : Nat} (hd : decode cc pc = .ok (.aload_n n, 1)) (hl : la[(n : Nat)]? = some (some (.ref x))) (k : Vv p l e R s m args below meth c nL q Qf (pc + 1) la (.ref x :: st) u) : Vv p l e R s m args below meth c nL q Qf pc la st u :=
  fun ls H locs cells slots h1 h2 h3 h4 h5 => lv_aload_n X.1 X.2.1 hd rfl (h1.2.2.2 _ _ hl) (k ls H locs cells slots h1 h2 h3 h4 h5)
theorem v_aload_nN (X : Cx p s m args c cc nL own q) {n : Fin 4} (hd : decode cc pc = .ok (.aload_n n, 1)) (hl : la[(n : Nat)]? = some (some .null)) (k : Vv p l e R s m args below meth c nL q Qf (pc + 1) la (.null :: st) u) : Vv p l e R s m args below meth c nL q Qf pc la st u :=
  fun ls H locs cells slots h1 h2 h3 h4 h5 => lv_aload_nN X.1 X.2.1 hd rfl (h1.2.2.2 _ _ hl) (k ls H locs cells slots h1 h2 h3 h4 h5)
theorem v_istore (X : Cx p s m args c cc nL own q) {i : Nat} {x : Int32} {lb : List (Option Value)} (hd : decode cc pc = .ok (.istore i, 2)) (hn : i < nL) (hs : st1 la i (.int x) = lb) (k : Vv p l e R s m args below meth c nL q Qf (pc + 2) lb st u) : Vv p l e R s m args below meth c nL q Qf pc la (.int x :: st) u :=
  fun ls H locs cells slots h1 h2 h3 h4 h5 => lv_istore X.1 X.2.1 hd (lh_all_has h1) hn rfl (fun ls' hl' => k ls' H locs cells slots (hs ▸ lh_st1 h1 hl') h2 h3 h4 h5)
theorem v_istore_n (X : Cx p s m args c cc nL own q) {n : Fin 4} {x : Int32} {lb : List (Option Value)} (hd : decode cc pc = .ok (.istore_n n, 1)) (hn : (n : Nat) < nL) (hs : st1 la (n : Nat) (.int x) = lb) (k : Vv p l e R s m args below meth c nL q Qf (pc + 1) lb st u) : Vv p l e R s m args below meth c nL q Qf pc la (.int x :: st) u :=
  fun ls H locs cells slots h1 h2 h3 h4 h5 => lv_istore_n X.1 X.2.1 hd rfl (lh_all_has h1) hn rfl (fun ls' hl' => k ls' H locs cells slots (hs ▸ lh_st1 h1 hl') h2 h3 h4 h5)
theorem v_astore (X : Cx p s m args c cc nL own q) {i : Nat} {x : Nat} {lb : List (Option Value)} (hd : decode cc pc = .ok (.astore i, 2)) (hn : i < nL) (hs : st1 la i (.ref x) = lb) (k : Vv p l e R s m args below meth c nL q Qf (pc + 2) lb st u) : Vv p l e R s m args below meth c nL q Qf pc la (.ref x :: st) u :=
  fun ls H locs cells slots h1 h2 h3 h4 h5 => lv_astore X.1 X.2.1 hd (lh_all_has h1) hn rfl (fun ls' hl' => k ls' H locs cells slots (hs ▸ lh_st1 h1 hl') h2 h3 h4 h5)
theorem v_astore_n (X : Cx p s m args c cc nL own q) {n : Fin 4} {x : Nat} {lb : List (Option Value)} (hd : decode cc pc = .ok (.astore_n n, 1)) (hn : (n : Nat) < nL) (hs : st1 la (n : Nat) (.ref x) = lb) (k : Vv p l e R s m args below meth c nL q Qf (pc + 1) lb st u) : Vv p l e R s m args below meth c nL q Qf pc la (.ref x :: st) u :=
  fun ls H locs cells slots h1 h2 h3 h4 h5 => lv_astore_n X.1 X.2.1 hd rfl (lh_all_has h1) hn rfl (fun ls' hl' => k ls' H locs cells slots (hs ▸ lh_st1 h1 hl') h2 h3 h4 h5)
theorem v_lstore (X : Cx p s m args c cc nL own q) {i : Nat} {x : Int64} {lb : List (Option Value)} (hd : decode cc pc = .ok (.lstore i, 2)) (hn : i + 1 < nL) (hs : st2 la i (.long x) = lb) (k : Vv p l e R s m args below meth c nL q Qf (pc + 2) lb st u) : Vv p l e R s m args below meth c nL q Qf pc la (.long x :: st) u :=
  fun ls H locs cells slots h1 h2 h3 h4 h5 => lv_lstore X.1 X.2.1 hd (lh_all_has h1) hn rfl (fun ls' hl' => k ls' H locs cells slots (hs ▸ lh_st2 h1 hl') h2 h3 h4 h5)
theorem v_lstore_n (X : Cx p s m args c cc nL own q) {n : Fin 4} {x : Int64} {lb : List (Option Value)} (hd : decode cc pc = .ok (.lstore_n n, 1)) (hn : (n : Nat) + 1 < nL) (hs : st2 la (n : Nat) (.long x) = lb) (k : Vv p l e R s m args below meth c nL q Qf (pc + 1) lb st u) : Vv p l e R s m args below meth c nL q Qf pc la (.long x :: st) u :=
  fun ls H locs cells slots h1 h2 h3 h4 h5 => lv_lstore_n X.1 X.2.1 hd rfl (lh_all_has h1) hn rfl (fun ls' hl' => k ls' H locs cells slots (hs ▸ lh_st2 h1 hl') h2 h3 h4 h5)
theorem v_iinc (X : Cx p s m args c cc nL own q) {i : Nat} {n : Int} {x v : Int32} {lb : List (Option Value)} (hd : decode cc pc = .ok (.iinc i n, 3)) (hl : la[i]? = some (some (.int x))) (hv : x + Int32.ofInt n = v) (hn : i < nL) (hs : st1 la i (.int v) = lb) (k : Vv p l e R s m args below meth c nL q Qf (pc + 3) lb st u) : Vv p l e R s m args below meth c nL q Qf pc la st u := by
  intro ls H locs cells slots h1 h2 h3 h4 h5
  obtain ⟨kk, hkk⟩ := List.getElem?_of_mem (lh_all_mem (h1.2.2.2 i _ hl))
  exact lv_iinc X.1 X.2.1 hd (lh_all_has h1) hkk hv hn rfl (fun ls' hl' => k ls' H locs cells slots (hs ▸ lh_st1 (v := .int v) h1 hl') h2 h3 h4 h5)
theorem v_iadd (X : Cx p s m args c cc nL own q) {x y : Int32} (hd : decode cc pc = .ok (.iadd, 1)) (k : Vv p l e R s m args below meth c nL q Qf (pc + 1) la (.int (x + y) :: st) u) : Vv p l e R s m args below meth c nL q Qf pc la (.int y :: .int x :: st) u :=
  fun ls H locs cells slots h1 h2 h3 h4 h5 => lv_iadd X.1 X.2.1 hd (k ls H locs cells slots h1 h2 h3 h4 h5)
theorem v_isub (X : Cx p s m args c cc nL own q) {x y : Int32} (hd : decode cc pc = .ok (.isub, 1)) (k : Vv p l e R s m args below meth c nL q Qf (pc + 1) la (.int (x - y) :: st) u) : Vv p l e R s m args below meth c nL q Qf pc la (.int y :: .int x :: st) u :=
  fun ls H locs cells slots h1 h2 h3 h4 h5 => lv_isub X.1 X.2.1 hd (k ls H locs cells slots h1 h2 h3 h4 h5)
theorem v_imul (X : Cx p s m args c cc nL own q) {x y : Int32} (hd : decode cc pc = .ok (.imul, 1)) (k : Vv p l e R s m args below meth c nL q Qf (pc + 1) la (.int (x * y) :: st) u) : Vv p l e R s m args below meth c nL q Qf pc la (.int y :: .int x :: st) u :=
  fun ls H locs cells slots h1 h2 h3 h4 h5 => lv_imul X.1 X.2.1 hd (k ls H locs cells slots h1 h2 h3 h4 h5)
theorem v_iand (X : Cx p s m args c cc nL own q) {x y : Int32} (hd : decode cc pc = .ok (.iand, 1)) (k : Vv p l e R s m args below meth c nL q Qf (pc + 1) la (.int (x &&& y) :: st) u) : Vv p l e R s m args below meth c nL q Qf pc la (.int y :: .int x :: st) u :=
  fun ls H locs cells slots h1 h2 h3 h4 h5 => lv_iand X.1 X.2.1 hd (k ls H locs cells slots h1 h2 h3 h4 h5)
theorem v_ior (X : Cx p s m args c cc nL own q) {x y : Int32} (hd : decode cc pc = .ok (.ior, 1)) (k : Vv p l e R s m args below meth c nL q Qf (pc + 1) la (.int (x ||| y) :: st) u) : Vv p l e R s m args below meth c nL q Qf pc la (.int y :: .int x :: st) u :=
  fun ls H locs cells slots h1 h2 h3 h4 h5 => lv_ior X.1 X.2.1 hd (k ls H locs cells slots h1 h2 h3 h4 h5)
theorem v_ixor (X : Cx p s m args c cc nL own q) {x y : Int32} (hd : decode cc pc = .ok (.ixor, 1)) (k : Vv p l e R s m args below meth c nL q Qf (pc + 1) la (.int (x ^^^ y) :: st) u) : Vv p l e R s m args below meth c nL q Qf pc la (.int y :: .int x :: st) u :=
  fun ls H locs cells slots h1 h2 h3 h4 h5 => lv_ixor X.1 X.2.1 hd (k ls H locs cells slots h1 h2 h3 h4 h5)
theorem v_idiv (X : Cx p s m args c cc nL own q) {x y : Int32} (hd : decode cc pc = .ok (.idiv, 1)) (hne : ¬ y = 0) (k : Vv p l e R s m args below meth c nL q Qf (pc + 1) la (.int (x / y) :: st) u) : Vv p l e R s m args below meth c nL q Qf pc la (.int y :: .int x :: st) u :=
  fun ls H locs cells slots h1 h2 h3 h4 h5 => lv_idiv X.1 X.2.1 hd hne (k ls H locs cells slots h1 h2 h3 h4 h5)
theorem v_irem (X : Cx p s m args c cc nL own q) {x y : Int32} (hd : decode cc pc = .ok (.irem, 1)) (hne : ¬ y = 0) (k : Vv p l e R s m args below meth c nL q Qf (pc + 1) la (.int (x - x / y * y) :: st) u) : Vv p l e R s m args below meth c nL q Qf pc la (.int y :: .int x :: st) u :=
  fun ls H locs cells slots h1 h2 h3 h4 h5 => lv_irem X.1 X.2.1 hd hne (k ls H locs cells slots h1 h2 h3 h4 h5)
theorem v_lrem (X : Cx p s m args c cc nL own q) {x y : Int64} (hd : decode cc pc = .ok (.lrem, 1)) (hne : ¬ y = 0) (k : Vv p l e R s m args below meth c nL q Qf (pc + 1) la (.long (x - x / y * y) :: st) u) : Vv p l e R s m args below meth c nL q Qf pc la (.long y :: .long x :: st) u :=
  fun ls H locs cells slots h1 h2 h3 h4 h5 => lv_lrem X.1 X.2.1 hd hne (k ls H locs cells slots h1 h2 h3 h4 h5)
theorem v_ishl (X : Cx p s m args c cc nL own q) {x y : Int32} (hd : decode cc pc = .ok (.ishl, 1)) (k : Vv p l e R s m args below meth c nL q Qf (pc + 1) la (.int (x <<< (y &&& 31)) :: st) u) : Vv p l e R s m args below meth c nL q Qf pc la (.int y :: .int x :: st) u :=
  fun ls H locs cells slots h1 h2 h3 h4 h5 => lv_ishl X.1 X.2.1 hd (k ls H locs cells slots h1 h2 h3 h4 h5)
theorem v_ishr (X : Cx p s m args c cc nL own q) {x y : Int32} (hd : decode cc pc = .ok (.ishr, 1)) (k : Vv p l e R s m args below meth c nL q Qf (pc + 1) la (.int (x >>> (y &&& 31)) :: st) u) : Vv p l e R s m args below meth c nL q Qf pc la (.int y :: .int x :: st) u :=
  fun ls H locs cells slots h1 h2 h3 h4 h5 => lv_ishr X.1 X.2.1 hd (k ls H locs cells slots h1 h2 h3 h4 h5)
theorem v_ineg (X : Cx p s m args c cc nL own q) {x : Int32} (hd : decode cc pc = .ok (.ineg, 1)) (k : Vv p l e R s m args below meth c nL q Qf (pc + 1) la (.int (-x) :: st) u) : Vv p l e R s m args below meth c nL q Qf pc la (.int x :: st) u :=
  fun ls H locs cells slots h1 h2 h3 h4 h5 => lv_ineg X.1 X.2.1 hd (k ls H locs cells slots h1 h2 h3 h4 h5)
theorem v_ladd (X : Cx p s m args c cc nL own q) {x y : Int64} (hd : decode cc pc = .ok (.ladd, 1)) (k : Vv p l e R s m args below meth c nL q Qf (pc + 1) la (.long (x + y) :: st) u) : Vv p l e R s m args below meth c nL q Qf pc la (.long y :: .long x :: st) u :=
  fun ls H locs cells slots h1 h2 h3 h4 h5 => lv_ladd X.1 X.2.1 hd (k ls H locs cells slots h1 h2 h3 h4 h5)
theorem v_lsub (X : Cx p s m args c cc nL own q) {x y : Int64} (hd : decode cc pc = .ok (.lsub, 1)) (k : Vv p l e R s m args below meth c nL q Qf (pc + 1) la (.long (x - y) :: st) u) : Vv p l e R s m args below meth c nL q Qf pc la (.long y :: .long x :: st) u :=
  fun ls H locs cells slots h1 h2 h3 h4 h5 => lv_lsub X.1 X.2.1 hd (k ls H locs cells slots h1 h2 h3 h4 h5)
theorem v_lmul (X : Cx p s m args c cc nL own q) {x y : Int64} (hd : decode cc pc = .ok (.lmul, 1)) (k : Vv p l e R s m args below meth c nL q Qf (pc + 1) la (.long (x * y) :: st) u) : Vv p l e R s m args below meth c nL q Qf pc la (.long y :: .long x :: st) u :=
  fun ls H locs cells slots h1 h2 h3 h4 h5 => lv_lmul X.1 X.2.1 hd (k ls H locs cells slots h1 h2 h3 h4 h5)
theorem v_land (X : Cx p s m args c cc nL own q) {x y : Int64} (hd : decode cc pc = .ok (.land, 1)) (k : Vv p l e R s m args below meth c nL q Qf (pc + 1) la (.long (x &&& y) :: st) u) : Vv p l e R s m args below meth c nL q Qf pc la (.long y :: .long x :: st) u :=
  fun ls H locs cells slots h1 h2 h3 h4 h5 => lv_land X.1 X.2.1 hd (k ls H locs cells slots h1 h2 h3 h4 h5)
theorem v_lor (X : Cx p s m args c cc nL own q) {x y : Int64} (hd : decode cc pc = .ok (.lor, 1)) (k : Vv p l e R s m args below meth c nL q Qf (pc + 1) la (.long (x ||| y) :: st) u) : Vv p l e R s m args below meth c nL q Qf pc la (.long y :: .long x :: st) u :=
  fun ls H locs cells slots h1 h2 h3 h4 h5 => lv_lor X.1 X.2.1 hd (k ls H locs cells slots h1 h2 h3 h4 h5)
theorem v_lxor (X : Cx p s m args c cc nL own q) {x y : Int64} (hd : decode cc pc = .ok (.lxor, 1)) (k : Vv p l e R s m args below meth c nL q Qf (pc + 1) la (.long (x ^^^ y) :: st) u) : Vv p l e R s m args below meth c nL q Qf pc la (.long y :: .long x :: st) u :=
  fun ls H locs cells slots h1 h2 h3 h4 h5 => lv_lxor X.1 X.2.1 hd (k ls H locs cells slots h1 h2 h3 h4 h5)
theorem v_ldiv (X : Cx p s m args c cc nL own q) {x y : Int64} (hd : decode cc pc = .ok (.ldiv, 1)) (hne : ¬ y = 0) (k : Vv p l e R s m args below meth c nL q Qf (pc + 1) la (.long (x / y) :: st) u) : Vv p l e R s m args below meth c nL q Qf pc la (.long y :: .long x :: st) u :=
  fun ls H locs cells slots h1 h2 h3 h4 h5 => lv_ldiv X.1 X.2.1 hd hne (k ls H locs cells slots h1 h2 h3 h4 h5)
theorem v_lneg (X : Cx p s m args c cc nL own q) {x : Int64} (hd : decode cc pc = .ok (.lneg, 1)) (k : Vv p l e R s m args below meth c nL q Qf (pc + 1) la (.long (-x) :: st) u) : Vv p l e R s m args below meth c nL q Qf pc la (.long x :: st) u :=
  fun ls H locs cells slots h1 h2 h3 h4 h5 => lv_lneg X.1 X.2.1 hd (k ls H locs cells slots h1 h2 h3 h4 h5)
theorem v_i2l (X : Cx p s m args c cc nL own q) {x : Int32} {v : Int64} (hd : decode cc pc = .ok (.i2l, 1)) (hv : x.toInt64 = v) (k : Vv p l e R s m args below meth c nL q Qf (pc + 1) la (.long v :: st) u) : Vv p l e R s m args below meth c nL q Qf pc la (.int x :: st) u :=
  fun ls H locs cells slots h1 h2 h3 h4 h5 => lv_i2l X.1 X.2.1 hd hv (k ls H locs cells slots h1 h2 h3 h4 h5)
theorem v_l2i (X : Cx p s m args c cc nL own q) {x : Int64} {v : Int32} (hd : decode cc pc = .ok (.l2i, 1)) (hv : x.toInt32 = v) (k : Vv p l e R s m args below meth c nL q Qf (pc + 1) la (.int v :: st) u) : Vv p l e R s m args below meth c nL q Qf pc la (.long x :: st) u :=
  fun ls H locs cells slots h1 h2 h3 h4 h5 => lv_l2i X.1 X.2.1 hd hv (k ls H locs cells slots h1 h2 h3 h4 h5)
theorem v_i2b (X : Cx p s m args c cc nL own q) {x : Int32} {v : Int32} (hd : decode cc pc = .ok (.i2b, 1)) (hv : x.toInt8.toInt32 = v) (k : Vv p l e R s m args below meth c nL q Qf (pc + 1) la (.int v :: st) u) : Vv p l e R s m args below meth c nL q Qf pc la (.int x :: st) u :=
  fun ls H locs cells slots h1 h2 h3 h4 h5 => lv_i2b X.1 X.2.1 hd hv (k ls H locs cells slots h1 h2 h3 h4 h5)
theorem v_i2c (X : Cx p s m args c cc nL own q) {x : Int32} {v : Int32} (hd : decode cc pc = .ok (.i2c, 1)) (hv : (x.toUInt32 % 65536).toInt32 = v) (k : Vv p l e R s m args below meth c nL q Qf (pc + 1) la (.int v :: st) u) : Vv p l e R s m args below meth c nL q Qf pc la (.int x :: st) u :=
  fun ls H locs cells slots h1 h2 h3 h4 h5 => lv_i2c X.1 X.2.1 hd hv (k ls H locs cells slots h1 h2 h3 h4 h5)
theorem v_lushr (X : Cx p s m args c cc nL own q) {x v : Int64} {y : Int32} (hd : decode cc pc = .ok (.lushr, 1)) (hv : (x.toUInt64 >>> (y.toInt64.toUInt64 &&& Int64.toUInt64 63)).toInt64 = v) (k : Vv p l e R s m args below meth c nL q Qf (pc + 1) la (.long v :: st) u) : Vv p l e R s m args below meth c nL q Qf pc la (.int y :: .long x :: st) u :=
  fun ls H locs cells slots h1 h2 h3 h4 h5 => lv_lushr X.1 X.2.1 hd hv (k ls H locs cells slots h1 h2 h3 h4 h5)
theorem v_lshl (X : Cx p s m args c cc nL own q) {x v : Int64} {y : Int32} (hd : decode cc pc = .ok (.lshl, 1)) (hv : x <<< (y.toInt64 &&& 63) = v) (k : Vv p l e R s m args below meth c nL q Qf (pc + 1) la (.long v :: st) u) : Vv p l e R s m args below meth c nL q Qf pc la (.int y :: .long x :: st) u :=
  fun ls H locs cells slots h1 h2 h3 h4 h5 => lv_lshl X.1 X.2.1 hd hv (k ls H locs cells slots h1 h2 h3 h4 h5)
theorem v_lshr (X : Cx p s m args c cc nL own q) {x v : Int64} {y : Int32} (hd : decode cc pc = .ok (.lshr, 1)) (hv : x >>> (y.toInt64 &&& 63) = v) (k : Vv p l e R s m args below meth c nL q Qf (pc + 1) la (.long v :: st) u) : Vv p l e R s m args below meth c nL q Qf pc la (.int y :: .long x :: st) u :=
  fun ls H locs cells slots h1 h2 h3 h4 h5 => lv_lshr X.1 X.2.1 hd hv (k ls H locs cells slots h1 h2 h3 h4 h5)
theorem v_dup (X : Cx p s m args c cc nL own q) {v : Value} (hd : decode cc pc = .ok (.dup, 1)) (hc : v.category = 1) (k : Vv p l e R s m args below meth c nL q Qf (pc + 1) la (v :: v :: st) u) : Vv p l e R s m args below meth c nL q Qf pc la (v :: st) u :=
  fun ls H locs cells slots h1 h2 h3 h4 h5 => lv_dup X.1 X.2.1 hd ((ev_cat q v).trans hc) (k ls H locs cells slots h1 h2 h3 h4 h5)
theorem v_pop (X : Cx p s m args c cc nL own q) {v : Value} (hd : decode cc pc = .ok (.pop, 1)) (hc : v.category = 1) (k : Vv p l e R s m args below meth c nL q Qf (pc + 1) la st u) : Vv p l e R s m args below meth c nL q Qf pc la (v :: st) u :=
  fun ls H locs cells slots h1 h2 h3 h4 h5 => lv_pop X.1 X.2.1 hd ((ev_cat q v).trans hc) (k ls H locs cells slots h1 h2 h3 h4 h5)
theorem v_dup2 (X : Cx p s m args c cc nL own q) {v w : Value} (hd : decode cc pc = .ok (.dup2, 1)) (hc : v.category = 1) (hw : w.category = 1) (k : Vv p l e R s m args below meth c nL q Qf (pc + 1) la (v :: w :: v :: w :: st) u) : Vv p l e R s m args below meth c nL q Qf pc la (v :: w :: st) u :=
  fun ls H locs cells slots h1 h2 h3 h4 h5 => lv_dup2_11 X.1 X.2.1 hd ((ev_cat q v).trans hc) ((ev_cat q w).trans hw) (k ls H locs cells slots h1 h2 h3 h4 h5)
theorem v_dup_x1 (X : Cx p s m args c cc nL own q) {v w : Value} (hd : decode cc pc = .ok (.dup_x1, 1)) (hc : v.category = 1) (hw : w.category = 1) (k : Vv p l e R s m args below meth c nL q Qf (pc + 1) la (v :: w :: v :: st) u) : Vv p l e R s m args below meth c nL q Qf pc la (v :: w :: st) u :=
  fun ls H locs cells slots h1 h2 h3 h4 h5 => lv_dup_x1 X.1 X.2.1 hd ((ev_cat q v).trans hc) ((ev_cat q w).trans hw) (k ls H locs cells slots h1 h2 h3 h4 h5)
theorem v_dup_x2 (X : Cx p s m args c cc nL own q) {v w z : Value} (hd : decode cc pc = .ok (.dup_x2, 1)) (hc : v.category = 1) (hw : w.category = 1) (hz : z.category = 1) (k : Vv p l e R s m args below meth c nL q Qf (pc + 1) la (v :: w :: z :: v :: st) u) : Vv p l e R s m args below meth c nL q Qf pc la (v :: w :: z :: st) u :=
  fun ls H locs cells slots h1 h2 h3 h4 h5 => lv_dup_x2 X.1 X.2.1 hd ((ev_cat q v).trans hc) ((ev_cat q w).trans hw) ((ev_cat q z).trans hz) (k ls H locs cells slots h1 h2 h3 h4 h5)
theorem v_goto (X : Cx p s m args c cc nL own q) {off : Int} {tgt : Nat} (hd : decode cc pc = .ok (.goto off, 3)) (ht : (pc : Int) + off = (tgt : Int)) (k : Vv p l e R s m args below meth c nL q Qf tgt la st u) : Vv p l e R s m args below meth c nL q Qf pc la st u :=
  fun ls H locs cells slots h1 h2 h3 h4 h5 => lv_goto X.1 X.2.1 hd ht (k ls H locs cells slots h1 h2 h3 h4 h5)
theorem v_if_eq (X : Cx p s m args c cc nL own q) {x : Int32} {off : Int} {tgt : Nat} (hd : decode cc pc = .ok (.ifCond .eq off, 3)) (ht : (pc : Int) + off = (tgt : Int)) (kt : x = 0 → Vv p l e R s m args below meth c nL q Qf tgt la st u) (kf : ¬ (x = 0) → Vv p l e R s m args below meth c nL q Qf (pc + 3) la st u) : Vv p l e R s m args below meth c nL q Qf pc la (.int x :: st) u :=
  fun ls H locs cells slots h1 h2 h3 h4 h5 => lv_if_eq X.1 X.2.1 hd ht (fun z => kt z ls H locs cells slots h1 h2 h3 h4 h5) (fun z => kf z ls H locs cells slots h1 h2 h3 h4 h5)
theorem v_icmp_eq (X : Cx p s m args c cc nL own q) {x y : Int32} {off : Int} {tgt : Nat} (hd : decode cc pc = .ok (.if_icmp .eq off, 3)) (ht : (pc : Int) + off = (tgt : Int)) (kt : x = y → Vv p l e R s m args below meth c nL q Qf tgt la st u) (kf : ¬ (x = y) → Vv p l e R s m args below meth c nL q Qf (pc + 3) la st u) : Vv p l e R s m args below meth c nL q Qf pc la (.int y :: .int x :: st) u :=
  fun ls H locs cells slots h1 h2 h3 h4 h5 => lv_icmp_eq X.1 X.2.1 hd ht (fun z => kt z ls H locs cells slots h1 h2 h3 h4 h5) (fun z => kf z ls H locs cells slots h1 h2 h3 h4 h5)
theorem v_if_ne (X : Cx p s m args c cc nL own q) {x : Int32} {off : Int} {tgt : Nat} (hd : decode cc pc = .ok (.ifCond .ne off, 3)) (ht : (pc : Int) + off = (tgt : Int)) (kt : ¬ x = 0 → Vv p l e R s m args below meth c nL q Qf tgt la st u) (kf : x = 0 → Vv p l e R s m args below meth c nL q Qf (pc + 3) la st u) : Vv p l e R s m args below meth c nL q Qf pc la (.int x :: st) u :=
  fun ls H locs cells slots h1 h2 h3 h4 h5 => lv_if_ne X.1 X.2.1 hd ht (fun z => kt z ls H locs cells slots h1 h2 h3 h4 h5) (fun z => kf z ls H locs cells slots h1 h2 h3 h4 h5)
theorem v_icmp_ne (X : Cx p s m args c cc nL own q) {x y : Int32} {off : Int} {tgt : Nat} (hd : decode cc pc = .ok (.if_icmp .ne off, 3)) (ht : (pc : Int) + off = (tgt : Int)) (kt : ¬ x = y → Vv p l e R s m args below meth c nL q Qf tgt la st u) (kf : x = y → Vv p l e R s m args below meth c nL q Qf (pc + 3) la st u) : Vv p l e R s m args below meth c nL q Qf pc la (.int y :: .int x :: st) u :=
  fun ls H locs cells slots h1 h2 h3 h4 h5 => lv_icmp_ne X.1 X.2.1 hd ht (fun z => kt z ls H locs cells slots h1 h2 h3 h4 h5) (fun z => kf z ls H locs cells slots h1 h2 h3 h4 h5)
theorem v_if_lt (X : Cx p s m args c cc nL own q) {x : Int32} {off : Int} {tgt : Nat} (hd : decode cc pc = .ok (.ifCond .lt off, 3)) (ht : (pc : Int) + off = (tgt : Int)) (kt : x < 0 → Vv p l e R s m args below meth c nL q Qf tgt la st u) (kf : ¬ (x < 0) → Vv p l e R s m args below meth c nL q Qf (pc + 3) la st u) : Vv p l e R s m args below meth c nL q Qf pc la (.int x :: st) u :=
  fun ls H locs cells slots h1 h2 h3 h4 h5 => lv_if_lt X.1 X.2.1 hd ht (fun z => kt z ls H locs cells slots h1 h2 h3 h4 h5) (fun z => kf z ls H locs cells slots h1 h2 h3 h4 h5)
theorem v_icmp_lt (X : Cx p s m args c cc nL own q) {x y : Int32} {off : Int} {tgt : Nat} (hd : decode cc pc = .ok (.if_icmp .lt off, 3)) (ht : (pc : Int) + off = (tgt : Int)) (kt : x < y → Vv p l e R s m args below meth c nL q Qf tgt la st u) (kf : ¬ (x < y) → Vv p l e R s m args below meth c nL q Qf (pc + 3) la st u) : Vv p l e R s m args below meth c nL q Qf pc la (.int y :: .int x :: st) u :=
  fun ls H locs cells slots h1 h2 h3 h4 h5 => lv_icmp_lt X.1 X.2.1 hd ht (fun z => kt z ls H locs cells slots h1 h2 h3 h4 h5) (fun z => kf z ls H locs cells slots h1 h2 h3 h4 h5)
theorem v_if_ge (X : Cx p s m args c cc nL own q) {x : Int32} {off : Int} {tgt : Nat} (hd : decode cc pc = .ok (.ifCond .ge off, 3)) (ht : (pc : Int) + off = (tgt : Int)) (kt : 0 ≤ x → Vv p l e R s m args below meth c nL q Qf tgt la st u) (kf : ¬ (0 ≤ x) → Vv p l e R s m args below meth c nL q Qf (pc + 3) la st u) : Vv p l e R s m args below meth c nL q Qf pc la (.int x :: st) u :=
  fun ls H locs cells slots h1 h2 h3 h4 h5 => lv_if_ge X.1 X.2.1 hd ht (fun z => kt z ls H locs cells slots h1 h2 h3 h4 h5) (fun z => kf z ls H locs cells slots h1 h2 h3 h4 h5)
theorem v_icmp_ge (X : Cx p s m args c cc nL own q) {x y : Int32} {off : Int} {tgt : Nat} (hd : decode cc pc = .ok (.if_icmp .ge off, 3)) (ht : (pc : Int) + off = (tgt : Int)) (kt : y ≤ x → Vv p l e R s m args below meth c nL q Qf tgt la st u) (kf : ¬ (y ≤ x) → Vv p l e R s m args below meth c nL q Qf (pc + 3) la st u) : Vv p l e R s m args below meth c nL q Qf pc la (.int y :: .int x :: st) u :=
  fun ls H locs cells slots h1 h2 h3 h4 h5 => lv_icmp_ge X.1 X.2.1 hd ht (fun z => kt z ls H locs cells slots h1 h2 h3 h4 h5) (fun z => kf z ls H locs cells slots h1 h2 h3 h4 h5)
theorem v_if_gt (X : Cx p s m args c cc nL own q) {x : Int32} {off : Int} {tgt : Nat} (hd : decode cc pc = .ok (.ifCond .gt off, 3)) (ht : (pc : Int) + off = (tgt : Int)) (kt : 0 < x → Vv p l e R s m args below meth c nL q Qf tgt la st u) (kf : ¬ (0 < x) → Vv p l e R s m args below meth c nL q Qf (pc + 3) la st u) : Vv p l e R s m args below meth c nL q Qf pc la (.int x :: st) u :=
  fun ls H locs cells slots h1 h2 h3 h4 h5 => lv_if_gt X.1 X.2.1 hd ht (fun z => kt z ls H locs cells slots h1 h2 h3 h4 h5) (fun z => kf z ls H locs cells slots h1 h2 h3 h4 h5)
theorem v_icmp_gt (X : Cx p s m args c cc nL own q) {x y : Int32} {off : Int} {tgt : Nat} (hd : decode cc pc = .ok (.if_icmp .gt off, 3)) (ht : (pc : Int) + off = (tgt : Int)) (kt : y < x → Vv p l e R s m args below meth c nL q Qf tgt la st u) (kf : ¬ (y < x) → Vv p l e R s m args below meth c nL q Qf (pc + 3) la st u) : Vv p l e R s m args below meth c nL q Qf pc la (.int y :: .int x :: st) u :=
  fun ls H locs cells slots h1 h2 h3 h4 h5 => lv_icmp_gt X.1 X.2.1 hd ht (fun z => kt z ls H locs cells slots h1 h2 h3 h4 h5) (fun z => kf z ls H locs cells slots h1 h2 h3 h4 h5)
theorem v_if_le (X : Cx p s m args c cc nL own q) {x : Int32} {off : Int} {tgt : Nat} (hd : decode cc pc = .ok (.ifCond .le off, 3)) (ht : (pc : Int) + off = (tgt : Int)) (kt : x ≤ 0 → Vv p l e R s m args below meth c nL q Qf tgt la st u) (kf : ¬ (x ≤ 0) → Vv p l e R s m args below meth c nL q Qf (pc + 3) la st u) : Vv p l e R s m args below meth c nL q Qf pc la (.int x :: st) u :=
  fun ls H locs cells slots h1 h2 h3 h4 h5 => lv_if_le X.1 X.2.1 hd ht (fun z => kt z ls H locs cells slots h1 h2 h3 h4 h5) (fun z => kf z ls H locs cells slots h1 h2 h3 h4 h5)
theorem v_icmp_le (X : Cx p s m args c cc nL own q) {x y : Int32} {off : Int} {tgt : Nat} (hd : decode cc pc = .ok (.if_icmp .le off, 3)) (ht : (pc : Int) + off = (tgt : Int)) (kt : x ≤ y → Vv p l e R s m args below meth c nL q Qf tgt la st u) (kf : ¬ (x ≤ y) → Vv p l e R s m args below meth c nL q Qf (pc + 3) la st u) : Vv p l e R s m args below meth c nL q Qf pc la (.int y :: .int x :: st) u :=
  fun ls H locs cells slots h1 h2 h3 h4 h5 => lv_icmp_le X.1 X.2.1 hd ht (fun z => kt z ls H locs cells slots h1 h2 h3 h4 h5) (fun z => kf z ls H locs cells slots h1 h2 h3 h4 h5)
theorem v_ifnull (X : Cx p s m args c cc nL own q) {x : Nat} {off : Int} (hd : decode cc pc = .ok (.ifnull off, 3)) (k : Vv p l e R s m args below meth c nL q Qf (pc + 3) la st u) : Vv p l e R s m args below meth c nL q Qf pc la (.ref x :: st) u :=
  fun ls H locs cells slots h1 h2 h3 h4 h5 => lv_ifnull X.1 X.2.1 hd (k ls H locs cells slots h1 h2 h3 h4 h5)
theorem v_ifnonnull (X : Cx p s m args c cc nL own q) {x : Nat} {off : Int} {tgt : Nat} (hd : decode cc pc = .ok (.ifnonnull off, 3)) (ht : (pc : Int) + off = (tgt : Int)) (k : Vv p l e R s m args below meth c nL q Qf tgt la st u) : Vv p l e R s m args below meth c nL q Qf pc la (.ref x :: st) u :=
  fun ls H locs cells slots h1 h2 h3 h4 h5 => lv_ifnonnull X.1 X.2.1 hd ht (k ls H locs cells slots h1 h2 h3 h4 h5)
theorem v_ifnullN (X : Cx p s m args c cc nL own q) {off : Int} {tgt : Nat} (hd : decode cc pc = .ok (.ifnull off, 3)) (ht : (pc : Int) + off = (tgt : Int)) (k : Vv p l e R s m args below meth c nL q Qf tgt la st u) : Vv p l e R s m args below meth c nL q Qf pc la (.null :: st) u :=
  fun ls H locs cells slots h1 h2 h3 h4 h5 => lv_ifnullN X.1 X.2.1 hd ht (k ls H locs cells slots h1 h2 h3 h4 h5)
theorem v_ifnonnullN (X : Cx p s m args c cc nL own q) {off : Int} (hd : decode cc pc = .ok (.ifnonnull off, 3)) (k : Vv p l e R s m args below meth c nL q Qf (pc + 3) la st u) : Vv p l e R s m args below meth c nL q Qf pc la (.null :: st) u :=
  fun ls H locs cells slots h1 h2 h3 h4 h5 => lv_ifnonnullN X.1 X.2.1 hd (k ls H locs cells slots h1 h2 h3 h4 h5)
theorem v_tableIn (X : Cx p s m args c cc nL own q) {dflt lo hi : Int} {offs : Array Int} {len : Nat} {x : Int32} {off : Int} {tgt : Nat} (hd : decode cc pc = .ok (.tableswitch dflt lo hi offs, len)) (g1 : ¬ x.toInt < lo) (g2 : ¬ hi < x.toInt) (ho : offs[(x.toInt - lo).toNat]? = some off) (ht : (pc : Int) + off = (tgt : Int)) (k : Vv p l e R s m args below meth c nL q Qf tgt la st u) : Vv p l e R s m args below meth c nL q Qf pc la (.int x :: st) u :=
  fun ls H locs cells slots h1 h2 h3 h4 h5 => lv_tableIn X.1 X.2.1 hd g1 g2 ho ht (k ls H locs cells slots h1 h2 h3 h4 h5)
theorem v_tableOut (X : Cx p s m args c cc nL own q) {dflt lo hi : Int} {offs : Array Int} {len : Nat} {x : Int32} {tgt : Nat} (hd : decode cc pc = .ok (.tableswitch dflt lo hi offs, len)) (g : x.toInt < lo ∨ hi < x.toInt) (ht : (pc : Int) + dflt = (tgt : Int)) (k : Vv p l e R s m args below meth c nL q Qf tgt la st u) : Vv p l e R s m args below meth c nL q Qf pc la (.int x :: st) u :=
  fun ls H locs cells slots h1 h2 h3 h4 h5 => lv_tableOut X.1 X.2.1 hd g ht (k ls H locs cells slots h1 h2 h3 h4 h5)
theorem v_lookup (X : Cx p s m args c cc nL own q) {dflt : Int} {ps : Array (Int × Int)} {len : Nat} {x : Int32} {off : Int} {tgt : Nat} (hd : decode cc pc = .ok (.lookupswitch dflt ps, len)) (hp : (ps.toList.zip (ps.toList.drop 1)).all (fun (a, next) => a.1 < next.1) = true) (ho : Op.lookupswitch.offset ps.toList dflt x.toInt = off) (ht : (pc : Int) + off = (tgt : Int)) (k : Vv p l e R s m args below meth c nL q Qf tgt la st u) : Vv p l e R s m args below meth c nL q Qf pc la (.int x :: st) u :=
  fun ls H locs cells slots h1 h2 h3 h4 h5 => lv_lookup X.1 X.2.1 hd hp ho ht (k ls H locs cells slots h1 h2 h3 h4 h5)
theorem v_lcmp (X : Cx p s m args c cc nL own q) {x y : Int64} (hd : decode cc pc = .ok (.lcmp, 1)) (k : Vv p l e R s m args below meth c nL q Qf (pc + 1) la (.int (lg_cmp x y) :: st) u) : Vv p l e R s m args below meth c nL q Qf pc la (.long y :: .long x :: st) u :=
  fun ls H locs cells slots h1 h2 h3 h4 h5 => W.lcmp X.1 X.2.1 hd (k ls H locs cells slots h1 h2 h3 h4 h5)
end VK
end
section
/-! memory rows: fields, arrays, new cells, copies, calls, returns -/
/-- pool number idx of the holder own names field k of the objects of kind ci -/
def FL (own : String) (idx ci k : Nat) : Prop := ∃ (C : String) (T : u_T), vwCl[ci]? = some (C, T, nfT ci) ∧ k < nfT ci ∧ (∀ w ∈ u_ws C T (nfT ci), w ∈ tbG) ∧ (T k).1 = C ∧ (Cond.fieldLink own idx C (T k).2.1 (T k).2.2.1 ∈ tbG ∨ ∃ host, Cond.fieldLinkNest own idx C (T k).2.1 (T k).2.2.1 host ∈ nstT)
/-- what is known of the fields of a kind -/
def CK (ci : Nat) : Prop := ∀ (C : String) (T : u_T), vwCl[ci]? = some (C, T, nfT ci) → (∀ k, k < nfT ci → parseFieldDescriptor (T k).2.2.1 = some (ftT ci k)) ∧ (∀ a, a < nfT ci → ∀ b, b < nfT ci → a ≠ b → (T a).2.1 ≠ (T b).2.1) ∧ ∀ k, k < nfT ci → (T k).2.2.2 = (fsT ci k == 2)
theorem ev_ty {q : ev_T} {t : Nat} {ty : FieldType} (h : tyT[t]? = some ty) : (ev_tys q)[t]? = some (q.2.2.1 t, ty) := by
  have hl := (List.getElem?_eq_some_iff.mp h).1
  simp only [ev_tys, List.getElem?_map, List.getElem?_range hl, Option.map_some, List.getD_eq_getElem?_getD, h, Option.getD_some]
theorem WD.ref {q : ev_T} {u : mm_T} {H : Heap} (h : WD q u H) {a : Nat} (ha : a < mN u) : ev_ad q a = q.1 + a := ev_lo (Nat.lt_of_lt_of_le ha h.2.2.1)
theorem WD.put {q : ev_T} {u w : mm_T} {H H1 : Heap} {a ci k : Nat} {v : Value} {C : String} {T : u_T} {cell : Cell} (h : WD q u H) (hk : kdT a = .inl ci) (hc : vwCl[ci]? = some (C, T, nfT ci)) (hkN : k < nfT ci) (hap : ∀ x y, x < nfT ci → y < nfT ci → x ≠ y → q.2.1.2 ci x ≠ q.2.1.2 ci y)
    (q2 : cell.cls = q.2.1.1 ci) (q3 : cell.vm = .none) (q4 : ∀ j, j < nfT ci → cell.slots[q.2.1.2 ci j]? = some (vp_V ((List.range (nfT ci)).map (fun k => ev_v q (mm_av u ci a k))) j)) (e1 : H1[q.1 + a]? = some (cell.setSlot (q.2.1.2 ci k) (ev_v q v))) (e2 : H1.size = H.size) (e3 : ∀ x : Nat, x ≠ q.1 + a → H1[x]? = H[x]?)
    (hn : mN w = mN u) (hB : mmB w) (hZ : mmZ w) (ho : ∀ i, i ≠ a → mm_E q w i = mm_E q u i) (hv : ∀ j, mm_av w ci a j = if j = k then v else mm_av u ci a j) : WD q w H1 := by
  refine h.upd hn hB hZ ?_ ho e2 e3
  rw [mm_ob hk]
  refine ⟨_, hc, t_OB.to ⟨_, e1, q2, q3, t_set q4 hap hkN _⟩ (fun j hj => ?_)⟩
  rw [vp_V_map _ hj, hv j]
  simp only [updV]
  by_cases hjk : j = k
  · rw [if_pos hjk, if_pos hjk]
  · rw [if_neg hjk, if_neg hjk, vp_V_map _ hj]
section VM
variable {p : Program} {l : Launch} {e : Env} {R : Room} {s : State} {m : MethodId} {args : Array Value} {below : List Frame} {meth : Method} {c : Code} {nL : Nat} {q : ev_T} {Qf : State → Prop} {pc : Nat} {la : List (Option Value)} {st : List Value} {bc bs : Nat} {g : mu_T} {cc : ByteArray} {own : String}
/-- a fact of every memory -/
theorem v_inv (k : mmB (bc, bs, g) → mmZ (bc, bs, g) → Vv p l e R s m args below meth c nL q Qf pc la st (bc, bs, g)) : Vv p l e R s m args below meth c nL q Qf pc la st (bc, bs, g) :=
  fun ls H locs cells slots h1 h2 h3 h4 h5 => k h2.2.2.2.1 h2.2.2.2.2 ls H locs cells slots h1 h2 h3 h4 h5
theorem v_get (X : Cx p s m args c cc nL own q) {idx ci k a : Nat} (hd : decode cc pc = .ok (.getfield idx, 3)) (hF : FL own idx ci k) (hk : kdT a = .inl ci) (ha : a < gN g) (kk : Vv p l e R s m args below meth c nL q Qf (pc + 3) la (mm_av (bc, bs, g) ci a k :: st) (bc, bs, g)) : Vv p l e R s m args below meth c nL q Qf pc la (.ref a :: st) (bc, bs, g) := by
  intro ls H locs cells slots h1 h2 h3 h4 h5
  obtain ⟨C, T, hc, hkN, hin, hT1, hl⟩ := hF
  have he : (mm_ws q (bc, bs, g))[a]? = some (q.1 + a, .inr (ci, (List.range (nfT ci)).map (fun k => ev_v q (mm_av (bc, bs, g) ci a k)))) := by rw [mm_at ha, mm_ob hk]
  have hv : ((List.range (nfT ci)).map (fun k => ev_v q (mm_av (bc, bs, g) ci a k)))[k]? = some (ev_v q (mm_av (bc, bs, g) ci a k)) := by
    rw [List.getElem?_map, List.getElem?_range hkN]; rfl
  show W p l e R s m args below meth c H locs cells slots Qf (F0 m pc ls (.ref (ev_ad q a) :: st.map (ev_v q)))
  rw [h2.ref ha]
  rcases hl with hl | ⟨host, hl⟩
  · exact va_get X.1 X.2.1 X.2.2.2.2.1 hin X.2.2.2.1 X.2.2.2.2.2.1.1 h2.2.1 a he hc k hkN (X.2.2.2.2.1 _ hl) (fun x hx => by rw [hT1] at hx; exact hx) hv hd (kk ls H locs cells slots h1 h2 h3 h4 h5)
  · exact va_getN X.1 X.2.1 X.2.2.2.2.1 hin X.2.2.2.1 X.2.2.2.2.2.1.1 h2.2.1 a he hc k hkN (va_Nw.use rfl (X.2.2.2.2.2.1.2.1 _ hl)) (fun x hx => by rw [hT1] at hx; exact hx) hv hd (kk ls H locs cells slots h1 h2 h3 h4 h5)
theorem v_getI (X : Cx p s m args c cc nL own q) {idx ci k a : Nat} (hd : decode cc pc = .ok (.getfield idx, 3)) (hF : FL own idx ci k) (hs : fsT ci k = 0) (hk : kdT a = .inl ci) (ha : a < gN g) (kk : Vv p l e R s m args below meth c nL q Qf (pc + 3) la (.int (gI g a k) :: st) (bc, bs, g)) : Vv p l e R s m args below meth c nL q Qf pc la (.ref a :: st) (bc, bs, g) :=
  v_get X hd hF hk ha (by rw [show mm_av (bc, bs, g) ci a k = .int (gI g a k) by simp only [mm_av, hs]]; exact kk)
theorem v_getR (X : Cx p s m args c cc nL own q) {idx ci k a : Nat} {r : Option Nat} (hd : decode cc pc = .ok (.getfield idx, 3)) (hF : FL own idx ci k) (hs : fsT ci k = 1) (hk : kdT a = .inl ci) (ha : a < gN g) (hr : gR g a k = r) (kk : Vv p l e R s m args below meth c nL q Qf (pc + 3) la (va_rf r :: st) (bc, bs, g)) : Vv p l e R s m args below meth c nL q Qf pc la (.ref a :: st) (bc, bs, g) :=
  v_get X hd hF hk ha (by rw [show mm_av (bc, bs, g) ci a k = va_rf r by simp only [mm_av, hs]; exact congrArg va_rf hr]; exact kk)
theorem v_getF (X : Cx p s m args c cc nL own q) {idx ci k a b : Nat} (hd : decode cc pc = .ok (.getfield idx, 3)) (hF : FL own idx ci k) (hs : fsT ci k = 2) (hk : kdT a = .inl ci) (ha : a < gN g) (hr : gF g a k = some b) (kk : Vv p l e R s m args below meth c nL q Qf (pc + 3) la (.ref b :: st) (bc, bs, g)) : Vv p l e R s m args below meth c nL q Qf pc la (.ref a :: st) (bc, bs, g) :=
  v_get X hd hF hk ha (by rw [show mm_av (bc, bs, g) ci a k = va_rf (some b) by simp only [mm_av, hs]; exact congrArg va_rf hr]; exact kk)
theorem v_put (X : Cx p s m args c cc nL own q) {idx ci k a : Nat} {v : Value} {w : mm_T} (hd : decode cc pc = .ok (.putfield idx, 3)) (hF : FL own idx ci k) (hC : CK ci) (hs : ¬ fsT ci k = 2) (hk : kdT a = .inl ci) (ha : a < gN g) (hn : narrow (ftT ci k) (ev_v q v) = ev_v q v) (hfit : fits (ftT ci k) (ev_v q v) = true)
    (h1w : w.1 = bc) (h2w : w.2.1 = bs) (hnw : mN w = gN g) (hB : mmB (bc, bs, g) → mmB w) (hZ : mmZ (bc, bs, g) → mmZ w) (ho : ∀ i, i ≠ a → mm_E q w i = mm_E q (bc, bs, g) i) (hv : ∀ j, mm_av w ci a j = if j = k then v else mm_av (bc, bs, g) ci a j)
    (kk : Vv p l e R s m args below meth c nL q Qf (pc + 3) la st w) : Vv p l e R s m args below meth c nL q Qf pc la (v :: .ref a :: st) (bc, bs, g) := by
  intro ls H locs cells slots h1 h2 h3 h4 h5
  obtain ⟨C, T, hc, hkN, hin, hT1, hl⟩ := hF
  obtain ⟨hty, hnm, hfl⟩ := hC C T hc
  have hap := va_apart (own := own) X.2.2.2.2.1 hin (ftT ci) hty hnm X.2.2.2.2.2.1.1 hc
  have hat := h2.at ha
  rw [mm_ob hk] at hat
  obtain ⟨r, g1, cell, q1, q2, q3, q4⟩ := hat
  have hr : r = (C, T, nfT ci) := Option.some.inj (g1.symm.trans hc)
  subst hr
  obtain ⟨hS, hfc, kC, hkC, hkind⟩ := X.2.2.2.2.2.1.1.1 ci _ hc
  obtain ⟨cf, kf, fi, f, hi, hsl⟩ := hS k hkN
  have hlay := X.2.2.2.2.1 _ (hin _ (u_in_lay hkN))
  unfold u_lay at hlay
  rw [if_neg (by rw [hfl k hkN]; simp [hs])] at hlay
  have hst := (u_facts hfc hkC (u_lays X.2.2.2.2.1 hin hkN) hi).1
  have h6 := u_store hfc hkC hkind hlay hi (hty k hkN) hn hfit
  have hiC : s.fieldFound? C (T k).2.1 (T k).2.2.1 = some (cf, kf, fi, f) := by rw [hT1] at hi; exact hi
  show W p l e R s m args below meth c H locs cells slots Qf (F0 m pc ls (ev_v q v :: .ref (ev_ad q a) :: st.map (ev_v q)))
  rw [h2.ref ha]
  have fin : ∀ H' : Heap, H'[q.1 + a]? = some (cell.setSlot f.slot (ev_v q v)) → H'.size = H.size → (∀ x, x ≠ q.1 + a → H'[x]? = H[x]?) → W p l e R s m args below meth c H' (locs ++ [⟨q.1 + a, f.slot⟩]) cells slots Qf (F0 m (pc + 3) ls (st.map (ev_v q))) := by
    intro H' e1 e2 e3
    have e1' : H'[q.1 + a]? = some (cell.setSlot (q.2.1.2 ci k) (ev_v q v)) := by rw [← hsl]; exact e1
    exact kk ls H' _ cells slots h1 (h2.put hk hc hkN hap q2 q3 q4 e1' e2 e3 hnw (hB h2.2.2.2.1) (hZ h2.2.2.2.2) ho hv) (h3.put e2 e3 (Nat.le_add_right _ _)) (by rw [h1w]; exact h4) (by rw [h2w]; exact h5)
  have hlt : f.slot < cell.slots.size := by rw [hsl]; exact k2_hasslot (q4 k hkN)
  rcases hl with hl | ⟨host, hl⟩
  · exact W.putK X.1 X.2.1 (f := f) ⟨X.2.2.2.1, X.2.2.2.2.1 _ hl, ⟨_, _, _, hiC⟩, hst⟩ (by rw [q2]; exact h6) q1 q3 hlt rfl rfl hd fin
  · exact va_WputK X.1 X.2.1 (f := f) X.2.2.2.1 (va_Nw.use rfl (X.2.2.2.2.2.1.2.1 _ hl)) hiC hst (by rw [q2]; exact h6) q1 q3 hlt rfl rfl hd fin
theorem v_putI (X : Cx p s m args c cc nL own q) {idx ci k a : Nat} {x : Int32} (hd : decode cc pc = .ok (.putfield idx, 3)) (hF : FL own idx ci k) (hC : CK ci) (hs : fsT ci k = 0) (hk : kdT a = .inl ci) (ha : a < gN g) (hn : narrow (ftT ci k) (.int x) = .int x) (hfit : fits (ftT ci k) (.int x) = true)
    (kk : Vv p l e R s m args below meth c nL q Qf (pc + 3) la st (bc, bs, xI g a k x)) : Vv p l e R s m args below meth c nL q Qf pc la (.int x :: .ref a :: st) (bc, bs, g) :=
  v_put X (v := .int x) hd hF hC (by rw [hs]; decide) hk ha hn hfit rfl rfl rfl (fun h => mmB_In h (fun len z => by rw [hk] at z; cases z)) (fun h => mmZ_I h ha) (fun i hi => mm_E_I hi) (fun j => by
    by_cases hj : j = k
    · subst hj; rw [if_pos rfl]; simp only [mm_av, hs]; exact congrArg Value.int (up2_eq _ _ _ _)
    · rw [if_neg hj]; simp only [mm_av, wI, mI, mR, mF, up2_nk hj]) kk
theorem v_putR (X : Cx p s m args c cc nL own q) {idx ci k a : Nat} {r : Option Nat} (hd : decode cc pc = .ok (.putfield idx, 3)) (hF : FL own idx ci k) (hC : CK ci) (hs : fsT ci k = 1) (hk : kdT a = .inl ci) (ha : a < gN g) (ht : ∃ D, ftT ci k = .object D)
    (kk : Vv p l e R s m args below meth c nL q Qf (pc + 3) la st (bc, bs, xR g a k r)) : Vv p l e R s m args below meth c nL q Qf pc la (va_rf r :: .ref a :: st) (bc, bs, g) := by
  obtain ⟨D, hD⟩ := ht
  refine v_put X (v := va_rf r) hd hF hC (by rw [hs]; decide) hk ha (by rw [hD]; cases r <;> rfl) (by rw [hD]; cases r <;> rfl) rfl rfl rfl mmB_R (fun h => mmZ_R h ha) (fun i hi => mm_E_R hi) (fun j => ?_) kk
  by_cases hj : j = k
  · subst hj; rw [if_pos rfl]; simp only [mm_av, hs]; exact congrArg va_rf (up2_eq _ _ _ _)
  · rw [if_neg hj]; simp only [mm_av, wR, mI, mR, mF, up2_nk hj]
/-- a final field, in a making method of its own holder -/
theorem v_putF (X : Cx p s m args c cc nL own q) {idx ci k a b : Nat} (hd : decode cc pc = .ok (.putfield idx, 3)) (hF : FL own idx ci k) (hC : CK ci) (hs : fsT ci k = 2) (hk : kdT a = .inl ci) (ha : a < gN g) (ht : (∃ D, ftT ci k = .object D) ∨ ∃ D, ftT ci k = .array D) (hin2 : meth.name = "<init>") (hown : vwCl[ci]?.map (fun z => z.1) = some own)
    (kk : Vv p l e R s m args below meth c nL q Qf (pc + 3) la st (bc, bs, xF g a k (some b))) : Vv p l e R s m args below meth c nL q Qf pc la (.ref b :: .ref a :: st) (bc, bs, g) := by
  intro ls H locs cells slots h1 h2 h3 h4 h5
  obtain ⟨C, T, hc, hkN, hin, hT1, hl⟩ := hF
  obtain ⟨hty, hnm, hfl⟩ := hC C T hc
  have hCo : C = own := by rw [hc] at hown; exact Option.some.inj hown
  have hap := va_apart (own := own) X.2.2.2.2.1 hin (ftT ci) hty hnm X.2.2.2.2.2.1.1 hc
  have hat := h2.at ha
  rw [mm_ob hk] at hat
  obtain ⟨r, g1, cell, q1, q2, q3, q4⟩ := hat
  have hr : r = (C, T, nfT ci) := Option.some.inj (g1.symm.trans hc)
  subst hr
  obtain ⟨hS, hfc, kC, hkC, hkind⟩ := X.2.2.2.2.2.1.1.1 ci _ hc
  obtain ⟨cf, kf, fi, f, hi, hsl⟩ := hS k hkN
  have hlay := X.2.2.2.2.1 _ (hin _ (u_in_lay hkN))
  unfold u_lay at hlay
  rw [if_pos (by rw [hfl k hkN]; simp [hs])] at hlay
  have hst := (u_facts hfc hkC (u_lays X.2.2.2.2.1 hin hkN) hi).1
  have hcf : m.cls = cf := by
    obtain ⟨_, _, c', _, _, _, -, -, hf', -, -, -, hown2, -⟩ := Cond.laysFinal_spec hlay
    have e1 : c' = cf := by have := hi.symm.trans hf'; simp at this; exact this.1.symm
    rw [hT1, hCo] at hown2
    rw [← e1]; exact Option.some.inj (X.2.2.2.1.symm.trans hown2)
  have hnf : narrow (ftT ci k) (.ref (ev_ad q b)) = .ref (ev_ad q b) ∧ fits (ftT ci k) (.ref (ev_ad q b)) = true := by
    rcases ht with ⟨D, hD⟩ | ⟨D, hD⟩ <;> rw [hD] <;> exact ⟨rfl, rfl⟩
  have h6 := u_fits hfc hkC hkind (Or.inr hlay) hi (hty k hkN) hnf.1 hnf.2
  have hiC : s.fieldFound? C (T k).2.1 (T k).2.2.1 = some (cf, kf, fi, f) := by rw [hT1] at hi; exact hi
  show W p l e R s m args below meth c H locs cells slots Qf (F0 m pc ls (.ref (ev_ad q b) :: .ref (ev_ad q a) :: st.map (ev_v q)))
  rw [h2.ref ha]
  have hlt : f.slot < cell.slots.size := by rw [hsl]; exact k2_hasslot (q4 k hkN)
  have hB' : mmB (bc, bs, xF g a k (some b)) := h2.2.2.2.1
  have hZ' : mmZ (bc, bs, xF g a k (some b)) := mmZ_F (u := (bc, bs, g)) h2.2.2.2.2 ha
  have ho' : ∀ i, i ≠ a → mm_E q (bc, bs, xF g a k (some b)) i = mm_E q (bc, bs, g) i := fun i hi => mm_E_F (u := (bc, bs, g)) hi
  have hv' : ∀ j, mm_av (bc, bs, xF g a k (some b)) ci a j = if j = k then Value.ref b else mm_av (bc, bs, g) ci a j := by
    intro j
    by_cases hj : j = k
    · subst hj; rw [if_pos rfl]; simp only [mm_av, hs]; exact congrArg va_rf (up2_eq _ _ _ _)
    · rw [if_neg hj]; simp only [mm_av, xF, mI, mR, mF, up2_nk hj]
  have fin : ∀ H' : Heap, H'[q.1 + a]? = some (cell.setSlot f.slot (.ref (ev_ad q b))) → H'.size = H.size → (∀ x, x ≠ q.1 + a → H'[x]? = H[x]?) → W p l e R s m args below meth c H' (locs ++ [⟨q.1 + a, f.slot⟩]) cells slots Qf (F0 m (pc + 3) ls (st.map (ev_v q))) := by
    intro H' e1 e2 e3
    have e1' : H'[q.1 + a]? = some (cell.setSlot (q.2.1.2 ci k) (ev_v q (.ref b))) := by rw [← hsl]; exact e1
    have hW : WD q (bc, bs, xF g a k (some b)) H' := WD.put (v := .ref b) h2 hk hc hkN hap q2 q3 q4 e1' e2 e3 rfl hB' hZ' ho' hv'
    exact kk ls H' _ cells slots h1 hW (h3.put e2 e3 (Nat.le_add_right _ _)) h4 h5
  rcases hl with hl | ⟨host, hl⟩
  · exact W.putFinK X.1 X.2.1 X.2.2.2.1 (X.2.2.2.2.1 _ hl) hiC hst hcf hin2 (by rw [q2]; exact h6) q1 q3 hlt rfl rfl hd fin
  · refine va_Wputf X.1 X.2.1 X.2.2.2.1 (va_Nw.use rfl (X.2.2.2.2.2.1.2.1 _ hl)) hiC hst (Or.inr ⟨hcf, hin2⟩) q1 (by rw [q3]; exact fun h => by cases h) hlt h6.1 (by rw [q3, q2]; exact h6.2) rfl rfl hd ?_
    have hlH : q.1 + a < H.size := (Array.getElem?_eq_some_iff.mp q1).1
    exact fin _ (by simp [hlH]) (by simp) (fun x hx => by simp [Array.getElem?_setIfInBounds, Ne.symm hx])
end VM
end
section
/-! arrays and new cells -/
theorem WD.ast {q : ev_T} {u : mm_T} {H H1 : Heap} {a t len j : Nat} {x : Int32} (h : WD q u H) (ha : a < mN u) (hk : kdT a = .inr (t, len)) (ht : t < 3) (hB : mmB (wI u a j x)) (e : H1[q.1 + a]? = some ((vp_cell (q.2.2.1 t) (len, .inl (mI u a))).setSlot j (.int x))) (z : H1.size = H.size) (oq : ∀ y : Nat, y ≠ q.1 + a → H1[y]? = H[y]?) : WD q (wI u a j x) H1 := by
  refine h.upd rfl hB (mmZ_I h.2.2.2.2 ha) ?_ (fun i hi => mm_E_I hi) z oq
  rw [mm_ai hk ht]
  show H1[q.1 + a]? = some (vp_cell _ _)
  rw [e, vp_cell_i, vp_cell_i, arrV_store]
  congr 2
  funext y
  by_cases hy : y = j
  · subst hy; simp [updV, wI, mI, up2]
  · simp [updV, wI, mI, up2, hy]
theorem WD.astR {q : ev_T} {u : mm_T} {H H1 : Heap} {a t len j : Nat} {r : Option Nat} (h : WD q u H) (ha : a < mN u) (hk : kdT a = .inr (t, len)) (ht : ¬ t < 3) (e : H1[q.1 + a]? = some ((vp_cell (q.2.2.1 t) (len, .inr (.inr (.inr (.inr (fun j => (mR u a j).map (ev_ad q))))))).setSlot j (va_rf (r.map (ev_ad q))))) (z : H1.size = H.size) (oq : ∀ y : Nat, y ≠ q.1 + a → H1[y]? = H[y]?) : WD q (wR u a j r) H1 := by
  refine h.upd rfl (mmB_R h.2.2.2.1) (mmZ_R h.2.2.2.2 ha) ?_ (fun i hi => mm_E_R hi) z oq
  rw [mm_ar hk ht]
  show H1[q.1 + a]? = some (vp_cell _ _)
  rw [e, vp_cell_q, vp_cell_q, arrV_store]
  congr 2
  funext y
  by_cases hy : y = j
  · subst hy; simp [updV, wR, mR, up2]
  · simp [updV, wR, mR, up2, hy]
section VA
variable {p : Program} {l : Launch} {e : Env} {R : Room} {s : State} {m : MethodId} {args : Array Value} {below : List Frame} {meth : Method} {c : Code} {nL : Nat} {q : ev_T} {Qf : State → Prop} {pc : Nat} {la : List (Option Value)} {st : List Value} {bc bs : Nat} {g : mu_T} {cc : ByteArray} {own : String}
theorem v_alen (X : Cx p s m args c cc nL own q) {a t len : Nat} {v : Int32} {ty : FieldType} (hd : decode cc pc = .ok (.arraylength, 1)) (hk : kdT a = .inr (t, len)) (hty : tyT[t]? = some ty) (ha : a < gN g) (hv : Int32.ofNat len = v) (kk : Vv p l e R s m args below meth c nL q Qf (pc + 1) la (.int v :: st) (bc, bs, g)) : Vv p l e R s m args below meth c nL q Qf pc la (.ref a :: st) (bc, bs, g) := by
  intro ls H locs cells slots h1 h2 h3 h4 h5
  show W p l e R s m args below meth c H locs cells slots Qf (F0 m pc ls (.ref (ev_ad q a) :: st.map (ev_v q)))
  rw [h2.ref ha]
  by_cases ht : t < 3
  · exact va_alen (x := (len, .inl (gI g a))) X.1 X.2.1 X.2.2.2.2.2.1.1 h2.2.1 a t (by rw [mm_at ha, mm_ai hk ht]) (ev_ty hty) hv hd (kk ls H locs cells slots h1 h2 h3 h4 h5)
  · exact va_alen (x := (len, .inr (.inr (.inr (.inr (fun j => (gR g a j).map (ev_ad q))))))) X.1 X.2.1 X.2.2.2.2.2.1.1 h2.2.1 a t (by rw [mm_at ha, mm_ar hk ht]) (ev_ty hty) hv hd (kk ls H locs cells slots h1 h2 h3 h4 h5)
theorem v_iald (X : Cx p s m args c cc nL own q) {a len : Nat} {i : Int32} (hd : decode cc pc = .ok (.iaload, 1)) (hk : kdT a = .inr (0, len)) (ha : a < gN g) (hin : vp_in i len) (kk : Vv p l e R s m args below meth c nL q Qf (pc + 1) la (.int (gI g a i.toNatClampNeg) :: st) (bc, bs, g)) : Vv p l e R s m args below meth c nL q Qf pc la (.int i :: .ref a :: st) (bc, bs, g) := by
  intro ls H locs cells slots h1 h2 h3 h4 h5
  show W p l e R s m args below meth c H locs cells slots Qf (F0 m pc ls (.int i :: .ref (ev_ad q a) :: st.map (ev_v q)))
  rw [h2.ref ha]
  exact va_iald X.1 X.2.1 X.2.2.2.2.2.1.1 h2.2.1 a 0 (by rw [mm_at ha, mm_ai hk (by decide)]) (ev_ty rfl) hin hd (kk ls H locs cells slots h1 h2 h3 h4 h5)
theorem v_bald (X : Cx p s m args c cc nL own q) {a len : Nat} {i : Int32} (hd : decode cc pc = .ok (.baload, 1)) (hk : kdT a = .inr (1, len)) (ha : a < gN g) (hin : vp_in i len) (kk : Vv p l e R s m args below meth c nL q Qf (pc + 1) la (.int (gI g a i.toNatClampNeg) :: st) (bc, bs, g)) : Vv p l e R s m args below meth c nL q Qf pc la (.int i :: .ref a :: st) (bc, bs, g) := by
  intro ls H locs cells slots h1 h2 h3 h4 h5
  show W p l e R s m args below meth c H locs cells slots Qf (F0 m pc ls (.int i :: .ref (ev_ad q a) :: st.map (ev_v q)))
  rw [h2.ref ha]
  exact va_bald X.1 X.2.1 X.2.2.2.2.2.1.1 h2.2.1 a 1 (by rw [mm_at ha, mm_ai hk (by decide)]) (ev_ty rfl) hin hd (kk ls H locs cells slots h1 h2 h3 h4 h5)
theorem v_zald (X : Cx p s m args c cc nL own q) {a len : Nat} {i : Int32} (hd : decode cc pc = .ok (.baload, 1)) (hk : kdT a = .inr (2, len)) (ha : a < gN g) (hin : vp_in i len) (kk : Vv p l e R s m args below meth c nL q Qf (pc + 1) la (.int (gI g a i.toNatClampNeg) :: st) (bc, bs, g)) : Vv p l e R s m args below meth c nL q Qf pc la (.int i :: .ref a :: st) (bc, bs, g) := by
  intro ls H locs cells slots h1 h2 h3 h4 h5
  show W p l e R s m args below meth c H locs cells slots Qf (F0 m pc ls (.int i :: .ref (ev_ad q a) :: st.map (ev_v q)))
  rw [h2.ref ha]
  exact va_zald X.1 X.2.1 X.2.2.2.2.2.1.1 h2.2.1 a 2 (by rw [mm_at ha, mm_ai hk (by decide)]) (ev_ty rfl) hin hd (kk ls H locs cells slots h1 h2 h3 h4 h5)
theorem v_aald (X : Cx p s m args c cc nL own q) {a t len : Nat} {i : Int32} {C : String} {r : Option Nat} (hd : decode cc pc = .ok (.aaload, 1)) (hk : kdT a = .inr (t, len)) (hty : tyT[t]? = some (.object C)) (ht : ¬ t < 3) (ha : a < gN g) (hin : vp_in i len) (hr : gR g a i.toNatClampNeg = r) (kk : Vv p l e R s m args below meth c nL q Qf (pc + 1) la (va_rf r :: st) (bc, bs, g)) : Vv p l e R s m args below meth c nL q Qf pc la (.int i :: .ref a :: st) (bc, bs, g) := by
  intro ls H locs cells slots h1 h2 h3 h4 h5
  show W p l e R s m args below meth c H locs cells slots Qf (F0 m pc ls (.int i :: .ref (ev_ad q a) :: st.map (ev_v q)))
  rw [h2.ref ha]
  refine va_aldq X.1 X.2.1 X.2.2.2.2.2.1.1 h2.2.1 a t (by rw [mm_at ha, mm_ar hk ht]) (ev_ty hty) hin hd ?_
  show W p l e R s m args below meth c H locs cells slots Qf (F0 m (pc + 1) ls (va_rf ((gR g a i.toNatClampNeg).map (ev_ad q)) :: st.map (ev_v q)))
  rw [hr, ← ev_rf]
  exact kk ls H locs cells slots h1 h2 h3 h4 h5
theorem v_iast (X : Cx p s m args c cc nL own q) {a len : Nat} {i x : Int32} (hd : decode cc pc = .ok (.iastore, 1)) (hk : kdT a = .inr (0, len)) (ha : a < gN g) (hin : vp_in i len) (kk : Vv p l e R s m args below meth c nL q Qf (pc + 1) la st (bc, bs, xI g a i.toNatClampNeg x)) : Vv p l e R s m args below meth c nL q Qf pc la (.int x :: .int i :: .ref a :: st) (bc, bs, g) := by
  intro ls H locs cells slots h1 h2 h3 h4 h5
  show W p l e R s m args below meth c H locs cells slots Qf (F0 m pc ls (.int x :: .int i :: .ref (ev_ad q a) :: st.map (ev_v q)))
  rw [h2.ref ha]
  have hat : H[q.1 + a]? = some (vp_cell (q.2.2.1 0) (len, .inl (gI g a))) := by have := h2.at ha; rw [mm_ai hk (by decide)] at this; exact this
  refine W.iast X.1 X.2.1 hat ((X.2.2.2.2.2.1.1.2 0 _ (ev_ty rfl)).1 len (fun j => .int (gI g a j))) (fun z => by cases z) (by show ¬ (i < 0 ∨ (arrV _ _ _).slots.size ≤ _); rw [arrV_size]; exact hin) rfl rfl hd fun H1 e1 z oq => ?_
  exact kk ls H1 _ cells slots h1 (h2.ast ha hk (by decide) (mmB_In h2.2.2.2.1 (fun n z => by rw [hk] at z; cases z)) e1 z oq) (h3.put z oq (Nat.le_add_right _ _)) h4 h5
theorem v_bast (X : Cx p s m args c cc nL own q) {a len : Nat} {i x y : Int32} (hd : decode cc pc = .ok (.bastore, 1)) (hk : kdT a = .inr (1, len)) (ha : a < gN g) (hin : vp_in i len) (hy : x.toInt8.toInt32 = y) (kk : Vv p l e R s m args below meth c nL q Qf (pc + 1) la st (bc, bs, xI g a i.toNatClampNeg y)) : Vv p l e R s m args below meth c nL q Qf pc la (.int x :: .int i :: .ref a :: st) (bc, bs, g) := by
  subst hy
  intro ls H locs cells slots h1 h2 h3 h4 h5
  show W p l e R s m args below meth c H locs cells slots Qf (F0 m pc ls (.int x :: .int i :: .ref (ev_ad q a) :: st.map (ev_v q)))
  rw [h2.ref ha]
  have hat : H[q.1 + a]? = some (vp_cell (q.2.2.1 1) (len, .inl (gI g a))) := by have := h2.at ha; rw [mm_ai hk (by decide)] at this; exact this
  refine W.bast X.1 X.2.1 hat ((X.2.2.2.2.2.1.1.2 1 _ (ev_ty rfl)).1 len (fun j => .int (gI g a j))) (fun z => by cases z) (by show ¬ (i < 0 ∨ (arrV _ _ _).slots.size ≤ _); rw [arrV_size]; exact hin) rfl rfl hd fun H1 e1 z oq => ?_
  exact kk ls H1 _ cells slots h1 (h2.ast ha hk (by decide) (mmB_Ib h2.2.2.2.1 (by simp)) e1 z oq) (h3.put z oq (Nat.le_add_right _ _)) h4 h5
theorem v_zast (X : Cx p s m args c cc nL own q) {a len : Nat} {i x y : Int32} (hd : decode cc pc = .ok (.bastore, 1)) (hk : kdT a = .inr (2, len)) (ha : a < gN g) (hin : vp_in i len) (hy : x &&& 1 = y) (kk : Vv p l e R s m args below meth c nL q Qf (pc + 1) la st (bc, bs, xI g a i.toNatClampNeg y)) : Vv p l e R s m args below meth c nL q Qf pc la (.int x :: .int i :: .ref a :: st) (bc, bs, g) := by
  subst hy
  intro ls H locs cells slots h1 h2 h3 h4 h5
  show W p l e R s m args below meth c H locs cells slots Qf (F0 m pc ls (.int x :: .int i :: .ref (ev_ad q a) :: st.map (ev_v q)))
  rw [h2.ref ha]
  have hat : H[q.1 + a]? = some (vp_cell (q.2.2.1 2) (len, .inl (gI g a))) := by have := h2.at ha; rw [mm_ai hk (by decide)] at this; exact this
  refine W.zast X.1 X.2.1 hat ((X.2.2.2.2.2.1.1.2 2 _ (ev_ty rfl)).1 len (fun j => .int (gI g a j))) (fun z => by cases z) (by show ¬ (i < 0 ∨ (arrV _ _ _).slots.size ≤ _); rw [arrV_size]; exact hin) rfl rfl hd fun H1 e1 z oq => ?_
  exact kk ls H1 _ cells slots h1 (h2.ast ha hk (by decide) (mmB_In h2.2.2.2.1 (fun n z => by rw [hk] at z; cases z)) e1 z oq) (h3.put z oq (Nat.le_add_right _ _)) h4 h5
/-- a cell of ours into a row of references -/
theorem v_aast (X : Cx p s m args c cc nL own q) {a b t len ci : Nat} {i : Int32} {r : vw_C} (hd : decode cc pc = .ok (.aastore, 1)) (hk : kdT a = .inr (t, len)) (hty : tyT[t]? = some (.object r.1)) (ht : ¬ t < 3) (ha : a < gN g) (hin : vp_in i len) (hkb : kdT b = .inl ci) (hcb : vwCl[ci]? = some r) (hb : b < gN g) (kk : Vv p l e R s m args below meth c nL q Qf (pc + 1) la st (bc, bs, xR g a i.toNatClampNeg (some b))) : Vv p l e R s m args below meth c nL q Qf pc la (.ref b :: .int i :: .ref a :: st) (bc, bs, g) := by
  intro ls H locs cells slots h1 h2 h3 h4 h5
  show W p l e R s m args below meth c H locs cells slots Qf (F0 m pc ls (.ref (ev_ad q b) :: .int i :: .ref (ev_ad q a) :: st.map (ev_v q)))
  rw [h2.ref ha, h2.ref hb]
  have hat : H[q.1 + a]? = some (vp_cell (q.2.2.1 t) (len, .inr (.inr (.inr (.inr (fun j => (gR g a j).map (ev_ad q))))))) := by have := h2.at ha; rw [mm_ar hk ht] at this; exact this
  have hlt : i.toNatClampNeg < len := Nat.not_le.mp fun z => hin (Or.inr z)
  have h0 : ¬ i < 0 := fun z => hin (Or.inl z)
  have hbt := h2.at hb
  rw [mm_ob hkb] at hbt
  obtain ⟨r', hr', cellV, g1, g2, g3, -⟩ := hbt
  have hcls := (X.2.2.2.2.2.1.1.1 ci r hcb).2
  obtain ⟨kA, comp, k1, k2, k3, -⟩ := (X.2.2.2.2.2.1.1.2 t _ (ev_ty hty)).2
  have hcomp : comp = q.2.1.1 ci := Option.some.inj (k3.symm.trans hcls.1)
  subst hcomp
  obtain ⟨kC, hkC, -⟩ := id hcls.2
  refine W.aast X.1 X.2.1 hat (fun z h => by cases h) (fun h => by cases h) k1 k2 rfl hkC ⟨h0, by show _ < (arrV _ _ _).slots.size; rw [arrV_size]; exact hlt⟩ g1 (fun z h => by rw [g3] at h; cases h) (by rw [g2]; exact hkC) (by rw [g2]; exact va_assign hcls) rfl rfl hd fun H1 e1 z oq => ?_
  exact kk ls H1 _ cells slots h1 (h2.astR ha hk ht (by rw [e1]; show _ = some (Cell.setSlot _ _ (.ref (ev_ad q b))); rw [h2.ref hb]) z oq) (h3.put z oq (Nat.le_add_right _ _)) h4 h5
theorem v_aastN (X : Cx p s m args c cc nL own q) {a t len : Nat} {i : Int32} {C : String} (hd : decode cc pc = .ok (.aastore, 1)) (hk : kdT a = .inr (t, len)) (hty : tyT[t]? = some (.object C)) (ht : ¬ t < 3) (ha : a < gN g) (hin : vp_in i len) (kk : Vv p l e R s m args below meth c nL q Qf (pc + 1) la st (bc, bs, xR g a i.toNatClampNeg none)) : Vv p l e R s m args below meth c nL q Qf pc la (.null :: .int i :: .ref a :: st) (bc, bs, g) := by
  intro ls H locs cells slots h1 h2 h3 h4 h5
  show W p l e R s m args below meth c H locs cells slots Qf (F0 m pc ls (.null :: .int i :: .ref (ev_ad q a) :: st.map (ev_v q)))
  rw [h2.ref ha]
  have hat : H[q.1 + a]? = some (vp_cell (q.2.2.1 t) (len, .inr (.inr (.inr (.inr (fun j => (gR g a j).map (ev_ad q))))))) := by have := h2.at ha; rw [mm_ar hk ht] at this; exact this
  refine va_WaastN (C := C) X.1 X.2.1 hat ((X.2.2.2.2.2.1.1.2 t _ (ev_ty hty)).1 len (fun j => va_rf ((gR g a j).map (ev_ad q)))) (fun h => by cases h) (by show ¬ (i < 0 ∨ (arrV _ _ _).slots.size ≤ _); rw [arrV_size]; exact hin) rfl rfl hd fun H1 e1 z oq => ?_
  exact kk ls H1 _ cells slots h1 (h2.astR (r := none) ha hk ht e1 z oq) (h3.put z oq (Nat.le_add_right _ _)) h4 h5
/-- a new row of ints, bytes or flags -/
theorem v_newarr (X : Cx p s m args c cc nL own q) {aT : ArrayType} {t N : Nat} {n : Int32} (hd : decode cc pc = .ok (.newarray aT, 2)) (hty : tyT[t]? = some (newarray.typeOf aT)) (ht : t < 3) (hRA : ∀ U cA, va_RA U cA (newarray.typeOf aT) → U.vm.findClass ("[" ++ (newarray.typeOf aT).toString) = some cA) (hdf : defaultValue (newarray.typeOf aT) = .int 0) (harr : Cond.arrayClass (newarray.typeOf aT) ∈ tbG) (hn : ¬ n < 0) (hN : n.toNatClampNeg = N) (hby : N * componentBytes (newarray.typeOf aT) ≤ 536870912) (hk : kdT (gN g) = .inr (t, N)) (hc : gN g < 1048576) (h1b : 1 ≤ bc) (h2b : N ≤ bs)
    (kk : (∀ j, gI g (gN g) j = 0) → Vv p l e R s m args below meth c nL q Qf (pc + 2) la (.ref (gN g) :: st) (bc - 1, bs - N, gN g + 1, g.2)) : Vv p l e R s m args below meth c nL q Qf pc la (.int n :: st) (bc, bs, g) := by
  intro ls H locs cells slots h1 h2 h3 h4 h5
  have h4 : cells + bc ≤ R.cells := h4
  have h5 : slots + bs ≤ R.slots := h5
  show W p l e R s m args below meth c H locs cells slots Qf (F0 m pc ls (.int n :: st.map (ev_v q)))
  have hz : ∀ j, gI g (gN g) j = 0 := fun j => (h2.2.2.2.2 (gN g) (Nat.le_refl _) j).1
  refine va_newaK X.1 X.2.1 (X.2.2.2.2.1 _ harr) rfl hd rfl hn hN hby (by omega) (by omega) rfl fun H1 cA e1 z1 o1 hAr hNm => ?_
  have hcA : cA = q.2.2.1 t := Option.some.inj (hNm.symm.trans (hRA s _ (X.2.2.2.2.2.1.1.2 t _ (ev_ty hty)).2))
  subst hcA
  have hW : WD q (bc - 1, bs - N, gN g + 1, g.2) H1 := by
    refine h2.new rfl hc h2.2.2.2.1 (fun i hi k => h2.2.2.2.2 i (Nat.le_of_succ_le hi) k) ?_ (fun i _ => rfl) z1 (fun x hx => o1 x hx)
    rw [mm_ai hk ht, ← h2.1]
    show H1[H.size]? = some (vp_cell _ _)
    rw [e1, vp_cell_i, hdf]
    congr 2
    funext j
    exact congrArg Value.int (hz j).symm
  have k2 := kk hz ls H1 locs (cells + 1) (slots + N) h1 hW ⟨Nat.le_trans h3.1 (by omega), fun x g1 g2 => (o1 x (Nat.lt_of_lt_of_le g1 h3.1)).trans (h3.2.1 x g1 g2), h3.2.2⟩ (by show cells + 1 + (bc - 1) ≤ _; omega) (by show slots + N + (bs - N) ≤ _; omega)
  have k3 : W p l e R s m args below meth c H1 locs (cells + 1) (slots + N) Qf (F0 m (pc + 2) ls (.ref (ev_ad q (gN g)) :: st.map (ev_v q))) := k2
  rw [ev_lo hc, ← h2.1] at k3
  exact k3
/-- a new row of references -/
theorem v_anewarr (X : Cx p s m args c cc nL own q) {idx t N : Nat} {n : Int32} {C : String} (hd : decode cc pc = .ok (.anewarray idx, 3)) (hty : tyT[t]? = some (.object C)) (ht : ¬ t < 3) (hlk : Cond.classLink own idx C ∈ tbG) (hov : Cond.arrayOver (.object C) ∈ tbG) (hn : ¬ n < 0) (hN : n.toNatClampNeg = N) (hby : N * 4 ≤ 536870912) (hk : kdT (gN g) = .inr (t, N)) (hc : gN g < 1048576) (h1b : 1 ≤ bc) (h2b : N ≤ bs)
    (kk : (∀ j, gR g (gN g) j = none) → Vv p l e R s m args below meth c nL q Qf (pc + 3) la (.ref (gN g) :: st) (bc - 1, bs - N, gN g + 1, g.2)) : Vv p l e R s m args below meth c nL q Qf pc la (.int n :: st) (bc, bs, g) := by
  subst hN
  intro ls H locs cells slots h1 h2 h3 h4 h5
  have h4 : cells + bc ≤ R.cells := h4
  have h5 : slots + bs ≤ R.slots := h5
  show W p l e R s m args below meth c H locs cells slots Qf (F0 m pc ls (.int n :: st.map (ev_v q)))
  have hz : ∀ j, gR g (gN g) j = none := fun j => (h2.2.2.2.2 (gN g) (Nat.le_refl _) j).2.1
  refine W.anew X.1 X.2.1 X.2.2.2.1 (X.2.2.2.2.1 _ hlk) (X.2.2.2.2.1 _ hov) rfl hd rfl hn hby (by omega) (by omega) fun cA kA comp f1 f2 f3 f4 => ?_
  obtain ⟨kA', comp', k1, k2, k3, k4⟩ := (X.2.2.2.2.2.1.1.2 t _ (ev_ty hty)).2
  have hcA : cA = q.2.2.1 t := Option.some.inj (f1.symm.trans k4)
  subst hcA
  generalize hH1 : H.push ({ cls := q.2.2.1 t, slots := Array.replicate n.toNatClampNeg .null, vm := .none } : Cell) = H1
  have z1 : H1.size = H.size + 1 := by rw [← hH1, Array.size_push]
  have e1 : H1[H.size]? = some (arrV (q.2.2.1 t) n.toNatClampNeg (fun _ => .null)) := by rw [← hH1, Array.getElem?_push_size, ← arrV_new]
  have o1 : ∀ x : Nat, x < H.size → H1[x]? = H[x]? := fun x hx => by rw [← hH1, Array.getElem?_push, if_neg (Nat.ne_of_lt hx)]
  have hW : WD q (bc - 1, bs - n.toNatClampNeg, gN g + 1, g.2) H1 := by
    refine h2.new rfl hc h2.2.2.2.1 (fun i hi k => h2.2.2.2.2 i (Nat.le_of_succ_le hi) k) ?_ (fun i _ => rfl) z1 (fun x hx => o1 x hx)
    rw [mm_ar hk ht, ← h2.1]
    show H1[H.size]? = some (vp_cell _ _)
    rw [e1, vp_cell_q]
    congr 2
    funext j
    show Value.null = va_rf ((gR g (gN g) j).map (ev_ad q))
    rw [hz j]
    rfl
  have k5 : W p l e R s m args below meth c H1 locs (cells + 1) (slots + n.toNatClampNeg) Qf (F0 m (pc + 3) ls (.ref (ev_ad q (gN g)) :: st.map (ev_v q))) := kk hz ls H1 locs (cells + 1) (slots + n.toNatClampNeg) h1 hW ⟨Nat.le_trans h3.1 (by omega), fun x g1 g2 => (o1 x (Nat.lt_of_lt_of_le g1 h3.1)).trans (h3.2.1 x g1 g2), h3.2.2⟩ (by show cells + 1 + (bc - 1) ≤ _; omega) (by show slots + n.toNatClampNeg + (bs - n.toNatClampNeg) ≤ _; omega)
  rw [ev_lo hc, ← h2.1] at k5
  exact k5
/-- a new object -/
theorem v_new (X : Cx p s m args c cc nL own q) {idx ci : Nat} {C : String} {T : u_T} (hd : decode cc pc = .ok (.new idx, 3)) (hcl : vwCl[ci]? = some (C, T, nfT ci)) (hlk : Cond.classLink own idx C ∈ tbG) (hins : Cond.instantiable C (nfT ci) ∈ tbG) (hini : Cond.initialized C ∈ tbG) (hin : ∀ w ∈ u_ws C T (nfT ci), w ∈ tbG) (hC : CK ci) (hdf : ∀ j, j < nfT ci → defaultValue (ftT ci j) = if fsT ci j = 0 then .int 0 else .null) (hk : kdT (gN g) = .inl ci) (hc : gN g < 1048576) (h1b : 1 ≤ bc) (h2b : nfT ci ≤ bs)
    (kk : (∀ j, gI g (gN g) j = 0 ∧ gR g (gN g) j = none ∧ gF g (gN g) j = none) → Vv p l e R s m args below meth c nL q Qf (pc + 3) la (.ref (gN g) :: st) (bc - 1, bs - nfT ci, gN g + 1, g.2)) : Vv p l e R s m args below meth c nL q Qf pc la st (bc, bs, g) := by
  intro ls H locs cells slots h1 h2 h3 h4 h5
  have h4 : cells + bc ≤ R.cells := h4
  have h5 : slots + bs ≤ R.slots := h5
  have hz : ∀ j, gI g (gN g) j = 0 ∧ gR g (gN g) j = none ∧ gF g (gN g) j = none := fun j => h2.2.2.2.2 (gN g) (Nat.le_refl _) j
  have hKn := X.2.2.2.2.2.1.1.1 ci _ hcl
  refine W.newcK X.1 X.2.1 X.2.2.2.1 (X.2.2.2.2.1 _ hlk) (X.2.2.2.2.1 _ hins) (X.2.2.2.2.1 _ hini) rfl hd (by omega) (by omega) hKn.2.1 rfl fun H1 kC hkC e1 z1 o1 => ?_
  have hW : WD q (bc - 1, bs - nfT ci, gN g + 1, g.2) H1 := by
    refine h2.new rfl hc h2.2.2.2.1 (fun i hi k => h2.2.2.2.2 i (Nat.le_of_succ_le hi) k) ?_ (fun i _ => rfl) z1 (fun x hx => o1 x hx)
    rw [mm_ob hk, ← h2.1]
    refine ⟨_, hcl, (u_born (ftT ci) X.2.2.2.2.1 hin hKn hkC e1 (hC C T hcl).1).to (fun j hj => ?_)⟩
    rw [vp_V_map _ hj, hdf j hj]
    show _ = ev_v q (mm_av (bc, bs, g) ci (gN g) j)
    simp only [mm_av]
    by_cases h0 : fsT ci j = 0
    · rw [if_pos h0, h0]
      show _ = ev_v q (.int (gI g (gN g) j))
      show _ = Value.int (gI g (gN g) j)
      rw [(hz j).1]
    · rw [if_neg h0]
      split
      · rename_i h; exact absurd h h0
      · show _ = ev_v q (va_rf (gR g (gN g) j))
        rw [(hz j).2.1]; rfl
      · show _ = ev_v q (va_rf (gF g (gN g) j))
        rw [(hz j).2.2]; rfl
  have k5 : W p l e R s m args below meth c H1 locs (cells + 1) (slots + nfT ci) Qf (F0 m (pc + 3) ls (.ref (ev_ad q (gN g)) :: st.map (ev_v q))) := kk hz ls H1 locs (cells + 1) (slots + nfT ci) h1 hW ⟨Nat.le_trans h3.1 (by omega), fun x g1 g2 => (o1 x (Nat.lt_of_lt_of_le g1 h3.1)).trans (h3.2.1 x g1 g2), h3.2.2⟩ (by show cells + 1 + (bc - 1) ≤ _; omega) (by show slots + nfT ci + (bs - nfT ci) ≤ _; omega)
  rw [ev_lo hc, ← h2.1] at k5
  exact k5
end VA
end
section
/-! calls and returns -/
/-- name, code, most locals, answer -/
abbrev mt_T : Type := MethodName × ByteArray × Nat × Option FieldType
def rmT (d bc bs : Nat) : Room := { frames := d, cells := bc, slots := bs, locals := 48 * d }
def Ctr (l : Launch) (q : ev_T) (M : mt_T) (d : Nat) (av : List Value) (u : mm_T) (Q : Option Value → mm_T → Prop) : Prop :=
  Met l M.1 (Cond.code M.1 M.2.1 M.2.2.1 M.2.2.2 :: tbG) (rmT d u.1 u.2.1) (va_Pc (av.map (ev_v q)) (Bw q u)) (Qw q Q) u.1 u.2.1 (fun a => q.1 ≤ a)
/-- what the tables say of a method -/
def MK (M : mt_T) (n : Nat) : Prop := Cond.code M.1 M.2.1 M.2.2.1 M.2.2.2 ∈ tbG ∧ Cond.initialized M.1.cls ∈ tbG ∧ plainName M.1.cls = true ∧ M.2.2.1 ≤ 29 ∧ (M.1.cls ≠ "java/lang/invoke/MethodHandle" ∧ M.1.cls ≠ "java/lang/invoke/VarHandle" ∧ (parseMethodDescriptor M.1.desc).map (fun d => d.parameters.length) = some n)
def MV (M : mt_T) : Prop := Cond.instanceMethod M.1 ∈ tbG ∧ Cond.selects M.1.cls M.1 M.1 ∈ tbG
def ML (own : String) (idx : Nat) (M : mt_T) : Prop := Cond.methodLink own idx M.1 ∈ tbG ∨ ∃ host, Cond.methodLinkNest own idx M.1 host ∈ nstT
theorem Bk.to {q : ev_T} {s U : State} {locs : List Loc} (h : Bk q s) (hW : s.WarmedH U.vm) (hS : va_S (fun a => q.1 ≤ a) s.heap U.heap locs) : Bk q U := by
  refine ⟨va_K.moved hW.alike h.1, fun w hw => ?_, SF_to h.2.2 hW (fun a g1 g2 => hS.2.1 a g1 g2)⟩
  rcases nst_ok w hw with ⟨a, i, b, n, d, z, rfl⟩ | ⟨a, i, x, z, rfl⟩
  · exact va_Nw.warmF hW (h.2.1 _ hw)
  · exact va_Nw.warmM hW (h.2.1 _ hw)
theorem Bw_blind (q : ev_T) (u : mm_T) (av : List Value) : FrameBlind (va_Pc av (Bw q u)) := by
  intro a U g mk h
  exact ⟨h.1, h.2.1, h.2.2.to (U := U.calling g mk a) (locs := []) (State.WarmedH.refl U) va_S.rf⟩
theorem tbG_in {M : mt_T} (h : Cond.code M.1 M.2.1 M.2.2.1 M.2.2.2 ∈ tbG) : GoodIn tbG (Cond.code M.1 M.2.1 M.2.2.1 M.2.2.2 :: tbG) := by
  intro w hw
  rcases List.mem_cons.mp hw with rfl | hw
  · exact ⟨h, tbG_good _ h⟩
  · exact ⟨hw, tbG_good _ hw⟩
section VC
variable {p : Program} {l : Launch} {e : Env} {R : Room} {s : State} {m : MethodId} {args : Array Value} {below : List Frame} {meth : Method} {c : Code} {nL : Nat} {q : ev_T} {Qf : State → Prop} {pc : Nat} {la : List (Option Value)} {st : List Value} {u : mm_T} {cc : ByteArray} {own : String}
/-- behind a call -/
theorem v_back {H : Heap} {locs : List Loc} {cells slots bc bs : Nat} {ls : Array Slot} {st0 rest : List Value} {Q : Option Value → mm_T → Prop} {a : Array Value} {g : JFrame} (hg : g = F0 m pc ls st0)
    (hr : va_Run p l e R s m args below meth c H locs cells slots bc bs g (rest.map (ev_v q)) (Qw q Q a) (fun x => q.1 ≤ x)) (h1 : lh q nL la ls) (h3 : va_S (fun a => q.1 ≤ a) s.heap H locs) (h4 : cells + u.1 ≤ R.cells) (h5 : slots + u.2.1 ≤ R.slots) (hb1 : bc ≤ u.1) (hb2 : bs ≤ u.2.1)
    (kk : ∀ v w, Q v w → Vv p l e R s m args below meth c nL q Qf (pc + 3) la (v.toList ++ rest) (u.1 - bc, u.2.1 - bs, w.2.2)) : W p l e R s m args below meth c H locs cells slots Qf g := by
  subst hg
  intro T hT X
  obtain ⟨v, st₀, t, T', L, h0, X', hL, e1, e2, ⟨⟨v', w, hv, hq, hw⟩, hz, hk⟩, stp⟩ := hr T hT X
  have hvv : v = v'.map (ev_v q) := by injection hv
  subst hvv
  rw [h0] at hz hk
  have hS' : va_S (fun a => q.1 ≤ a) s.heap T'.heap (locs ++ L) := ⟨Nat.le_trans h3.1 (by rw [e1]; exact hz), fun x g1 g2 => by rw [e1, hk x (Nat.lt_of_lt_of_le g1 h3.1) g2]; exact h3.2.1 x g1 g2, fun x hx => by
      rcases List.mem_append.mp hx with h | h
      · exact h3.2.2 x h
      · exact hL x h⟩
  have k2 := kk v' w hq ls T'.heap (locs ++ L) (cells + bc) (slots + bs) h1 (by rw [e1]; exact hw) hS' (by show cells + bc + (u.1 - bc) ≤ _; omega) (by show slots + bs + (u.2.1 - bs) ≤ _; omega) T' rfl X'
  obtain ⟨t2, a1, b1⟩ := k2
  have hm : (v'.toList ++ rest).map (ev_v q) = (v'.map (ev_v q)).toList ++ rest.map (ev_v q) := by cases v' <;> rfl
  rw [hm] at a1
  exact ⟨t2, stp t2 a1, b1⟩
theorem cat_map (q : ev_T) (l : List Value) : ((l.map (ev_v q)).map fun v => v.category).sum = (l.map fun v => v.category).sum := by
  rw [List.map_map]
  congr 1
  exact List.map_congr_left fun v _ => ev_cat q v
theorem v_pre (X : Cx p s m args c cc nL own q) {H : Heap} {locs : List Loc} (h2 : WD q u H) (h3 : va_S (fun a => q.1 ≤ a) s.heap H locs) (bc bs : Nat) (av : List Value) : ∀ U : State, U.heap = H → s.WarmedH U.vm → va_Pc (av.map (ev_v q)) (Bw q (bc, bs, u.2.2)) (av.map (ev_v q)).toArray U :=
  fun U hU hW => ⟨rfl, by rw [hU]; exact h2, X.2.2.2.2.2.1.to hW (by rw [hU]; exact h3)⟩
theorem v_invV (X : Cx p s m args c cc nL own q) {idx n b ci d bc bs : Nat} {M : mt_T} {T : u_T} {As st0 : List Value} {Q : Option Value → mm_T → Prop} (hM : Ctr l q M d (.ref b :: As) (bc, bs, u.2.2) Q) (hd : decode cc pc = .ok (.invokevirtual idx, 3)) (hL : ML own idx M) (hK : MK M n) (hV : MV M) (hk : kdT b = .inl ci) (hc : vwCl[ci]? = some (M.1.cls, T, nfT ci)) (hb : b < mN u) (hst : st0 = As.reverse ++ .ref b :: st) (hn : As.length = n) (hcat : (st.map fun v => v.category).sum ≤ 8) (hRf : d + 1 ≤ R.frames) (hRl : 48 * (d + 1) ≤ R.locals) (hb1 : bc ≤ u.1) (hb2 : bs ≤ u.2.1)
    (kk : ∀ v w, Q v w → Vv p l e R s m args below meth c nL q Qf (pc + 3) la (v.toList ++ st) (u.1 - bc, u.2.1 - bs, w.2.2)) : Vv p l e R s m args below meth c nL q Qf pc la st0 u := by
  intro ls H locs cells slots h1 h2 h3 h4 h5
  obtain ⟨k1, k2, k3, k4, k5, k6, k7⟩ := hK
  have hrecv := va_recv X.2.2.2.2.2.1.1 h2.2.1 hc (by rw [mm_at hb, mm_ob hk])
  have hms : st0.map (ev_v q) = (As.map (ev_v q)).reverse ++ .ref (q.1 + b) :: st.map (ev_v q) := by
    rw [hst, List.map_append, List.map_reverse, List.map_cons]
    show _ ++ Value.ref (ev_ad q b) :: _ = _
    rw [h2.ref hb]
  have hpre := v_pre X h2 h3 bc bs (.ref b :: As)
  have hpre' : ∀ U : State, U.heap = H → s.WarmedH U.vm → va_Pc (((Value.ref b) :: As).map (ev_v q)) (Bw q (bc, bs, u.2.2)) (Value.ref (q.1 + b) :: As.map (ev_v q)).toArray U := by
    intro U hU hW
    have hz := hpre U hU hW
    have he : ((Value.ref b) :: As).map (ev_v q) = Value.ref (q.1 + b) :: As.map (ev_v q) := by
      show Value.ref (ev_ad q b) :: _ = _
      rw [h2.ref hb]
    rw [he] at hz ⊢
    exact hz
  rcases hL with hL | ⟨host, hL⟩
  · refine v_back (g := F0 m pc ls (st0.map (ev_v q))) rfl (va_runV (As := As.map (ev_v q)) (C := M.1.cls) (nL := nL) ⟨X.1, X.2.1, X.2.2.1, X.2.2.2.1, X.2.2.2.2.1⟩ hM ⟨callB_of n X.2.2.2.2.1 (tbG_in k1) rfl rfl rfl (X.2.2.2.2.1 _ k2) (X.2.2.2.2.1 _ hL) ⟨k5, k6, k7⟩ ⟨hRf, by show 8 + (M.2.2.1 + 11) + 48 * d ≤ _; omega⟩, X.2.2.2.2.1 _ hV.1, X.2.2.2.2.1 _ hV.2⟩ ⟨Bw_blind _ _ _, hrecv, hpre'⟩ rfl (by rw [List.length_map]; exact hn) h1.1 hms (lv_room (by rw [cat_map]; exact hcat)) hd ⟨by show cells + bc ≤ _; omega, by show slots + bs ≤ _; omega⟩) h1 h3 h4 h5 hb1 hb2 kk
  · refine v_back (g := F0 m pc ls (st0.map (ev_v q))) rfl (va_runVN (As := As.map (ev_v q)) (C := M.1.cls) (nL := nL) ⟨X.1, X.2.1, X.2.2.1, X.2.2.2.1, X.2.2.2.2.1⟩ hM ⟨va_cnB n X.2.2.2.2.1 (tbG_in k1) rfl rfl rfl (X.2.2.2.2.2.1.2.1 _ hL) (X.2.2.2.2.1 _ k2) ⟨k5, k6, k7⟩ ⟨hRf, by show 8 + (M.2.2.1 + 11) + 48 * d ≤ _; omega⟩, X.2.2.2.2.1 _ hV.1, X.2.2.2.2.1 _ hV.2⟩ ⟨Bw_blind _ _ _, hrecv, hpre'⟩ rfl (by rw [List.length_map]; exact hn) h1.1 hms (lv_room (by rw [cat_map]; exact hcat)) hd ⟨by show cells + bc ≤ _; omega, by show slots + bs ≤ _; omega⟩) h1 h3 h4 h5 hb1 hb2 kk
theorem v_invS (X : Cx p s m args c cc nL own q) {idx n d bc bs : Nat} {M : mt_T} {As st0 : List Value} {Q : Option Value → mm_T → Prop} (hM : Ctr l q M d As (bc, bs, u.2.2) Q) (hd : decode cc pc = .ok (.invokestatic idx, 3)) (hL : ML own idx M) (hK : MK M n) (hS : Cond.static M.1 ∈ tbG) (hst : st0 = As.reverse ++ st) (hn : As.length = n) (hcat : (st.map fun v => v.category).sum ≤ 8) (hRf : d + 1 ≤ R.frames) (hRl : 48 * (d + 1) ≤ R.locals) (hb1 : bc ≤ u.1) (hb2 : bs ≤ u.2.1)
    (kk : ∀ v w, Q v w → Vv p l e R s m args below meth c nL q Qf (pc + 3) la (v.toList ++ st) (u.1 - bc, u.2.1 - bs, w.2.2)) : Vv p l e R s m args below meth c nL q Qf pc la st0 u := by
  intro ls H locs cells slots h1 h2 h3 h4 h5
  obtain ⟨k1, k2, k3, k4, k5, k6, k7⟩ := hK
  have hms : st0.map (ev_v q) = (As.map (ev_v q)).reverse ++ st.map (ev_v q) := by
    rw [hst, List.map_append, List.map_reverse]
  have hpre := v_pre X h2 h3 bc bs As
  rcases hL with hL | ⟨host, hL⟩
  · refine v_back (g := F0 m pc ls (st0.map (ev_v q))) rfl (va_runS (As := As.map (ev_v q)) (nL := nL) ⟨X.1, X.2.1, X.2.2.1, X.2.2.2.1, X.2.2.2.2.1⟩ hM ⟨callB_of n X.2.2.2.2.1 (tbG_in k1) rfl rfl rfl (X.2.2.2.2.1 _ k2) (X.2.2.2.2.1 _ hL) ⟨k5, k6, k7⟩ ⟨hRf, by show 8 + (M.2.2.1 + 11) + 48 * d ≤ _; omega⟩, X.2.2.2.2.1 _ hS⟩ ⟨Bw_blind _ _ _, hpre⟩ rfl (by rw [List.length_map]; exact hn) h1.1 hms (lv_room (by rw [cat_map]; exact hcat)) hd ⟨by show cells + bc ≤ _; omega, by show slots + bs ≤ _; omega⟩) h1 h3 h4 h5 hb1 hb2 kk
  · refine v_back (g := F0 m pc ls (st0.map (ev_v q))) rfl (va_runSN (As := As.map (ev_v q)) (nL := nL) ⟨X.1, X.2.1, X.2.2.1, X.2.2.2.1, X.2.2.2.2.1⟩ hM ⟨va_cnB n X.2.2.2.2.1 (tbG_in k1) rfl rfl rfl (X.2.2.2.2.2.1.2.1 _ hL) (X.2.2.2.2.1 _ k2) ⟨k5, k6, k7⟩ ⟨hRf, by show 8 + (M.2.2.1 + 11) + 48 * d ≤ _; omega⟩, X.2.2.2.2.1 _ hS, trivial⟩ ⟨Bw_blind _ _ _, hpre⟩ rfl (by rw [List.length_map]; exact hn) h1.1 hms (lv_room (by rw [cat_map]; exact hcat)) hd ⟨by show cells + bc ≤ _; omega, by show slots + bs ≤ _; omega⟩) h1 h3 h4 h5 hb1 hb2 kk
/-- a making method -/
theorem v_invI (X : Cx p s m args c cc nL own q) {idx n b d bc bs : Nat} {M : mt_T} {As st0 : List Value} {Q : Option Value → mm_T → Prop} (hM : Ctr l q M d (.ref b :: As) (bc, bs, u.2.2) Q) (hd : decode cc pc = .ok (.invokespecial idx, 3)) (hL : ML own idx M) (hK : MK M n) (hret : M.2.2.2 = none) (hin : M.1.name = "<init>") (hI : Cond.instanceMethod M.1 ∈ tbG) (hb : b < mN u) (hst : st0 = As.reverse ++ .ref b :: st) (hn : As.length = n) (hcat : (st.map fun v => v.category).sum ≤ 8) (hRf : d + 1 ≤ R.frames) (hRl : 48 * (d + 1) ≤ R.locals) (hb1 : bc ≤ u.1) (hb2 : bs ≤ u.2.1)
    (kk : ∀ v w, Q v w → Vv p l e R s m args below meth c nL q Qf (pc + 3) la (v.toList ++ st) (u.1 - bc, u.2.1 - bs, w.2.2)) : Vv p l e R s m args below meth c nL q Qf pc la st0 u := by
  intro ls H locs cells slots h1 h2 h3 h4 h5
  obtain ⟨y, cd, ml, ret⟩ := M
  dsimp only at hret
  subst hret
  obtain ⟨k1, k2, k3, k4, k5, k6, k7⟩ := hK
  have hms : st0.map (ev_v q) = (As.map (ev_v q)).reverse ++ .ref (q.1 + b) :: st.map (ev_v q) := by
    rw [hst, List.map_append, List.map_reverse, List.map_cons]
    show _ ++ Value.ref (ev_ad q b) :: _ = _
    rw [h2.ref hb]
  have hpre := v_pre X h2 h3 bc bs (.ref b :: As)
  have hpre' : ∀ U : State, U.heap = H → s.WarmedH U.vm → va_Pc (((Value.ref b) :: As).map (ev_v q)) (Bw q (bc, bs, u.2.2)) (Value.ref (q.1 + b) :: As.map (ev_v q)).toArray U := by
    intro U hU hW
    have hz := hpre U hU hW
    have he : ((Value.ref b) :: As).map (ev_v q) = Value.ref (q.1 + b) :: As.map (ev_v q) := by
      show Value.ref (ev_ad q b) :: _ = _
      rw [h2.ref hb]
    rw [he] at hz ⊢
    exact hz
  have hG := tbG_in (M := (y, cd, ml, none)) k1
  rcases hL with hL | ⟨host, hL⟩
  · refine v_back (g := F0 m pc ls (st0.map (ev_v q))) rfl (va_runI (As := As.map (ev_v q)) (nL := nL) ⟨X.1, X.2.1, X.2.2.1, X.2.2.2.1, X.2.2.2.2.1⟩ hM ⟨callB_of n X.2.2.2.2.1 hG rfl rfl rfl (X.2.2.2.2.1 _ k2) (X.2.2.2.2.1 _ hL) ⟨k5, k6, k7⟩ ⟨hRf, by show 8 + (ml + 11) + 48 * d ≤ _; dsimp only at k4; omega⟩, hin, X.2.2.2.2.1 _ hI⟩ ⟨Bw_blind _ _ _, hpre'⟩ rfl (by rw [List.length_map]; exact hn) h1.1 hms (lv_room (by rw [cat_map]; exact hcat)) hd ⟨by show cells + bc ≤ _; omega, by show slots + bs ≤ _; omega⟩) h1 h3 h4 h5 hb1 hb2 kk
  · refine v_back (g := F0 m pc ls (st0.map (ev_v q))) rfl (va_runIN (As := As.map (ev_v q)) (nL := nL) ⟨X.1, X.2.1, X.2.2.1, X.2.2.2.1, X.2.2.2.2.1⟩ hM ⟨va_cnB n X.2.2.2.2.1 hG rfl rfl rfl (X.2.2.2.2.2.1.2.1 _ hL) (X.2.2.2.2.1 _ k2) ⟨k5, k6, k7⟩ ⟨hRf, by show 8 + (ml + 11) + 48 * d ≤ _; dsimp only at k4; omega⟩, hin, X.2.2.2.2.1 _ hI⟩ ⟨Bw_blind _ _ _, hpre'⟩ rfl (by rw [List.length_map]; exact hn) h1.1 hms (lv_room (by rw [cat_map]; exact hcat)) hd ⟨by show cells + bc ≤ _; omega, by show slots + bs ≤ _; omega⟩) h1 h3 h4 h5 hb1 hb2 kk
end VC
section VR
variable {p : Program} {l : Launch} {e : Env} {R : Room} {s : State} {m : MethodId} {args : Array Value} {below : List Frame} {meth : Method} {c : Code} {nL : Nat} {q : ev_T} {pc : Nat} {la : List (Option Value)} {u : mm_T} {cc : ByteArray} {own : String} {Q : Option Value → mm_T → Prop}
theorem v_iret (X : Cx p s m args c cc nL own q) {v : Int32} (hlk : meth.locks = false) (hr : meth.sig.returnType = some .int) (hd : decode cc pc = .ok (.ireturn, 1)) (hQ : Q (some (.int v)) u) : Vv p l e R s m args below meth c nL q (MQ below (Qw q Q) args s R.cells R.slots (fun a => q.1 ≤ a)) pc la [.int v] u := by
  intro ls H locs cells slots h1 h2 h3 h4 h5
  refine W.widen (k := R.cells) (n := R.slots) (by omega) (by omega) ?_
  exact W.iret X.1 X.2.1 hr (fun t ht hW => ⟨⟨some (.int v), u, rfl, hQ, by rw [ht]; exact h2⟩, h3.F ht⟩) h3.2.2 hd hlk
theorem v_zret (X : Cx p s m args c cc nL own q) {v : Int32} {ty : FieldType} (hlk : meth.locks = false) (hr : meth.sig.returnType = some ty) (hn : narrow ty (.int v) = .int v) (hd : decode cc pc = .ok (.ireturn, 1)) (hQ : Q (some (.int v)) u) : Vv p l e R s m args below meth c nL q (MQ below (Qw q Q) args s R.cells R.slots (fun a => q.1 ≤ a)) pc la [.int v] u := by
  intro ls H locs cells slots h1 h2 h3 h4 h5
  refine W.widen (k := R.cells) (n := R.slots) (by omega) (by omega) ?_
  exact W.zret X.1 X.2.1 hr hn (fun t ht hW => ⟨⟨some (.int v), u, rfl, hQ, by rw [ht]; exact h2⟩, h3.F ht⟩) h3.2.2 hd hlk
theorem v_lret (X : Cx p s m args c cc nL own q) {v : Int64} (hlk : meth.locks = false) (hr : meth.sig.returnType = some .long) (hd : decode cc pc = .ok (.lreturn, 1)) (hQ : Q (some (.long v)) u) : Vv p l e R s m args below meth c nL q (MQ below (Qw q Q) args s R.cells R.slots (fun a => q.1 ≤ a)) pc la [.long v] u := by
  intro ls H locs cells slots h1 h2 h3 h4 h5
  refine W.widen (k := R.cells) (n := R.slots) (by omega) (by omega) ?_
  exact W.lret X.1 X.2.1 hr (fun t ht hW => ⟨⟨some (.long v), u, rfl, hQ, by rw [ht]; exact h2⟩, h3.F ht⟩) h3.2.2 hd hlk
theorem v_vret (X : Cx p s m args c cc nL own q) (hlk : meth.locks = false) (hr : meth.sig.returnType = none) (hd : decode cc pc = .ok (.return_, 1)) (hQ : Q none u) : Vv p l e R s m args below meth c nL q (MQ below (Qw q Q) args s R.cells R.slots (fun a => q.1 ≤ a)) pc la [] u := by
  intro ls H locs cells slots h1 h2 h3 h4 h5
  refine W.widen (k := R.cells) (n := R.slots) (by omega) (by omega) ?_
  exact W.vret X.1 X.2.1 hr (fun t ht hW => ⟨⟨none, u, rfl, hQ, by rw [ht]; exact h2⟩, h3.F ht⟩) h3.2.2 hd hlk
theorem v_aret (X : Cx p s m args c cc nL own q) {r : Option Nat} {rt : FieldType} (hlk : meth.locks = false) (hr : meth.sig.returnType = some rt) (hrt : (∃ n, rt = .object n) ∨ ∃ t, rt = .array t) (hd : decode cc pc = .ok (.areturn, 1)) (hQ : Q (some (va_rf r)) u) : Vv p l e R s m args below meth c nL q (MQ below (Qw q Q) args s R.cells R.slots (fun a => q.1 ≤ a)) pc la [va_rf r] u := by
  intro ls H locs cells slots h1 h2 h3 h4 h5
  refine W.widen (k := R.cells) (n := R.slots) (by omega) (by omega) ?_
  exact W.aret X.1 X.2.1 hr hrt (by cases r; exact Or.inl rfl; exact Or.inr ⟨_, rfl⟩) (fun t ht hW => ⟨⟨some (va_rf r), u, rfl, hQ, by rw [ht]; exact h2⟩, h3.F ht⟩) h3.2.2 hd hlk
end VR
/-- a method's contract out of the walk of its body -/
theorem Ctr.of {l : Launch} {q : ev_T} {y : MethodName} {cc : ByteArray} {mL : Nat} {ret : Option FieldType} {d : Nat} {av : List Value} {u : mm_T} {Q : Option Value → mm_T → Prop} {lb : List (Option Value)} (hy : plainName y.cls = true) (hle : (lg_sl (av.map (ev_v q))).length ≤ mL) (hlb : lb.length = mL) (hla : ∀ (k : Nat) (v : Value), lb[k]? = some (some v) → (k, ev_v q v) ∈ lv_args 0 (av.map (ev_v q)))
    (body : ∀ (p : Program) (e : Env) (s : State) (m : MethodId) (args : Array Value) (below : List Frame) (meth : Method) (c : Code), Cx p s m args c cc mL y.cls q → meth.sig.returnType = ret → meth.locks = false → meth.name = y.name →
      Vv p l e (rmT d u.1 u.2.1) s m args below meth c mL q (MQ below (Qw q Q) args s u.1 u.2.1 (fun a => q.1 ≤ a)) 0 lb [] u) : Ctr l q (y, cc, mL, ret) d av u Q := by
  refine Met.ofW (cc := cc) (maxL := mL) (ret := ret) hy rfl ?_
  intro p e s m args below meth c s₁ B hml hv
  obtain ⟨rfl, hWD, hBk⟩ := hv
  have hts := atoms_spec (ws := Cond.code y cc mL ret :: tbG) B.pre
  have hown : s.vm.findClass y.cls = some m.cls := findClass_of_methodNamed B.named
  have hin : meth.name = y.name := (name_of_methodNamed B.named B.method).1
  have hl := lv_entry (av.map (ev_v q)) (n := mL) hle
  rw [lg_entry_eq]
  refine body p e s m _ below meth c ⟨B.exec, B.bytes, hml, hown, fun w hw => hts w (List.mem_cons_of_mem _ hw), hBk, by have := hWD.1; omega⟩ B.returns B.notSynchronized hin _ s.heap [] 0 0 ⟨hl.1, hlb, hl.2.1, fun k v hk => hl.2.2 _ (hla k v hk)⟩ hWD va_S.rf (by show 0 + u.1 ≤ u.1; omega) (by show 0 + u.2.1 ≤ u.2.1; omega)
end
section
/-! what stands still, the JDK's rows, copies -/
section VS
variable {p : Program} {l : Launch} {e : Env} {R : Room} {s : State} {m : MethodId} {args : Array Value} {below : List Frame} {meth : Method} {c : Code} {nL : Nat} {q : ev_T} {Qf : State → Prop} {pc : Nat} {la : List (Option Value)} {st : List Value} {u : mm_T} {cc : ByteArray} {own : String}
theorem Cx.sf (X : Cx p s m args c cc nL own q) : SF q s s.heap := X.2.2.2.2.2.1.2.2
theorem v_gets (X : Cx p s m args c cc nL own q) {idx : Nat} {C n d : String} {v : Value} (hd : decode cc pc = .ok (.getstatic idx, 3)) (hl : Cond.fieldLink own idx C n d ∈ tbG ∨ ∃ host, Cond.fieldLinkNest own idx C n d host ∈ nstT) (hZ : va_Z C n d (ev_v q v) (fun a => q.1 ≤ a) s s.heap) (kk : Vv p l e R s m args below meth c nL q Qf (pc + 3) la (v :: st) u) : Vv p l e R s m args below meth c nL q Qf pc la st u := by
  intro ls H locs cells slots h1 h2 h3 h4 h5
  rcases hl with hl | ⟨host, hl⟩
  · exact va_gets X.1 X.2.1 hZ h3 X.2.2.2.1 (X.2.2.2.2.1 _ hl) (fun x hx => hx) hd (kk ls H locs cells slots h1 h2 h3 h4 h5)
  · exact va_getsN X.1 X.2.1 hZ h3 X.2.2.2.1 (va_Nw.use rfl (X.2.2.2.2.2.1.2.1 _ hl)) (fun x hx => hx) hd (kk ls H locs cells slots h1 h2 h3 h4 h5)
theorem v_sget (X : Cx p s m args c cc nL own q) {idx a : Nat} {o n d : String} {v : Value} (hd : decode cc pc = .ok (.getfield idx, 3)) (hl : Cond.fieldLink own idx o n d ∈ tbG) (hE : va_OF o n d (ev_v q v) (ev_ad q a) (fun a => q.1 ≤ a) s s.heap) (kk : Vv p l e R s m args below meth c nL q Qf (pc + 3) la (v :: st) u) : Vv p l e R s m args below meth c nL q Qf pc la (.ref a :: st) u := by
  intro ls H locs cells slots h1 h2 h3 h4 h5
  exact vk_getf X.1 X.2.1 hE h3 X.2.2.2.1 (X.2.2.2.2.1 _ hl) (fun x hx => hx) hd (kk ls H locs cells slots h1 h2 h3 h4 h5)
theorem v_salen (X : Cx p s m args c cc nL own q) {a N : Nat} {ty : FieldType} {f : Nat → Value} {v : Int32} (hd : decode cc pc = .ok (.arraylength, 1)) (hT : va_T ty (ev_ad q a) N f (fun a => q.1 ≤ a) s s.heap) (hv : Int32.ofNat N = v) (kk : Vv p l e R s m args below meth c nL q Qf (pc + 1) la (.int v :: st) u) : Vv p l e R s m args below meth c nL q Qf pc la (.ref a :: st) u :=
  fun ls H locs cells slots h1 h2 h3 h4 h5 => va_tlen X.1 X.2.1 hT h3 hv hd (kk ls H locs cells slots h1 h2 h3 h4 h5)
theorem v_siald (X : Cx p s m args c cc nL own q) {a N : Nat} {f : Nat → Value} {i : Int32} {v : Value} (hd : decode cc pc = .ok (.iaload, 1)) (hT : va_T .int (ev_ad q a) N f (fun a => q.1 ≤ a) s s.heap) (hin : vp_in i N) (hv : f i.toNatClampNeg = ev_v q v) (kk : Vv p l e R s m args below meth c nL q Qf (pc + 1) la (v :: st) u) : Vv p l e R s m args below meth c nL q Qf pc la (.int i :: .ref a :: st) u :=
  fun ls H locs cells slots h1 h2 h3 h4 h5 => va_ti X.1 X.2.1 hT h3 hin hv hd (kk ls H locs cells slots h1 h2 h3 h4 h5)
theorem v_sbald (X : Cx p s m args c cc nL own q) {a N : Nat} {f : Nat → Value} {i : Int32} {v : Value} (hd : decode cc pc = .ok (.baload, 1)) (hT : va_T .byte (ev_ad q a) N f (fun a => q.1 ≤ a) s s.heap) (hin : vp_in i N) (hv : f i.toNatClampNeg = ev_v q v) (kk : Vv p l e R s m args below meth c nL q Qf (pc + 1) la (v :: st) u) : Vv p l e R s m args below meth c nL q Qf pc la (.int i :: .ref a :: st) u :=
  fun ls H locs cells slots h1 h2 h3 h4 h5 => va_tb X.1 X.2.1 hT h3 hin hv hd (kk ls H locs cells slots h1 h2 h3 h4 h5)
theorem v_saald (X : Cx p s m args c cc nL own q) {a N : Nat} {C : String} {f : Nat → Value} {i : Int32} {v : Value} (hd : decode cc pc = .ok (.aaload, 1)) (hT : va_T (.object C) (ev_ad q a) N f (fun a => q.1 ≤ a) s s.heap) (hin : vp_in i N) (hv : f i.toNatClampNeg = ev_v q v) (kk : Vv p l e R s m args below meth c nL q Qf (pc + 1) la (v :: st) u) : Vv p l e R s m args below meth c nL q Qf pc la (.int i :: .ref a :: st) u :=
  fun ls H locs cells slots h1 h2 h3 h4 h5 => vb_tq X.1 X.2.1 hT h3 hin hv hd (kk ls H locs cells slots h1 h2 h3 h4 h5)
theorem v_ldcS (X : Cx p s m args c cc nL own q) {i a : Nat} {tx : String} (hd : decode cc pc = .ok (.ldc i, 2)) (hR : vk_R own i tx (ev_ad q a) s) (kk : Vv p l e R s m args below meth c nL q Qf (pc + 2) la (.ref a :: st) u) : Vv p l e R s m args below meth c nL q Qf pc la st u :=
  fun ls H locs cells slots h1 h2 h3 h4 h5 => va_ldcS X.1 X.2.1 X.2.2.2.1 hR hd (kk ls H locs cells slots h1 h2 h3 h4 h5)
theorem v_objInit (X : Cx p s m args c cc nL own q) {idx : Nat} {a : Nat} (hd : decode cc pc = .ok (.invokespecial idx, 3)) (hl : Cond.methodLink own idx Lib.objectInit ∈ tbG) (hi : Cond.instanceMethod Lib.objectInit ∈ tbG) (hc : Cond.code Lib.objectInit ⟨#[0xb1]⟩ 1 none ∈ tbG) (hRf : 1 ≤ R.frames) (hRl : 20 ≤ R.locals) (hcat : (st.map fun v => v.category).sum ≤ 8) (kk : Vv p l e R s m args below meth c nL q Qf (pc + 3) la st u) : Vv p l e R s m args below meth c nL q Qf pc la (.ref a :: st) u := by
  intro ls H locs cells slots h1 h2 h3 h4 h5
  exact W.objInit X.1 X.2.1 X.2.2.2.1 (X.2.2.2.2.1 _ hl) (X.2.2.2.2.1 _ hi) (X.2.2.2.2.1 _ hc) (g := F0 m pc ls (.ref (ev_ad q a) :: st.map (ev_v q))) rfl (by show ls.size = _; rw [X.2.2.1]; exact h1.1) rfl hd hRf (by rw [cat_map]; show 2 * 0 + _ + 12 ≤ _; omega) (kk ls H locs cells slots h1 h2 h3 h4 h5)
theorem v_max (X : Cx p s m args c cc nL own q) {idx : Nat} {x y z : Int32} (hd : decode cc pc = .ok (.invokestatic idx, 3)) (hl : Cond.methodLink own idx Lib.Math.max.name ∈ tbG) (hs : Cond.static Lib.Math.max.name ∈ tbG) (hi : Cond.initialized "java/lang/Math" ∈ tbG) (hc : Cond.code Lib.Math.max.name Lib.Math.max.code 2 (some .int) ∈ tbG) (hRf : 1 ≤ R.frames) (hRl : 21 ≤ R.locals) (hcat : (st.map fun v => v.category).sum ≤ 8) (hz : (if x < y then y else x) = z) (kk : Vv p l e R s m args below meth c nL q Qf (pc + 3) la (.int z :: st) u) : Vv p l e R s m args below meth c nL q Qf pc la (.int y :: .int x :: st) u := by
  subst hz
  intro ls H locs cells slots h1 h2 h3 h4 h5
  exact va_mmax X.1 X.2.1 (by rw [X.2.2.1, h1.1]) X.2.2.2.1 (X.2.2.2.2.1 _ hl) (X.2.2.2.2.1 _ hs) (X.2.2.2.2.1 _ hi) (X.2.2.2.2.1 _ hc) hRf (by rw [cat_map]; omega) (by omega) (by omega) hd (kk ls H locs cells slots h1 h2 h3 h4 h5)
theorem v_min (X : Cx p s m args c cc nL own q) {idx : Nat} {x y z : Int32} (hd : decode cc pc = .ok (.invokestatic idx, 3)) (hl : Cond.methodLink own idx Lib.Math.min.name ∈ tbG) (hs : Cond.static Lib.Math.min.name ∈ tbG) (hi : Cond.initialized "java/lang/Math" ∈ tbG) (hc : Cond.code Lib.Math.min.name Lib.Math.min.code 2 (some .int) ∈ tbG) (hRf : 1 ≤ R.frames) (hRl : 21 ≤ R.locals) (hcat : (st.map fun v => v.category).sum ≤ 8) (hz : (if y < x then y else x) = z) (kk : Vv p l e R s m args below meth c nL q Qf (pc + 3) la (.int z :: st) u) : Vv p l e R s m args below meth c nL q Qf pc la (.int y :: .int x :: st) u := by
  subst hz
  intro ls H locs cells slots h1 h2 h3 h4 h5
  exact va_mmin X.1 X.2.1 (by rw [X.2.2.1, h1.1]) X.2.2.2.1 (X.2.2.2.2.1 _ hl) (X.2.2.2.2.1 _ hs) (X.2.2.2.2.1 _ hi) (X.2.2.2.2.1 _ hc) hRf (by rw [cat_map]; omega) (by omega) (by omega) hd (kk ls H locs cells slots h1 h2 h3 h4 h5)
/-- a constant object into a row of references of ours -/
theorem v_aastS (X : Cx p s m args c cc nL own q) {bc bs : Nat} {g : mu_T} {a b t len : Nat} {i : Int32} {E : String} (hd : decode cc pc = .ok (.aastore, 1)) (hk : kdT a = .inr (t, len)) (hty : tyT[t]? = some (.object E)) (ht : ¬ t < 3) (ha : a < gN g) (hin : vp_in i len) (hO : va_O E (ev_ad q b) (fun a => q.1 ≤ a) s s.heap) (kk : Vv p l e R s m args below meth c nL q Qf (pc + 1) la st (bc, bs, xR g a i.toNatClampNeg (some b))) : Vv p l e R s m args below meth c nL q Qf pc la (.ref b :: .int i :: .ref a :: st) (bc, bs, g) := by
  intro ls H locs cells slots h1 h2 h3 h4 h5
  show W p l e R s m args below meth c H locs cells slots Qf (F0 m pc ls (.ref (ev_ad q b) :: .int i :: .ref (ev_ad q a) :: st.map (ev_v q)))
  rw [h2.ref ha]
  have hat : H[q.1 + a]? = some (vp_cell (q.2.2.1 t) (len, .inr (.inr (.inr (.inr (fun j => (gR g a j).map (ev_ad q))))))) := by have := h2.at ha; rw [mm_ar hk ht] at this; exact this
  have hlt : i.toNatClampNeg < len := Nat.not_le.mp fun z => hin (Or.inr z)
  have h0 : ¬ i < 0 := fun z => hin (Or.inl z)
  obtain ⟨cellV, g1, g2, g3, g4⟩ := hO.kept h3.2.1
  obtain ⟨kA, comp, k1, k2, k3, -⟩ := (X.2.2.2.2.2.1.1.2 t _ (ev_ty hty)).2
  have hcomp : comp = cellV.cls := Option.some.inj (k3.symm.trans g3)
  subst hcomp
  obtain ⟨kC, hkC⟩ : ∃ kC, s.vm.classes[cellV.cls]? = some kC := Vm.classAt_of_findClass g3
  refine W.aast X.1 X.2.1 hat (fun z h => by cases h) (fun h => by cases h) k1 k2 rfl hkC ⟨h0, by show _ < (arrV _ _ _).slots.size; rw [arrV_size]; exact hlt⟩ g1 (fun z h => by rw [h] at g2; cases g2) hkC (va_asg _ _) rfl rfl hd fun H1 e1 z oq => ?_
  exact kk ls H1 _ cells slots h1 (h2.astR ha hk ht e1 z oq) (h3.put z oq (Nat.le_add_right _ _)) h4 h5
/-- bytes or ints of one row behind those of another -/
theorem v_copy (X : Cx p s m args c cc nL own q) {bc bs : Nat} {g : mu_T} {idx a0 a1 t n0 n1 : Nat} {ty : FieldType} {sp dp n : Int32} {f : Nat → Int32} (hd : decode cc pc = .ok (.invokestatic idx, 3)) (hl : Cond.methodLink own idx arraycopyName ∈ tbG) (hnat : Cond.native arraycopyName ∈ tbG) (hstat : Cond.static arraycopyName ∈ tbG) (hini : Cond.initialized "java/lang/System" ∈ tbG)
    (hk0 : kdT a0 = .inr (1, n0)) (hk1 : kdT a1 = .inr (1, n1)) (ha0 : a0 < gN g) (ha1 : a1 < gN g) (g1 : ¬ sp < 0) (g2 : ¬ dp < 0) (g3 : ¬ n < 0) (g4 : sp.toNatClampNeg + n.toNatClampNeg ≤ n0) (g5 : dp.toNatClampNeg + n.toNatClampNeg ≤ n1) (hRf : 1 ≤ R.frames) (hRl : 8 + (nativeFrameWords "java/lang/System" "arraycopy" 5 + 11) ≤ R.locals) (hcat : (st.map fun v => v.category).sum ≤ 8) (hf : va_cpy (gI g a0) (gI g a1) sp.toNatClampNeg dp.toNatClampNeg n.toNatClampNeg = f)
    (kk : Vv p l e R s m args below meth c nL q Qf (pc + 3) la st (bc, bs, xA g a1 f)) : Vv p l e R s m args below meth c nL q Qf pc la (.int n :: .int dp :: .ref a1 :: .int sp :: .ref a0 :: st) (bc, bs, g) := by
  subst hf
  intro ls H locs cells slots h1 h2 h3 h4 h5
  show W p l e R s m args below meth c H locs cells slots Qf (F0 m pc ls (.int n :: .int dp :: .ref (ev_ad q a1) :: .int sp :: .ref (ev_ad q a0) :: st.map (ev_v q)))
  rw [h2.ref ha0, h2.ref ha1]
  have nn : ∀ z : Int32, ¬ z < 0 → z.toInt = (z.toNatClampNeg : Int) := by
    intro z hz
    have hz0 : (0 : Int) ≤ z.toInt := by
      have := Int32.not_lt.mp hz
      simpa using Int32.le_iff_toInt_le.mp this
    show z.toInt = ((z.toInt.toNat : Nat) : Int)
    omega
  have hc0 : H[q.1 + a0]? = some (vp_cell (q.2.2.1 1) (n0, .inl (gI g a0))) := by have := h2.at ha0; rw [mm_ai hk0 (by decide)] at this; exact this
  have hc1 : H[q.1 + a1]? = some (vp_cell (q.2.2.1 1) (n1, .inl (gI g a1))) := by have := h2.at ha1; rw [mm_ai hk1 (by decide)] at this; exact this
  have hty1 := (X.2.2.2.2.2.1.1.2 1 _ (ev_ty (ty := .byte) rfl)).1
  intro T hT Y
  obtain ⟨-, k0, hkk0, cm0, hkd0⟩ := hty1 n0 (fun j => .int (gI g a0 j))
  obtain ⟨-, k1, hkk1, cm1, hkd1⟩ := hty1 n1 (fun j => .int (gI g a1 j))
  have hbyte : ∀ j, fits .byte (.int (gI g a0 j)) = true := fun j => by
    have hb := h2.2.2.2.1 a0 n0 hk0 j
    have hb' : (gI g a0 j).toInt8.toInt32 = gI g a0 j := hb
    rw [← hb']; exact pk_fb _
  obtain ⟨vm', X', step⟩ := Y.arraycopy X.1 X.2.2.2.1 (X.2.2.2.2.1 _ hl) (X.2.2.2.2.1 _ hnat) (X.2.2.2.2.1 _ hstat) (X.2.2.2.2.1 _ hini) (src := q.1 + a0) (dst := q.1 + a1) (cs := vp_cell (q.2.2.1 1) (n0, .inl (gI g a0))) (cd := vp_cell (q.2.2.1 1) (n1, .inl (gI g a1))) (srcPos := sp) (destPos := dp) (n := n) (by rw [hT]; exact hc0) (by rw [hT]; exact hc1)
    (fun _ h => by cases h) (fun _ h => by cases h) (fun h => by cases h) (fun h => by cases h) hkk0 hkk1 hkd0 hkd1 (by simp [refKind]) g1 g2 g3
    (by rw [nn sp g1, nn n g3]; show ¬ _ > ((arrV (q.2.2.1 1) n0 (fun j => .int (gI g a0 j))).slots.size : Int); rw [arrV_size]; omega)
    (by rw [nn dp g2, nn n g3]; show ¬ _ > ((arrV (q.2.2.1 1) n1 (fun j => .int (gI g a1 j))).slots.size : Int); rw [arrV_size]; omega)
    (fun vm₁ _ i hi => by
      have e : (vp_cell (q.2.2.1 1) (n0, .inl (gI g a0))).slots.getD (sp.toNatClampNeg + i) .null = .int (gI g a0 (sp.toNatClampNeg + i)) := by
        show (arrV (q.2.2.1 1) n0 (fun j => .int (gI g a0 j))).slots.getD _ _ = _
        rw [Array.getD_eq_getD_getElem?, arrV_read _ _ (by omega)]
        rfl
      refine ⟨?_, ?_⟩
      · rw [e]
        exact hbyte _
      · rw [e]
        exact trivial)
    (g := F0 m pc ls (.int n :: .int dp :: .ref (q.1 + a1) :: .int sp :: .ref (q.1 + a0) :: st.map (ev_v q))) rfl (by show ls.size = _; rw [X.2.2.1]; exact h1.1) (rest := st.map (ev_v q)) rfl (by rw [X.2.1]; exact hd) hRf (by rw [cat_map]; show 2 * 0 + _ + _ ≤ _; omega)
  have e1 : copied (vp_cell (q.2.2.1 1) (n0, .inl (gI g a0))) (vp_cell (q.2.2.1 1) (n1, .inl (gI g a1))) sp dp n = vp_cell (q.2.2.1 1) (n1, .inl (va_cpy (gI g a0) (gI g a1) sp.toNatClampNeg dp.toNatClampNeg n.toNatClampNeg)) := va_copied (fun z => .int z) _ _ (gI g a0) (gI g a1) g4
  rw [e1] at X' step
  have hl1 : q.1 + a1 < H.size := (Array.getElem?_eq_some_iff.mp hc1).1
  generalize hcell : vp_cell (q.2.2.1 1) (n1, .inl (va_cpy (gI g a0) (gI g a1) sp.toNatClampNeg dp.toNatClampNeg n.toNatClampNeg)) = cellN at X' step
  have hheap : ((T.setVm vm').setCell (q.1 + a1) cellN).heap = H.setIfInBounds (q.1 + a1) cellN := by rw [← hT]; rfl
  have oq : ∀ x : Nat, x ≠ q.1 + a1 → (H.setIfInBounds (q.1 + a1) cellN)[x]? = H[x]? := fun x hx => by simp [Array.getElem?_setIfInBounds, Ne.symm hx]
  have hz : (H.setIfInBounds (q.1 + a1) cellN).size = H.size := by simp
  have hW : WD q (bc, bs, xA g a1 (va_cpy (gI g a0) (gI g a1) sp.toNatClampNeg dp.toNatClampNeg n.toNatClampNeg)) (H.setIfInBounds (q.1 + a1) cellN) := by
    refine WD.upd (u := (bc, bs, g)) (a := a1) h2 rfl (mmB_A (u := (bc, bs, g)) h2.2.2.2.1 ?_) (mmZ_A (u := (bc, bs, g)) h2.2.2.2.2 ha1) ?_ (fun i hi => mm_E_A (u := (bc, bs, g)) hi) hz oq
    · intro len hlen j
      simp only [va_cpy]
      by_cases hj : dp.toNatClampNeg ≤ j ∧ j < dp.toNatClampNeg + n.toNatClampNeg
      · rw [if_pos hj]; exact h2.2.2.2.1 a0 n0 hk0 _
      · rw [if_neg hj]; exact h2.2.2.2.1 a1 n1 hk1 _
    · rw [mm_ai hk1 (by decide)]
      show (H.setIfInBounds (q.1 + a1) cellN)[q.1 + a1]? = some (vp_cell _ (n1, .inl _))
      have hrow : mI (bc, bs, xA g a1 (va_cpy (gI g a0) (gI g a1) sp.toNatClampNeg dp.toNatClampNeg n.toNatClampNeg)) a1 = va_cpy (gI g a0) (gI g a1) sp.toNatClampNeg dp.toNatClampNeg n.toNatClampNeg := if_pos rfl
      rw [hrow, hcell]
      simp [hl1]
  obtain ⟨t2, b1, b2⟩ := kk ls _ _ cells slots h1 hW ⟨by rw [hz]; exact h3.1, fun x y1 y2 => by
      rw [oq x (fun e => y2 (by rw [e]; exact Nat.le_add_right _ _))]
      exact h3.2.1 x y1 y2, fun x hx => by
      rcases List.mem_append.mp hx with h | h
      · exact h3.2.2 x h
      · obtain ⟨z, -, hz⟩ := List.mem_map.mp h
        rw [← hz]
        exact Nat.le_add_right _ _⟩ h4 h5 _ hheap X'
  exact ⟨t2, step t2 b1, b2⟩
/-- a call on a constant object -/
theorem v_invVS (X : Cx p s m args c cc nL own q) {idx n b d bc bs : Nat} {M : mt_T} {As st0 : List Value} {Q : Option Value → mm_T → Prop} (hM : Ctr l q M d (.ref b :: As) (bc, bs, u.2.2) Q) (hd : decode cc pc = .ok (.invokevirtual idx, 3)) (hL : Cond.methodLink own idx M.1 ∈ tbG) (hK : MK M n) (hV : MV M) (hO : va_O M.1.cls (ev_ad q b) (fun a => q.1 ≤ a) s s.heap) (hst : st0 = As.reverse ++ .ref b :: st) (hn : As.length = n) (hcat : (st.map fun v => v.category).sum ≤ 8) (hRf : d + 1 ≤ R.frames) (hRl : 48 * (d + 1) ≤ R.locals) (hb1 : bc ≤ u.1) (hb2 : bs ≤ u.2.1)
    (kk : ∀ v w, Q v w → Vv p l e R s m args below meth c nL q Qf (pc + 3) la (v.toList ++ st) (u.1 - bc, u.2.1 - bs, w.2.2)) : Vv p l e R s m args below meth c nL q Qf pc la st0 u := by
  intro ls H locs cells slots h1 h2 h3 h4 h5
  obtain ⟨k1, k2, k3, k4, k5, k6, k7⟩ := hK
  have hrecv : ∃ cell : Cell, H[ev_ad q b]? = some cell ∧ cell.vm.isStatics = false ∧ s.vm.findClass M.1.cls = some cell.cls := by
    obtain ⟨cell, y1, y2, y3, -⟩ := hO.kept h3.2.1
    exact ⟨cell, y1, y2, y3⟩
  have hms : st0.map (ev_v q) = (As.map (ev_v q)).reverse ++ .ref (ev_ad q b) :: st.map (ev_v q) := by
    rw [hst, List.map_append, List.map_reverse, List.map_cons]
    rfl
  have hpre := v_pre X h2 h3 bc bs (.ref b :: As)
  refine v_back (g := F0 m pc ls (st0.map (ev_v q))) rfl (va_runV (As := As.map (ev_v q)) (C := M.1.cls) (nL := nL) ⟨X.1, X.2.1, X.2.2.1, X.2.2.2.1, X.2.2.2.2.1⟩ hM ⟨callB_of n X.2.2.2.2.1 (tbG_in k1) rfl rfl rfl (X.2.2.2.2.1 _ k2) (X.2.2.2.2.1 _ hL) ⟨k5, k6, k7⟩ ⟨hRf, by show 8 + (M.2.2.1 + 11) + 48 * d ≤ _; omega⟩, X.2.2.2.2.1 _ hV.1, X.2.2.2.2.1 _ hV.2⟩ ⟨Bw_blind _ _ _, hrecv, hpre⟩ rfl (by rw [List.length_map]; exact hn) h1.1 hms (lv_room (by rw [cat_map]; exact hcat)) hd ⟨by show cells + bc ≤ _; omega, by show slots + bs ≤ _; omega⟩) h1 h3 h4 h5 hb1 hb2 kk
end VS
end
section
/-! names: links of fields and methods, the code as lists -/
def decAll (c : ByteArray) (L : List (Nat × Instr × Nat)) : Bool := L.all (fun z => decide (decode c z.1 = .ok (z.2.1, z.2.2)))
theorem dk {c : ByteArray} {L : List (Nat × Instr × Nat)} (h : decAll c L = true) (k : Nat) {pc n : Nat} {i : Instr} (hk : L[k]? = some (pc, i, n)) : decode c pc = .ok (i, n) := by
  have h1 := List.all_eq_true.mp h (pc, i, n) (List.mem_of_getElem? hk)
  exact of_decide_eq_true h1
theorem in_Mi : ∀ w ∈ u_ws "RescanMill" T_Mi 10, w ∈ tbG := in_ps [331, 333, 335, 337, 339, 341, 343, 345, 347, 349] (by decide +kernel) (by decide +kernel)
theorem CK_Mi : CK 0 := by
  intro C T h
  cases h
  exact ⟨by decide +kernel, by decide +kernel, by decide +kernel⟩
theorem in_By : ∀ w ∈ u_ws "RescanMill$Bytes" T_By 3, w ∈ tbG := in_ps [50, 52, 54] (by decide +kernel) (by decide +kernel)
theorem CK_By : CK 1 := by
  intro C T h
  cases h
  exact ⟨by decide +kernel, by decide +kernel, by decide +kernel⟩
theorem in_Ca : ∀ w ∈ u_ws "RescanMill$Calls" T_Ca 9, w ∈ tbG := in_ps [131, 133, 135, 137, 139, 141, 143, 145, 147] (by decide +kernel) (by decide +kernel)
theorem CK_Ca : CK 2 := by
  intro C T h
  cases h
  exact ⟨by decide +kernel, by decide +kernel, by decide +kernel⟩
theorem in_Ce : ∀ w ∈ u_ws "RescanMill$Cells" T_Ce 5, w ∈ tbG := in_ps [170, 172, 174, 176, 178] (by decide +kernel) (by decide +kernel)
theorem CK_Ce : CK 3 := by
  intro C T h
  cases h
  exact ⟨by decide +kernel, by decide +kernel, by decide +kernel⟩
theorem in_Ch : ∀ w ∈ u_ws "RescanMill$Chain" T_Ch 3, w ∈ tbG := in_ps [208, 210, 212] (by decide +kernel) (by decide +kernel)
theorem CK_Ch : CK 4 := by
  intro C T h
  cases h
  exact ⟨by decide +kernel, by decide +kernel, by decide +kernel⟩
theorem in_Di : ∀ w ∈ u_ws "RescanMill$Diversions" T_Di 3, w ∈ tbG := in_ps [273, 275, 277] (by decide +kernel) (by decide +kernel)
theorem CK_Di : CK 5 := by
  intro C T h
  cases h
  exact ⟨by decide +kernel, by decide +kernel, by decide +kernel⟩
theorem in_Ex : ∀ w ∈ u_ws "RescanMill$Expression" T_Ex 10, w ∈ tbG := in_ps [300, 302, 304, 306, 308, 310, 312, 314, 316, 318] (by decide +kernel) (by decide +kernel)
theorem CK_Ex : CK 6 := by
  intro C T h
  cases h
  exact ⟨by decide +kernel, by decide +kernel, by decide +kernel⟩
theorem in_In : ∀ w ∈ u_ws "RescanMill$Input" T_In 12, w ∈ tbG := in_ps [85, 87, 89, 91, 93, 95, 97, 99, 101, 103, 105, 107] (by decide +kernel) (by decide +kernel)
theorem CK_In : CK 7 := by
  intro C T h
  cases h
  exact ⟨by decide +kernel, by decide +kernel, by decide +kernel⟩
theorem in_Me : ∀ w ∈ u_ws "RescanMill$Meaning" T_Me 5, w ∈ tbG := in_ps [224, 226, 228, 230, 232] (by decide +kernel) (by decide +kernel)
theorem CK_Me : CK 8 := by
  intro C T h
  cases h
  exact ⟨by decide +kernel, by decide +kernel, by decide +kernel⟩
theorem in_Ms : ∀ w ∈ u_ws "RescanMill$Meanings" T_Ms 6, w ∈ tbG := in_ps [244, 246, 248, 250, 252, 254] (by decide +kernel) (by decide +kernel)
theorem CK_Ms : CK 9 := by
  intro C T h
  cases h
  exact ⟨by decide +kernel, by decide +kernel, by decide +kernel⟩
theorem in_Rf : ∀ w ∈ u_ws "RescanMillModel" T_Rf 47, w ∈ tbG := in_ps [969, 971, 973, 975, 977, 979, 981, 983, 985, 987, 989, 991, 993, 995, 997, 999, 1001, 1003, 1005, 1007, 1009, 1011, 1013, 1015, 1017, 1019, 1021, 1023, 1025, 1027, 1029, 1031, 1033, 1035, 1037, 1039, 1041, 1043, 1045, 1047, 1049, 1051, 1053, 1055, 1057, 1059, 1061] (by decide +kernel) (by decide +kernel)
theorem CK_Rf : CK 10 := by
  intro C T h
  cases h
  exact ⟨by decide +kernel, by decide +kernel, by decide +kernel⟩
theorem F_By_15 : FL "RescanMill$Bytes" 15 1 0 := ⟨"RescanMill$Bytes", T_By, rfl, by decide, in_By, rfl, Or.inl (tb_in (i := 39) (by decide +kernel) (by decide +kernel))⟩
theorem F_In_74 : FL "RescanMill$Input" 74 1 0 := ⟨"RescanMill$Bytes", T_By, rfl, by decide, in_By, rfl, Or.inl (tb_in (i := 40) (by decide +kernel) (by decide +kernel))⟩
theorem F_By_21 : FL "RescanMill$Bytes" 21 1 1 := ⟨"RescanMill$Bytes", T_By, rfl, by decide, in_By, rfl, Or.inl (tb_in (i := 41) (by decide +kernel) (by decide +kernel))⟩
theorem F_Mi_66 : FL "RescanMill" 66 1 1 := ⟨"RescanMill$Bytes", T_By, rfl, by decide, in_By, rfl, Or.inl (tb_in (i := 42) (by decide +kernel) (by decide +kernel))⟩
theorem F_Di_38 : FL "RescanMill$Diversions" 38 1 1 := ⟨"RescanMill$Bytes", T_By, rfl, by decide, in_By, rfl, Or.inl (tb_in (i := 43) (by decide +kernel) (by decide +kernel))⟩
theorem F_Ca_51 : FL "RescanMill$Calls" 51 1 1 := ⟨"RescanMill$Bytes", T_By, rfl, by decide, in_By, rfl, Or.inl (tb_in (i := 44) (by decide +kernel) (by decide +kernel))⟩
theorem F_In_59 : FL "RescanMill$Input" 59 1 1 := ⟨"RescanMill$Bytes", T_By, rfl, by decide, in_By, rfl, Or.inl (tb_in (i := 45) (by decide +kernel) (by decide +kernel))⟩
theorem F_Ms_97 : FL "RescanMill$Meanings" 97 1 1 := ⟨"RescanMill$Bytes", T_By, rfl, by decide, in_By, rfl, Or.inl (tb_in (i := 46) (by decide +kernel) (by decide +kernel))⟩
theorem F_By_25 : FL "RescanMill$Bytes" 25 1 2 := ⟨"RescanMill$Bytes", T_By, rfl, by decide, in_By, rfl, Or.inl (tb_in (i := 47) (by decide +kernel) (by decide +kernel))⟩
theorem F_In_70 : FL "RescanMill$Input" 70 1 2 := ⟨"RescanMill$Bytes", T_By, rfl, by decide, in_By, rfl, Or.inl (tb_in (i := 48) (by decide +kernel) (by decide +kernel))⟩
theorem F_Mi_255 : FL "RescanMill" 255 1 2 := ⟨"RescanMill$Bytes", T_By, rfl, by decide, in_By, rfl, Or.inl (tb_in (i := 49) (by decide +kernel) (by decide +kernel))⟩
theorem F_In_14 : FL "RescanMill$Input" 14 7 0 := ⟨"RescanMill$Input", T_In, rfl, by decide, in_In, rfl, Or.inl (tb_in (i := 67) (by decide +kernel) (by decide +kernel))⟩
theorem F_Mi_289 : FL "RescanMill" 289 7 0 := ⟨"RescanMill$Input", T_In, rfl, by decide, in_In, rfl, Or.inl (tb_in (i := 68) (by decide +kernel) (by decide +kernel))⟩
theorem F_In_20 : FL "RescanMill$Input" 20 7 1 := ⟨"RescanMill$Input", T_In, rfl, by decide, in_In, rfl, Or.inl (tb_in (i := 69) (by decide +kernel) (by decide +kernel))⟩
theorem F_Mi_292 : FL "RescanMill" 292 7 1 := ⟨"RescanMill$Input", T_In, rfl, by decide, in_In, rfl, Or.inl (tb_in (i := 70) (by decide +kernel) (by decide +kernel))⟩
theorem F_In_24 : FL "RescanMill$Input" 24 7 2 := ⟨"RescanMill$Input", T_In, rfl, by decide, in_In, rfl, Or.inl (tb_in (i := 71) (by decide +kernel) (by decide +kernel))⟩
theorem F_Mi_170 : FL "RescanMill" 170 7 2 := ⟨"RescanMill$Input", T_In, rfl, by decide, in_In, rfl, Or.inl (tb_in (i := 72) (by decide +kernel) (by decide +kernel))⟩
theorem F_Mi_88 : FL "RescanMill" 88 7 3 := ⟨"RescanMill$Input", T_In, rfl, by decide, in_In, rfl, Or.inl (tb_in (i := 73) (by decide +kernel) (by decide +kernel))⟩
theorem F_In_95 : FL "RescanMill$Input" 95 7 3 := ⟨"RescanMill$Input", T_In, rfl, by decide, in_In, rfl, Or.inl (tb_in (i := 74) (by decide +kernel) (by decide +kernel))⟩
theorem F_In_89 : FL "RescanMill$Input" 89 7 4 := ⟨"RescanMill$Input", T_In, rfl, by decide, in_In, rfl, Or.inl (tb_in (i := 75) (by decide +kernel) (by decide +kernel))⟩
theorem F_Mi_154 : FL "RescanMill" 154 7 4 := ⟨"RescanMill$Input", T_In, rfl, by decide, in_In, rfl, Or.inl (tb_in (i := 76) (by decide +kernel) (by decide +kernel))⟩
theorem F_In_41 : FL "RescanMill$Input" 41 7 5 := ⟨"RescanMill$Input", T_In, rfl, by decide, in_In, rfl, Or.inl (tb_in (i := 77) (by decide +kernel) (by decide +kernel))⟩
theorem F_Mi_110 : FL "RescanMill" 110 7 5 := ⟨"RescanMill$Input", T_In, rfl, by decide, in_In, rfl, Or.inl (tb_in (i := 78) (by decide +kernel) (by decide +kernel))⟩
theorem F_In_27 : FL "RescanMill$Input" 27 7 6 := ⟨"RescanMill$Input", T_In, rfl, by decide, in_In, rfl, Or.inl (tb_in (i := 79) (by decide +kernel) (by decide +kernel))⟩
theorem F_In_47 : FL "RescanMill$Input" 47 7 7 := ⟨"RescanMill$Input", T_In, rfl, by decide, in_In, rfl, Or.inl (tb_in (i := 80) (by decide +kernel) (by decide +kernel))⟩
theorem F_In_30 : FL "RescanMill$Input" 30 7 8 := ⟨"RescanMill$Input", T_In, rfl, by decide, in_In, rfl, Or.inl (tb_in (i := 81) (by decide +kernel) (by decide +kernel))⟩
theorem F_In_34 : FL "RescanMill$Input" 34 7 9 := ⟨"RescanMill$Input", T_In, rfl, by decide, in_In, rfl, Or.inl (tb_in (i := 82) (by decide +kernel) (by decide +kernel))⟩
theorem F_In_38 : FL "RescanMill$Input" 38 7 10 := ⟨"RescanMill$Input", T_In, rfl, by decide, in_In, rfl, Or.inl (tb_in (i := 83) (by decide +kernel) (by decide +kernel))⟩
theorem F_In_44 : FL "RescanMill$Input" 44 7 11 := ⟨"RescanMill$Input", T_In, rfl, by decide, in_In, rfl, Or.inl (tb_in (i := 84) (by decide +kernel) (by decide +kernel))⟩
theorem F_Ca_14 : FL "RescanMill$Calls" 14 2 0 := ⟨"RescanMill$Calls", T_Ca, rfl, by decide, in_Ca, rfl, Or.inl (tb_in (i := 118) (by decide +kernel) (by decide +kernel))⟩
theorem F_Ms_111 : FL "RescanMill$Meanings" 111 2 0 := ⟨"RescanMill$Calls", T_Ca, rfl, by decide, in_Ca, rfl, Or.inl (tb_in (i := 119) (by decide +kernel) (by decide +kernel))⟩
theorem F_Mi_219 : FL "RescanMill" 219 2 0 := ⟨"RescanMill$Calls", T_Ca, rfl, by decide, in_Ca, rfl, Or.inl (tb_in (i := 120) (by decide +kernel) (by decide +kernel))⟩
theorem F_Ca_40 : FL "RescanMill$Calls" 40 2 1 := ⟨"RescanMill$Calls", T_Ca, rfl, by decide, in_Ca, rfl, Or.inl (tb_in (i := 121) (by decide +kernel) (by decide +kernel))⟩
theorem F_Mi_101 : FL "RescanMill" 101 2 1 := ⟨"RescanMill$Calls", T_Ca, rfl, by decide, in_Ca, rfl, Or.inl (tb_in (i := 122) (by decide +kernel) (by decide +kernel))⟩
theorem F_Ca_44 : FL "RescanMill$Calls" 44 2 2 := ⟨"RescanMill$Calls", T_Ca, rfl, by decide, in_Ca, rfl, Or.inl (tb_in (i := 123) (by decide +kernel) (by decide +kernel))⟩
theorem F_Mi_94 : FL "RescanMill" 94 2 2 := ⟨"RescanMill$Calls", T_Ca, rfl, by decide, in_Ca, rfl, Or.inl (tb_in (i := 124) (by decide +kernel) (by decide +kernel))⟩
theorem F_Ca_20 : FL "RescanMill$Calls" 20 2 3 := ⟨"RescanMill$Calls", T_Ca, rfl, by decide, in_Ca, rfl, Or.inl (tb_in (i := 125) (by decide +kernel) (by decide +kernel))⟩
theorem F_Ca_48 : FL "RescanMill$Calls" 48 2 4 := ⟨"RescanMill$Calls", T_Ca, rfl, by decide, in_Ca, rfl, Or.inl (tb_in (i := 126) (by decide +kernel) (by decide +kernel))⟩
theorem F_Ca_24 : FL "RescanMill$Calls" 24 2 5 := ⟨"RescanMill$Calls", T_Ca, rfl, by decide, in_Ca, rfl, Or.inl (tb_in (i := 127) (by decide +kernel) (by decide +kernel))⟩
theorem F_Ca_27 : FL "RescanMill$Calls" 27 2 6 := ⟨"RescanMill$Calls", T_Ca, rfl, by decide, in_Ca, rfl, Or.inl (tb_in (i := 128) (by decide +kernel) (by decide +kernel))⟩
theorem F_Ca_30 : FL "RescanMill$Calls" 30 2 7 := ⟨"RescanMill$Calls", T_Ca, rfl, by decide, in_Ca, rfl, Or.inl (tb_in (i := 129) (by decide +kernel) (by decide +kernel))⟩
theorem F_Ca_33 : FL "RescanMill$Calls" 33 2 8 := ⟨"RescanMill$Calls", T_Ca, rfl, by decide, in_Ca, rfl, Or.inl (tb_in (i := 130) (by decide +kernel) (by decide +kernel))⟩
theorem F_Ce_19 : FL "RescanMill$Cells" 19 3 0 := ⟨"RescanMill$Cells", T_Ce, rfl, by decide, in_Ce, rfl, Or.inl (tb_in (i := 165) (by decide +kernel) (by decide +kernel))⟩
theorem F_Ce_23 : FL "RescanMill$Cells" 23 3 1 := ⟨"RescanMill$Cells", T_Ce, rfl, by decide, in_Ce, rfl, Or.inl (tb_in (i := 166) (by decide +kernel) (by decide +kernel))⟩
theorem F_Ce_27 : FL "RescanMill$Cells" 27 3 2 := ⟨"RescanMill$Cells", T_Ce, rfl, by decide, in_Ce, rfl, Or.inl (tb_in (i := 167) (by decide +kernel) (by decide +kernel))⟩
theorem F_Ce_7 : FL "RescanMill$Cells" 7 3 3 := ⟨"RescanMill$Cells", T_Ce, rfl, by decide, in_Ce, rfl, Or.inl (tb_in (i := 168) (by decide +kernel) (by decide +kernel))⟩
theorem F_Ce_30 : FL "RescanMill$Cells" 30 3 4 := ⟨"RescanMill$Cells", T_Ce, rfl, by decide, in_Ce, rfl, Or.inl (tb_in (i := 169) (by decide +kernel) (by decide +kernel))⟩
theorem F_Ch_7 : FL "RescanMill$Chain" 7 4 0 := ⟨"RescanMill$Chain", T_Ch, rfl, by decide, in_Ch, rfl, Or.inl (tb_in (i := 196) (by decide +kernel) (by decide +kernel))⟩
theorem F_Di_55 : FL "RescanMill$Diversions" 55 4 0 := ⟨"RescanMill$Chain", T_Ch, rfl, by decide, in_Ch, rfl, Or.inl (tb_in (i := 197) (by decide +kernel) (by decide +kernel))⟩
theorem F_Ms_86 : FL "RescanMill$Meanings" 86 4 0 := ⟨"RescanMill$Chain", T_Ch, rfl, by decide, in_Ch, rfl, Or.inl (tb_in (i := 198) (by decide +kernel) (by decide +kernel))⟩
theorem F_Ce_52 : FL "RescanMill$Cells" 52 4 0 := ⟨"RescanMill$Chain", T_Ch, rfl, by decide, in_Ch, rfl, Or.inl (tb_in (i := 199) (by decide +kernel) (by decide +kernel))⟩
theorem F_Mi_249 : FL "RescanMill" 249 4 0 := ⟨"RescanMill$Chain", T_Ch, rfl, by decide, in_Ch, rfl, Or.inl (tb_in (i := 200) (by decide +kernel) (by decide +kernel))⟩
theorem F_Ch_13 : FL "RescanMill$Chain" 13 4 1 := ⟨"RescanMill$Chain", T_Ch, rfl, by decide, in_Ch, rfl, Or.inl (tb_in (i := 201) (by decide +kernel) (by decide +kernel))⟩
theorem F_Ce_47 : FL "RescanMill$Cells" 47 4 1 := ⟨"RescanMill$Chain", T_Ch, rfl, by decide, in_Ch, rfl, Or.inl (tb_in (i := 202) (by decide +kernel) (by decide +kernel))⟩
theorem F_Ch_16 : FL "RescanMill$Chain" 16 4 2 := ⟨"RescanMill$Chain", T_Ch, rfl, by decide, in_Ch, rfl, Or.inl (tb_in (i := 203) (by decide +kernel) (by decide +kernel))⟩
theorem F_Di_58 : FL "RescanMill$Diversions" 58 4 2 := ⟨"RescanMill$Chain", T_Ch, rfl, by decide, in_Ch, rfl, Or.inl (tb_in (i := 204) (by decide +kernel) (by decide +kernel))⟩
theorem F_Ms_83 : FL "RescanMill$Meanings" 83 4 2 := ⟨"RescanMill$Chain", T_Ch, rfl, by decide, in_Ch, rfl, Or.inl (tb_in (i := 205) (by decide +kernel) (by decide +kernel))⟩
theorem F_Ce_55 : FL "RescanMill$Cells" 55 4 2 := ⟨"RescanMill$Chain", T_Ch, rfl, by decide, in_Ch, rfl, Or.inl (tb_in (i := 206) (by decide +kernel) (by decide +kernel))⟩
theorem F_Mi_254 : FL "RescanMill" 254 4 2 := ⟨"RescanMill$Chain", T_Ch, rfl, by decide, in_Ch, rfl, Or.inl (tb_in (i := 207) (by decide +kernel) (by decide +kernel))⟩
theorem F_Me_10 : FL "RescanMill$Meaning" 10 8 0 := ⟨"RescanMill$Meaning", T_Me, rfl, by decide, in_Me, rfl, Or.inl (tb_in (i := 215) (by decide +kernel) (by decide +kernel))⟩
theorem F_Ms_48 : FL "RescanMill$Meanings" 48 8 0 := ⟨"RescanMill$Meaning", T_Me, rfl, by decide, in_Me, rfl, Or.inl (tb_in (i := 216) (by decide +kernel) (by decide +kernel))⟩
theorem F_Me_16 : FL "RescanMill$Meaning" 16 8 1 := ⟨"RescanMill$Meaning", T_Me, rfl, by decide, in_Me, rfl, Or.inl (tb_in (i := 217) (by decide +kernel) (by decide +kernel))⟩
theorem F_Ms_57 : FL "RescanMill$Meanings" 57 8 1 := ⟨"RescanMill$Meaning", T_Me, rfl, by decide, in_Me, rfl, Or.inl (tb_in (i := 218) (by decide +kernel) (by decide +kernel))⟩
theorem F_Mi_228 : FL "RescanMill" 228 8 1 := ⟨"RescanMill$Meaning", T_Me, rfl, by decide, in_Me, rfl, Or.inl (tb_in (i := 219) (by decide +kernel) (by decide +kernel))⟩
theorem F_Ms_102 : FL "RescanMill$Meanings" 102 8 2 := ⟨"RescanMill$Meaning", T_Me, rfl, by decide, in_Me, rfl, Or.inl (tb_in (i := 220) (by decide +kernel) (by decide +kernel))⟩
theorem F_Mi_180 : FL "RescanMill" 180 8 2 := ⟨"RescanMill$Meaning", T_Me, rfl, by decide, in_Me, rfl, Or.inl (tb_in (i := 221) (by decide +kernel) (by decide +kernel))⟩
theorem F_Ms_76 : FL "RescanMill$Meanings" 76 8 3 := ⟨"RescanMill$Meaning", T_Me, rfl, by decide, in_Me, rfl, Or.inl (tb_in (i := 222) (by decide +kernel) (by decide +kernel))⟩
theorem F_Ms_60 : FL "RescanMill$Meanings" 60 8 4 := ⟨"RescanMill$Meaning", T_Me, rfl, by decide, in_Me, rfl, Or.inl (tb_in (i := 223) (by decide +kernel) (by decide +kernel))⟩
theorem F_Ms_16 : FL "RescanMill$Meanings" 16 9 0 := ⟨"RescanMill$Meanings", T_Ms, rfl, by decide, in_Ms, rfl, Or.inl (tb_in (i := 235) (by decide +kernel) (by decide +kernel))⟩
theorem F_Mi_245 : FL "RescanMill" 245 9 0 := ⟨"RescanMill$Meanings", T_Ms, rfl, by decide, in_Ms, rfl, Or.inl (tb_in (i := 236) (by decide +kernel) (by decide +kernel))⟩
theorem F_Ms_37 : FL "RescanMill$Meanings" 37 9 1 := ⟨"RescanMill$Meanings", T_Ms, rfl, by decide, in_Ms, rfl, Or.inl (tb_in (i := 237) (by decide +kernel) (by decide +kernel))⟩
theorem F_Mi_113 : FL "RescanMill" 113 9 1 := ⟨"RescanMill$Meanings", T_Ms, rfl, by decide, in_Ms, rfl, Or.inl (tb_in (i := 238) (by decide +kernel) (by decide +kernel))⟩
theorem F_Ms_41 : FL "RescanMill$Meanings" 41 9 2 := ⟨"RescanMill$Meanings", T_Ms, rfl, by decide, in_Ms, rfl, Or.inl (tb_in (i := 239) (by decide +kernel) (by decide +kernel))⟩
theorem F_Mi_116 : FL "RescanMill" 116 9 2 := ⟨"RescanMill$Meanings", T_Ms, rfl, by decide, in_Ms, rfl, Or.inl (tb_in (i := 240) (by decide +kernel) (by decide +kernel))⟩
theorem F_Ms_22 : FL "RescanMill$Meanings" 22 9 3 := ⟨"RescanMill$Meanings", T_Ms, rfl, by decide, in_Ms, rfl, Or.inl (tb_in (i := 241) (by decide +kernel) (by decide +kernel))⟩
theorem F_Ms_30 : FL "RescanMill$Meanings" 30 9 4 := ⟨"RescanMill$Meanings", T_Ms, rfl, by decide, in_Ms, rfl, Or.inl (tb_in (i := 242) (by decide +kernel) (by decide +kernel))⟩
theorem F_Ms_44 : FL "RescanMill$Meanings" 44 9 5 := ⟨"RescanMill$Meanings", T_Ms, rfl, by decide, in_Ms, rfl, Or.inl (tb_in (i := 243) (by decide +kernel) (by decide +kernel))⟩
theorem F_Di_34 : FL "RescanMill$Diversions" 34 5 0 := ⟨"RescanMill$Diversions", T_Di, rfl, by decide, in_Di, rfl, Or.inl (tb_in (i := 269) (by decide +kernel) (by decide +kernel))⟩
theorem F_Mi_379 : FL "RescanMill" 379 5 0 := ⟨"RescanMill$Diversions", T_Di, rfl, by decide, in_Di, rfl, Or.inl (tb_in (i := 270) (by decide +kernel) (by decide +kernel))⟩
theorem F_Di_15 : FL "RescanMill$Diversions" 15 5 1 := ⟨"RescanMill$Diversions", T_Di, rfl, by decide, in_Di, rfl, Or.inl (tb_in (i := 271) (by decide +kernel) (by decide +kernel))⟩
theorem F_Di_23 : FL "RescanMill$Diversions" 23 5 2 := ⟨"RescanMill$Diversions", T_Di, rfl, by decide, in_Di, rfl, Or.inl (tb_in (i := 272) (by decide +kernel) (by decide +kernel))⟩
theorem F_Ex_14 : FL "RescanMill$Expression" 14 6 0 := ⟨"RescanMill$Expression", T_Ex, rfl, by decide, in_Ex, rfl, Or.inl (tb_in (i := 290) (by decide +kernel) (by decide +kernel))⟩
theorem F_Ex_34 : FL "RescanMill$Expression" 34 6 1 := ⟨"RescanMill$Expression", T_Ex, rfl, by decide, in_Ex, rfl, Or.inl (tb_in (i := 291) (by decide +kernel) (by decide +kernel))⟩
theorem F_Ex_38 : FL "RescanMill$Expression" 38 6 2 := ⟨"RescanMill$Expression", T_Ex, rfl, by decide, in_Ex, rfl, Or.inl (tb_in (i := 292) (by decide +kernel) (by decide +kernel))⟩
theorem F_Ex_20 : FL "RescanMill$Expression" 20 6 3 := ⟨"RescanMill$Expression", T_Ex, rfl, by decide, in_Ex, rfl, Or.inl (tb_in (i := 293) (by decide +kernel) (by decide +kernel))⟩
theorem F_Ex_74 : FL "RescanMill$Expression" 74 6 4 := ⟨"RescanMill$Expression", T_Ex, rfl, by decide, in_Ex, rfl, Or.inl (tb_in (i := 294) (by decide +kernel) (by decide +kernel))⟩
theorem F_Ex_26 : FL "RescanMill$Expression" 26 6 5 := ⟨"RescanMill$Expression", T_Ex, rfl, by decide, in_Ex, rfl, Or.inl (tb_in (i := 295) (by decide +kernel) (by decide +kernel))⟩
theorem F_Ex_71 : FL "RescanMill$Expression" 71 6 6 := ⟨"RescanMill$Expression", T_Ex, rfl, by decide, in_Ex, rfl, Or.inl (tb_in (i := 296) (by decide +kernel) (by decide +kernel))⟩
theorem F_Ex_83 : FL "RescanMill$Expression" 83 6 7 := ⟨"RescanMill$Expression", T_Ex, rfl, by decide, in_Ex, rfl, Or.inl (tb_in (i := 297) (by decide +kernel) (by decide +kernel))⟩
theorem F_Ex_48 : FL "RescanMill$Expression" 48 6 8 := ⟨"RescanMill$Expression", T_Ex, rfl, by decide, in_Ex, rfl, Or.inl (tb_in (i := 298) (by decide +kernel) (by decide +kernel))⟩
theorem F_Ex_77 : FL "RescanMill$Expression" 77 6 9 := ⟨"RescanMill$Expression", T_Ex, rfl, by decide, in_Ex, rfl, Or.inl (tb_in (i := 299) (by decide +kernel) (by decide +kernel))⟩
theorem F_Mi_17 : FL "RescanMill" 17 0 0 := ⟨"RescanMill", T_Mi, rfl, by decide, in_Mi, rfl, Or.inl (tb_in (i := 321) (by decide +kernel) (by decide +kernel))⟩
theorem F_Mi_21 : FL "RescanMill" 21 0 1 := ⟨"RescanMill", T_Mi, rfl, by decide, in_Mi, rfl, Or.inl (tb_in (i := 322) (by decide +kernel) (by decide +kernel))⟩
theorem F_Mi_24 : FL "RescanMill" 24 0 2 := ⟨"RescanMill", T_Mi, rfl, by decide, in_Mi, rfl, Or.inl (tb_in (i := 323) (by decide +kernel) (by decide +kernel))⟩
theorem F_Mi_30 : FL "RescanMill" 30 0 3 := ⟨"RescanMill", T_Mi, rfl, by decide, in_Mi, rfl, Or.inl (tb_in (i := 324) (by decide +kernel) (by decide +kernel))⟩
theorem F_Mi_37 : FL "RescanMill" 37 0 4 := ⟨"RescanMill", T_Mi, rfl, by decide, in_Mi, rfl, Or.inl (tb_in (i := 325) (by decide +kernel) (by decide +kernel))⟩
theorem F_Mi_44 : FL "RescanMill" 44 0 5 := ⟨"RescanMill", T_Mi, rfl, by decide, in_Mi, rfl, Or.inl (tb_in (i := 326) (by decide +kernel) (by decide +kernel))⟩
theorem F_Mi_51 : FL "RescanMill" 51 0 6 := ⟨"RescanMill", T_Mi, rfl, by decide, in_Mi, rfl, Or.inl (tb_in (i := 327) (by decide +kernel) (by decide +kernel))⟩
theorem F_Mi_58 : FL "RescanMill" 58 0 7 := ⟨"RescanMill", T_Mi, rfl, by decide, in_Mi, rfl, Or.inl (tb_in (i := 328) (by decide +kernel) (by decide +kernel))⟩
theorem F_Mi_62 : FL "RescanMill" 62 0 8 := ⟨"RescanMill", T_Mi, rfl, by decide, in_Mi, rfl, Or.inl (tb_in (i := 329) (by decide +kernel) (by decide +kernel))⟩
theorem F_Mi_107 : FL "RescanMill" 107 0 9 := ⟨"RescanMill", T_Mi, rfl, by decide, in_Mi, rfl, Or.inl (tb_in (i := 330) (by decide +kernel) (by decide +kernel))⟩
theorem Z_Mi_132 : Cond.fieldLink "RescanMill" 132 "RescanMill" "BUILT_INS" "[LRescanMill$BuiltIn;" ∈ tbG := tb_in (i := 425) (by decide +kernel) (by decide +kernel)
theorem Z_St_38 : Cond.fieldLink "java/lang/String" 38 "java/lang/String" "COMPACT_STRINGS" "Z" ∈ tbG := tb_in (i := 438) (by decide +kernel) (by decide +kernel)
theorem Z_St_1053 : Cond.fieldLink "java/lang/String" 1053 "jdk/internal/util/Preconditions" "SIOOBE_FORMATTER" "Ljava/util/function/BiFunction;" ∈ tbG := tb_in (i := 454) (by decide +kernel) (by decide +kernel)
theorem Z_Su_44 : Cond.fieldLink "java/lang/StringUTF16" 44 "java/lang/StringUTF16" "$assertionsDisabled" "Z" ∈ tbG := tb_in (i := 472) (by decide +kernel) (by decide +kernel)
theorem Z_Su_59 : Cond.fieldLink "java/lang/StringUTF16" 59 "java/lang/StringUTF16" "HI_BYTE_SHIFT" "I" ∈ tbG := tb_in (i := 474) (by decide +kernel) (by decide +kernel)
theorem Z_Su_63 : Cond.fieldLink "java/lang/StringUTF16" 63 "java/lang/StringUTF16" "LO_BYTE_SHIFT" "I" ∈ tbG := tb_in (i := 476) (by decide +kernel) (by decide +kernel)
theorem Z_Mi_295 : Cond.fieldLink "RescanMill" 295 "RescanMill$1" "$SwitchMap$RescanMill$BuiltIn" "[I" ∈ tbG := tb_in (i := 691) (by decide +kernel) (by decide +kernel)
theorem Z_Ex_149 : Cond.fieldLink "RescanMill$Expression" 149 "RescanMill$1" "$SwitchMap$RescanMill$Operator" "[I" ∈ tbG := tb_in (i := 770) (by decide +kernel) (by decide +kernel)
theorem Z_Ex_94 : Cond.fieldLink "RescanMill$Expression" 94 "RescanMill$Operator" "PARENTHESIS" "LRescanMill$Operator;" ∈ tbG := tb_in (i := 787) (by decide +kernel) (by decide +kernel)
theorem Z_Ex_98 : Cond.fieldLink "RescanMill$Expression" 98 "RescanMill$Operator" "KEEP" "LRescanMill$Operator;" ∈ tbG := tb_in (i := 789) (by decide +kernel) (by decide +kernel)
theorem Z_Ex_101 : Cond.fieldLink "RescanMill$Expression" 101 "RescanMill$Operator" "NEGATE" "LRescanMill$Operator;" ∈ tbG := tb_in (i := 791) (by decide +kernel) (by decide +kernel)
theorem Z_Ex_104 : Cond.fieldLink "RescanMill$Expression" 104 "RescanMill$Operator" "INVERT" "LRescanMill$Operator;" ∈ tbG := tb_in (i := 793) (by decide +kernel) (by decide +kernel)
theorem Z_Ex_107 : Cond.fieldLink "RescanMill$Expression" 107 "RescanMill$Operator" "NOT" "LRescanMill$Operator;" ∈ tbG := tb_in (i := 795) (by decide +kernel) (by decide +kernel)
theorem F_Rf_68 : FL "RescanMillModel" 68 10 0 := ⟨"RescanMillModel", T_Rf, rfl, by decide, in_Rf, rfl, Or.inl (tb_in (i := 922) (by decide +kernel) (by decide +kernel))⟩
theorem F_Rf_10 : FL "RescanMillModel" 10 10 1 := ⟨"RescanMillModel", T_Rf, rfl, by decide, in_Rf, rfl, Or.inl (tb_in (i := 923) (by decide +kernel) (by decide +kernel))⟩
theorem F_Rf_72 : FL "RescanMillModel" 72 10 2 := ⟨"RescanMillModel", T_Rf, rfl, by decide, in_Rf, rfl, Or.inl (tb_in (i := 924) (by decide +kernel) (by decide +kernel))⟩
theorem F_Rf_75 : FL "RescanMillModel" 75 10 3 := ⟨"RescanMillModel", T_Rf, rfl, by decide, in_Rf, rfl, Or.inl (tb_in (i := 925) (by decide +kernel) (by decide +kernel))⟩
theorem F_Rf_88 : FL "RescanMillModel" 88 10 4 := ⟨"RescanMillModel", T_Rf, rfl, by decide, in_Rf, rfl, Or.inl (tb_in (i := 926) (by decide +kernel) (by decide +kernel))⟩
theorem F_Rf_14 : FL "RescanMillModel" 14 10 5 := ⟨"RescanMillModel", T_Rf, rfl, by decide, in_Rf, rfl, Or.inl (tb_in (i := 927) (by decide +kernel) (by decide +kernel))⟩
theorem F_Rf_382 : FL "RescanMillModel" 382 10 6 := ⟨"RescanMillModel", T_Rf, rfl, by decide, in_Rf, rfl, Or.inl (tb_in (i := 928) (by decide +kernel) (by decide +kernel))⟩
theorem F_Rf_17 : FL "RescanMillModel" 17 10 7 := ⟨"RescanMillModel", T_Rf, rfl, by decide, in_Rf, rfl, Or.inl (tb_in (i := 929) (by decide +kernel) (by decide +kernel))⟩
theorem F_Rf_78 : FL "RescanMillModel" 78 10 8 := ⟨"RescanMillModel", T_Rf, rfl, by decide, in_Rf, rfl, Or.inl (tb_in (i := 930) (by decide +kernel) (by decide +kernel))⟩
theorem F_Rf_91 : FL "RescanMillModel" 91 10 9 := ⟨"RescanMillModel", T_Rf, rfl, by decide, in_Rf, rfl, Or.inl (tb_in (i := 931) (by decide +kernel) (by decide +kernel))⟩
theorem F_Rf_94 : FL "RescanMillModel" 94 10 10 := ⟨"RescanMillModel", T_Rf, rfl, by decide, in_Rf, rfl, Or.inl (tb_in (i := 932) (by decide +kernel) (by decide +kernel))⟩
theorem F_Rf_81 : FL "RescanMillModel" 81 10 11 := ⟨"RescanMillModel", T_Rf, rfl, by decide, in_Rf, rfl, Or.inl (tb_in (i := 933) (by decide +kernel) (by decide +kernel))⟩
theorem F_Rf_20 : FL "RescanMillModel" 20 10 12 := ⟨"RescanMillModel", T_Rf, rfl, by decide, in_Rf, rfl, Or.inl (tb_in (i := 934) (by decide +kernel) (by decide +kernel))⟩
theorem F_Rf_112 : FL "RescanMillModel" 112 10 13 := ⟨"RescanMillModel", T_Rf, rfl, by decide, in_Rf, rfl, Or.inl (tb_in (i := 935) (by decide +kernel) (by decide +kernel))⟩
theorem F_Rf_24 : FL "RescanMillModel" 24 10 14 := ⟨"RescanMillModel", T_Rf, rfl, by decide, in_Rf, rfl, Or.inl (tb_in (i := 936) (by decide +kernel) (by decide +kernel))⟩
theorem F_Rf_119 : FL "RescanMillModel" 119 10 15 := ⟨"RescanMillModel", T_Rf, rfl, by decide, in_Rf, rfl, Or.inl (tb_in (i := 937) (by decide +kernel) (by decide +kernel))⟩
theorem F_Rf_126 : FL "RescanMillModel" 126 10 16 := ⟨"RescanMillModel", T_Rf, rfl, by decide, in_Rf, rfl, Or.inl (tb_in (i := 938) (by decide +kernel) (by decide +kernel))⟩
theorem F_Rf_27 : FL "RescanMillModel" 27 10 17 := ⟨"RescanMillModel", T_Rf, rfl, by decide, in_Rf, rfl, Or.inl (tb_in (i := 939) (by decide +kernel) (by decide +kernel))⟩
theorem F_Rf_109 : FL "RescanMillModel" 109 10 18 := ⟨"RescanMillModel", T_Rf, rfl, by decide, in_Rf, rfl, Or.inl (tb_in (i := 940) (by decide +kernel) (by decide +kernel))⟩
theorem F_Rf_31 : FL "RescanMillModel" 31 10 19 := ⟨"RescanMillModel", T_Rf, rfl, by decide, in_Rf, rfl, Or.inl (tb_in (i := 941) (by decide +kernel) (by decide +kernel))⟩
theorem F_Rf_139 : FL "RescanMillModel" 139 10 20 := ⟨"RescanMillModel", T_Rf, rfl, by decide, in_Rf, rfl, Or.inl (tb_in (i := 942) (by decide +kernel) (by decide +kernel))⟩
theorem F_Rf_188 : FL "RescanMillModel" 188 10 21 := ⟨"RescanMillModel", T_Rf, rfl, by decide, in_Rf, rfl, Or.inl (tb_in (i := 943) (by decide +kernel) (by decide +kernel))⟩
theorem F_Rf_34 : FL "RescanMillModel" 34 10 22 := ⟨"RescanMillModel", T_Rf, rfl, by decide, in_Rf, rfl, Or.inl (tb_in (i := 944) (by decide +kernel) (by decide +kernel))⟩
theorem F_Rf_37 : FL "RescanMillModel" 37 10 23 := ⟨"RescanMillModel", T_Rf, rfl, by decide, in_Rf, rfl, Or.inl (tb_in (i := 945) (by decide +kernel) (by decide +kernel))⟩
theorem F_Rf_40 : FL "RescanMillModel" 40 10 24 := ⟨"RescanMillModel", T_Rf, rfl, by decide, in_Rf, rfl, Or.inl (tb_in (i := 946) (by decide +kernel) (by decide +kernel))⟩
theorem F_Rf_43 : FL "RescanMillModel" 43 10 25 := ⟨"RescanMillModel", T_Rf, rfl, by decide, in_Rf, rfl, Or.inl (tb_in (i := 947) (by decide +kernel) (by decide +kernel))⟩
theorem F_Rf_46 : FL "RescanMillModel" 46 10 26 := ⟨"RescanMillModel", T_Rf, rfl, by decide, in_Rf, rfl, Or.inl (tb_in (i := 948) (by decide +kernel) (by decide +kernel))⟩
theorem F_Rf_191 : FL "RescanMillModel" 191 10 27 := ⟨"RescanMillModel", T_Rf, rfl, by decide, in_Rf, rfl, Or.inl (tb_in (i := 949) (by decide +kernel) (by decide +kernel))⟩
theorem F_Rf_194 : FL "RescanMillModel" 194 10 28 := ⟨"RescanMillModel", T_Rf, rfl, by decide, in_Rf, rfl, Or.inl (tb_in (i := 950) (by decide +kernel) (by decide +kernel))⟩
theorem F_Rf_197 : FL "RescanMillModel" 197 10 29 := ⟨"RescanMillModel", T_Rf, rfl, by decide, in_Rf, rfl, Or.inl (tb_in (i := 951) (by decide +kernel) (by decide +kernel))⟩
theorem F_Rf_50 : FL "RescanMillModel" 50 10 30 := ⟨"RescanMillModel", T_Rf, rfl, by decide, in_Rf, rfl, Or.inl (tb_in (i := 952) (by decide +kernel) (by decide +kernel))⟩
theorem F_Rf_53 : FL "RescanMillModel" 53 10 31 := ⟨"RescanMillModel", T_Rf, rfl, by decide, in_Rf, rfl, Or.inl (tb_in (i := 953) (by decide +kernel) (by decide +kernel))⟩
theorem F_Rf_217 : FL "RescanMillModel" 217 10 32 := ⟨"RescanMillModel", T_Rf, rfl, by decide, in_Rf, rfl, Or.inl (tb_in (i := 954) (by decide +kernel) (by decide +kernel))⟩
theorem F_Rf_220 : FL "RescanMillModel" 220 10 33 := ⟨"RescanMillModel", T_Rf, rfl, by decide, in_Rf, rfl, Or.inl (tb_in (i := 955) (by decide +kernel) (by decide +kernel))⟩
theorem F_Rf_240 : FL "RescanMillModel" 240 10 34 := ⟨"RescanMillModel", T_Rf, rfl, by decide, in_Rf, rfl, Or.inl (tb_in (i := 956) (by decide +kernel) (by decide +kernel))⟩
theorem F_Rf_56 : FL "RescanMillModel" 56 10 35 := ⟨"RescanMillModel", T_Rf, rfl, by decide, in_Rf, rfl, Or.inl (tb_in (i := 957) (by decide +kernel) (by decide +kernel))⟩
theorem F_Rf_226 : FL "RescanMillModel" 226 10 36 := ⟨"RescanMillModel", T_Rf, rfl, by decide, in_Rf, rfl, Or.inl (tb_in (i := 958) (by decide +kernel) (by decide +kernel))⟩
theorem F_Rf_243 : FL "RescanMillModel" 243 10 37 := ⟨"RescanMillModel", T_Rf, rfl, by decide, in_Rf, rfl, Or.inl (tb_in (i := 959) (by decide +kernel) (by decide +kernel))⟩
theorem F_Rf_59 : FL "RescanMillModel" 59 10 38 := ⟨"RescanMillModel", T_Rf, rfl, by decide, in_Rf, rfl, Or.inl (tb_in (i := 960) (by decide +kernel) (by decide +kernel))⟩
theorem F_Rf_334 : FL "RescanMillModel" 334 10 39 := ⟨"RescanMillModel", T_Rf, rfl, by decide, in_Rf, rfl, Or.inl (tb_in (i := 961) (by decide +kernel) (by decide +kernel))⟩
theorem F_Rf_337 : FL "RescanMillModel" 337 10 40 := ⟨"RescanMillModel", T_Rf, rfl, by decide, in_Rf, rfl, Or.inl (tb_in (i := 962) (by decide +kernel) (by decide +kernel))⟩
theorem F_Rf_343 : FL "RescanMillModel" 343 10 41 := ⟨"RescanMillModel", T_Rf, rfl, by decide, in_Rf, rfl, Or.inl (tb_in (i := 963) (by decide +kernel) (by decide +kernel))⟩
theorem F_Rf_347 : FL "RescanMillModel" 347 10 42 := ⟨"RescanMillModel", T_Rf, rfl, by decide, in_Rf, rfl, Or.inl (tb_in (i := 964) (by decide +kernel) (by decide +kernel))⟩
theorem F_Rf_350 : FL "RescanMillModel" 350 10 43 := ⟨"RescanMillModel", T_Rf, rfl, by decide, in_Rf, rfl, Or.inl (tb_in (i := 965) (by decide +kernel) (by decide +kernel))⟩
theorem F_Rf_353 : FL "RescanMillModel" 353 10 44 := ⟨"RescanMillModel", T_Rf, rfl, by decide, in_Rf, rfl, Or.inl (tb_in (i := 966) (by decide +kernel) (by decide +kernel))⟩
theorem F_Rf_62 : FL "RescanMillModel" 62 10 45 := ⟨"RescanMillModel", T_Rf, rfl, by decide, in_Rf, rfl, Or.inl (tb_in (i := 967) (by decide +kernel) (by decide +kernel))⟩
theorem F_Rf_65 : FL "RescanMillModel" 65 10 46 := ⟨"RescanMillModel", T_Rf, rfl, by decide, in_Rf, rfl, Or.inl (tb_in (i := 968) (by decide +kernel) (by decide +kernel))⟩
theorem Z_Mi_136 : Cond.fieldLink "RescanMill" 136 "RescanMill$BuiltIn" "spelled" "Ljava/lang/String;" ∈ tbG := tb_in (i := 1331) (by decide +kernel) (by decide +kernel)
theorem Z_St_9 : Cond.fieldLink "java/lang/String" 9 "java/lang/String" "value" "[B" ∈ tbG := tb_in (i := 1332) (by decide +kernel) (by decide +kernel)
theorem Z_St_15 : Cond.fieldLink "java/lang/String" 15 "java/lang/String" "coder" "B" ∈ tbG := tb_in (i := 1333) (by decide +kernel) (by decide +kernel)
theorem Z_Mi_186 : Cond.fieldLink "RescanMill" 186 "RescanMill$BuiltIn" "starred" "Z" ∈ tbG := tb_in (i := 1334) (by decide +kernel) (by decide +kernel)
theorem Z_En_7 : Cond.fieldLink "java/lang/Enum" 7 "java/lang/Enum" "ordinal" "I" ∈ tbG := tb_in (i := 1335) (by decide +kernel) (by decide +kernel)
theorem Z_Ex_114 : Cond.fieldLink "RescanMill$Expression" 114 "RescanMill$Operator" "strength" "I" ∈ tbG := tb_in (i := 1336) (by decide +kernel) (by decide +kernel)
theorem Z_Op_96 : Cond.fieldLink "RescanMill$Operator" 96 "RescanMill$Operator" "strength" "I" ∈ tbG := tb_in (i := 1337) (by decide +kernel) (by decide +kernel)
theorem Z_Ex_117 : Cond.fieldLink "RescanMill$Expression" 117 "RescanMill$Operator" "sign" "Ljava/lang/String;" ∈ tbG := tb_in (i := 1338) (by decide +kernel) (by decide +kernel)
theorem C_Mi_13 : Cond.constant "RescanMill" 13 (32768 : Int32) ∈ tbG := tb_in (i := 31) (by decide +kernel) (by decide +kernel)
theorem C_In_23 : Cond.constant "RescanMill$Input" 23 (32768 : Int32) ∈ tbG := tb_in (i := 66) (by decide +kernel) (by decide +kernel)
theorem C_Di_11 : Cond.constant "RescanMill$Diversions" 11 (32768 : Int32) ∈ tbG := tb_in (i := 264) (by decide +kernel) (by decide +kernel)
theorem C_Mi_80 : Cond.constant "RescanMill" 80 (400000 : Int32) ∈ tbG := tb_in (i := 387) (by decide +kernel) (by decide +kernel)
theorem C_By_53 : Cond.constantLong "RescanMill$Bytes" 53 (10 : Int64) ∈ tbG := tb_in (i := 682) (by decide +kernel) (by decide +kernel)
theorem C_Mi_364 : Cond.constant "RescanMill" 364 (-2147483648 : Int32) ∈ tbG := tb_in (i := 830) (by decide +kernel) (by decide +kernel)
theorem C_Rf_9 : Cond.constant "RescanMillModel" 9 (32768 : Int32) ∈ tbG := tb_in (i := 919) (by decide +kernel) (by decide +kernel)
theorem C_Rf_30 : Cond.constant "RescanMillModel" 30 (32769 : Int32) ∈ tbG := tb_in (i := 920) (by decide +kernel) (by decide +kernel)
theorem C_Rf_49 : Cond.constant "RescanMillModel" 49 (327680 : Int32) ∈ tbG := tb_in (i := 921) (by decide +kernel) (by decide +kernel)
theorem C_Rf_381 : Cond.constant "RescanMillModel" 381 (400000 : Int32) ∈ tbG := tb_in (i := 1080) (by decide +kernel) (by decide +kernel)
theorem C_Rf_148 : Cond.constantLong "RescanMillModel" 148 (9 : Int64) ∈ tbG := tb_in (i := 1212) (by decide +kernel) (by decide +kernel)
theorem C_Rf_150 : Cond.constantLong "RescanMillModel" 150 (10 : Int64) ∈ tbG := tb_in (i := 1213) (by decide +kernel) (by decide +kernel)
theorem C_Rf_152 : Cond.constantLong "RescanMillModel" 152 (48 : Int64) ∈ tbG := tb_in (i := 1214) (by decide +kernel) (by decide +kernel)
theorem C_Lw_13 : Cond.constantLong "RescanMillLaw" 13 (4294967295 : Int64) ∈ tbG := tb_in (i := 1330) (by decide +kernel) (by decide +kernel)
theorem W_maxS : Cond.static Lib.Math.max.name ∈ tbG := tb_in (i := 37) (by decide +kernel) (by decide +kernel)
theorem W_maxC : Cond.code Lib.Math.max.name Lib.Math.max.code 2 (some .int) ∈ tbG := tb_in (i := 38) (by decide +kernel) (by decide +kernel)
theorem W_minS : Cond.static Lib.Math.min.name ∈ tbG := tb_in (i := 844) (by decide +kernel) (by decide +kernel)
theorem W_minC : Cond.code Lib.Math.min.name Lib.Math.min.code 2 (some .int) ∈ tbG := tb_in (i := 845) (by decide +kernel) (by decide +kernel)
theorem W_mathI : Cond.initialized "java/lang/Math" ∈ tbG := tb_in (i := 3) (by decide +kernel) (by decide +kernel)
theorem W_sysI : Cond.initialized "java/lang/System" ∈ tbG := tb_in (i := 13) (by decide +kernel) (by decide +kernel)
theorem W_acS : Cond.static arraycopyName ∈ tbG := tb_in (i := 373) (by decide +kernel) (by decide +kernel)
theorem W_acN : Cond.native arraycopyName ∈ tbG := tb_in (i := 374) (by decide +kernel) (by decide +kernel)
theorem W_obI : Cond.instanceMethod Lib.objectInit ∈ tbG := tb_in (i := 27) (by decide +kernel) (by decide +kernel)
theorem W_obC : Cond.code Lib.objectInit ⟨#[0xb1]⟩ 1 none ∈ tbG := tb_in (i := 28) (by decide +kernel) (by decide +kernel)
end
section
def y_By_init : MethodName := ⟨"RescanMill$Bytes", "<init>", "(I)V"⟩
abbrev M_By_init : mt_T := (y_By_init, prog_4_method_1_code, 2, none)
def L_By_init : List (Nat × Instr × Nat) := [(0, .aload_n 0, 1), (1, .invokespecial 3, 3), (4, .aload_n 0, 1), (5, .iload_n 1, 1), (6, .iconst 0, 1), (7, .invokestatic 9, 3), (10, .newarray .byte, 2), (12, .putfield 15, 3), (15, .return_, 1)]
theorem D_By_init : decAll prog_4_method_1_code L_By_init = true := by decide +kernel
theorem K_By_init : MK M_By_init 1 := ⟨tb_in (i := 34) (by decide +kernel) (by decide +kernel), tb_in (i := 2) (by decide +kernel) (by decide +kernel), by decide +kernel, by decide, by decide +kernel, by decide +kernel, by decide +kernel⟩
theorem I_By_init : Cond.instanceMethod M_By_init.1 ∈ tbG := tb_in (i := 33) (by decide +kernel) (by decide +kernel)
def y_In_init : MethodName := ⟨"RescanMill$Input", "<init>", "()V"⟩
abbrev M_In_init : mt_T := (y_In_init, prog_10_method_1_code, 1, none)
def L_In_init : List (Nat × Instr × Nat) := [(0, .aload_n 0, 1), (1, .invokespecial 3, 3), (4, .aload_n 0, 1), (5, .new 9, 3), (8, .dup, 1), (9, .iconst 4, 1), (10, .invokespecial 11, 3), (13, .putfield 14, 3), (16, .aload_n 0, 1), (17, .new 9, 3), (20, .dup, 1), (21, .iconst 4, 1), (22, .invokespecial 11, 3), (25, .putfield 20, 3), (28, .aload_n 0, 1), (29, .new 9, 3), (32, .dup, 1), (33, .ldc 23, 2), (35, .invokespecial 11, 3), (38, .putfield 24, 3), (41, .aload_n 0, 1), (42, .new 9, 3), (45, .dup, 1), (46, .iconst 0, 1), (47, .invokespecial 11, 3), (50, .putfield 27, 3), (53, .aload_n 0, 1), (54, .ldc 23, 2), (56, .newarray .byte, 2), (58, .putfield 30, 3), (61, .aload_n 0, 1), (62, .ldc 23, 2), (64, .putfield 34, 3), (67, .return_, 1)]
theorem D_In_init : decAll prog_10_method_1_code L_In_init = true := by decide +kernel
theorem K_In_init : MK M_In_init 0 := ⟨tb_in (i := 62) (by decide +kernel) (by decide +kernel), tb_in (i := 4) (by decide +kernel) (by decide +kernel), by decide +kernel, by decide, by decide +kernel, by decide +kernel, by decide +kernel⟩
theorem I_In_init : Cond.instanceMethod M_In_init.1 ∈ tbG := tb_in (i := 61) (by decide +kernel) (by decide +kernel)
def y_Ca_init : MethodName := ⟨"RescanMill$Calls", "<init>", "()V"⟩
abbrev M_Ca_init : mt_T := (y_Ca_init, prog_5_method_1_code, 1, none)
def L_Ca_init : List (Nat × Instr × Nat) := [(0, .aload_n 0, 1), (1, .invokespecial 3, 3), (4, .aload_n 0, 1), (5, .new 9, 3), (8, .dup, 1), (9, .sipush 16384, 3), (12, .invokespecial 11, 3), (15, .putfield 14, 3), (18, .aload_n 0, 1), (19, .sipush 8192, 3), (22, .newarray .int, 2), (24, .putfield 20, 3), (27, .aload_n 0, 1), (28, .bipush 50, 2), (30, .newarray .int, 2), (32, .putfield 24, 3), (35, .aload_n 0, 1), (36, .bipush 50, 2), (38, .newarray .int, 2), (40, .putfield 27, 3), (43, .aload_n 0, 1), (44, .bipush 50, 2), (46, .newarray .int, 2), (48, .putfield 30, 3), (51, .aload_n 0, 1), (52, .bipush 50, 2), (54, .newarray .boolean, 2), (56, .putfield 33, 3), (59, .return_, 1)]
theorem D_Ca_init : decAll prog_5_method_1_code L_Ca_init = true := by decide +kernel
theorem K_Ca_init : MK M_Ca_init 0 := ⟨tb_in (i := 114) (by decide +kernel) (by decide +kernel), tb_in (i := 5) (by decide +kernel) (by decide +kernel), by decide +kernel, by decide, by decide +kernel, by decide +kernel, by decide +kernel⟩
theorem I_Ca_init : Cond.instanceMethod M_Ca_init.1 ∈ tbG := tb_in (i := 113) (by decide +kernel) (by decide +kernel)
def y_Ce_init : MethodName := ⟨"RescanMill$Cells", "<init>", "(I)V"⟩
abbrev M_Ce_init : mt_T := (y_Ce_init, prog_6_method_1_code, 2, none)
def L_Ce_init : List (Nat × Instr × Nat) := [(0, .aload_n 0, 1), (1, .invokespecial 1, 3), (4, .aload_n 0, 1), (5, .iconst (-1), 1), (6, .putfield 7, 3), (9, .aload_n 0, 1), (10, .iload_n 1, 1), (11, .iconst 0, 1), (12, .invokestatic 13, 3), (15, .newarray .byte, 2), (17, .putfield 19, 3), (20, .aload_n 0, 1), (21, .iload_n 1, 1), (22, .iconst 0, 1), (23, .invokestatic 13, 3), (26, .newarray .int, 2), (28, .putfield 23, 3), (31, .return_, 1)]
theorem D_Ce_init : decAll prog_6_method_1_code L_Ce_init = true := by decide +kernel
theorem K_Ce_init : MK M_Ce_init 1 := ⟨tb_in (i := 162) (by decide +kernel) (by decide +kernel), tb_in (i := 7) (by decide +kernel) (by decide +kernel), by decide +kernel, by decide, by decide +kernel, by decide +kernel, by decide +kernel⟩
theorem I_Ce_init : Cond.instanceMethod M_Ce_init.1 ∈ tbG := tb_in (i := 161) (by decide +kernel) (by decide +kernel)
def y_Ch_init : MethodName := ⟨"RescanMill$Chain", "<init>", "()V"⟩
abbrev M_Ch_init : mt_T := (y_Ch_init, prog_7_method_1_code, 1, none)
def L_Ch_init : List (Nat × Instr × Nat) := [(0, .aload_n 0, 1), (1, .invokespecial 1, 3), (4, .aload_n 0, 1), (5, .iconst (-1), 1), (6, .putfield 7, 3), (9, .aload_n 0, 1), (10, .iconst (-1), 1), (11, .putfield 13, 3), (14, .return_, 1)]
theorem D_Ch_init : decAll prog_7_method_1_code L_Ch_init = true := by decide +kernel
theorem K_Ch_init : MK M_Ch_init 0 := ⟨tb_in (i := 194) (by decide +kernel) (by decide +kernel), tb_in (i := 9) (by decide +kernel) (by decide +kernel), by decide +kernel, by decide, by decide +kernel, by decide +kernel, by decide +kernel⟩
theorem I_Ch_init : Cond.instanceMethod M_Ch_init.1 ∈ tbG := tb_in (i := 193) (by decide +kernel) (by decide +kernel)
def y_By_add : MethodName := ⟨"RescanMill$Bytes", "add", "(I)V"⟩
abbrev M_By_add : mt_T := (y_By_add, prog_4_method_5_code, 2, none)
def L_By_add : List (Nat × Instr × Nat) := [(0, .aload_n 0, 1), (1, .getfield 25, 3), (4, .ifCond .ne 22, 3), (7, .aload_n 0, 1), (8, .getfield 21, 3), (11, .ifCond .lt 15, 3), (14, .aload_n 0, 1), (15, .getfield 21, 3), (18, .aload_n 0, 1), (19, .getfield 15, 3), (22, .arraylength, 1), (23, .if_icmp .lt 9, 3), (26, .aload_n 0, 1), (27, .iconst 1, 1), (28, .putfield 25, 3), (31, .return_, 1), (32, .aload_n 0, 1), (33, .getfield 15, 3), (36, .aload_n 0, 1), (37, .getfield 21, 3), (40, .iload_n 1, 1), (41, .i2b, 1), (42, .bastore, 1), (43, .aload_n 0, 1), (44, .dup, 1), (45, .getfield 21, 3), (48, .iconst 1, 1), (49, .iadd, 1), (50, .putfield 21, 3), (53, .return_, 1)]
theorem D_By_add : decAll prog_4_method_5_code L_By_add = true := by decide +kernel
theorem K_By_add : MK M_By_add 1 := ⟨tb_in (i := 359) (by decide +kernel) (by decide +kernel), tb_in (i := 2) (by decide +kernel) (by decide +kernel), by decide +kernel, by decide, by decide +kernel, by decide +kernel, by decide +kernel⟩
theorem I_By_add : Cond.instanceMethod M_By_add.1 ∈ tbG := tb_in (i := 357) (by decide +kernel) (by decide +kernel)
theorem V_By_add : MV M_By_add := ⟨I_By_add, tb_in (i := 358) (by decide +kernel) (by decide +kernel)⟩
def y_By_addPart : MethodName := ⟨"RescanMill$Bytes", "addPart", "(LRescanMill$Bytes;II)V"⟩
abbrev M_By_addPart : mt_T := (y_By_addPart, prog_4_method_6_code, 4, none)
def L_By_addPart : List (Nat × Instr × Nat) := [(0, .aload_n 0, 1), (1, .getfield 25, 3), (4, .ifCond .ne 11, 3), (7, .aload_n 0, 1), (8, .iload_n 3, 1), (9, .invokevirtual 29, 3), (12, .ifCond .ne 9, 3), (15, .aload_n 0, 1), (16, .iconst 1, 1), (17, .putfield 25, 3), (20, .return_, 1), (21, .iload_n 2, 1), (22, .ifCond .lt 44, 3), (25, .iload_n 3, 1), (26, .ifCond .le 40, 3), (29, .iload_n 2, 1), (30, .aload_n 1, 1), (31, .getfield 21, 3), (34, .iload_n 3, 1), (35, .isub, 1), (36, .if_icmp .gt 30, 3), (39, .aload_n 1, 1), (40, .getfield 15, 3), (43, .iload_n 2, 1), (44, .aload_n 0, 1), (45, .getfield 15, 3), (48, .aload_n 0, 1), (49, .getfield 21, 3), (52, .iload_n 3, 1), (53, .invokestatic 33, 3), (56, .aload_n 0, 1), (57, .dup, 1), (58, .getfield 21, 3), (61, .iload_n 3, 1), (62, .iadd, 1), (63, .putfield 21, 3), (66, .return_, 1)]
theorem D_By_addPart : decAll prog_4_method_6_code L_By_addPart = true := by decide +kernel
theorem K_By_addPart : MK M_By_addPart 3 := ⟨tb_in (i := 367) (by decide +kernel) (by decide +kernel), tb_in (i := 2) (by decide +kernel) (by decide +kernel), by decide +kernel, by decide, by decide +kernel, by decide +kernel, by decide +kernel⟩
theorem I_By_addPart : Cond.instanceMethod M_By_addPart.1 ∈ tbG := tb_in (i := 365) (by decide +kernel) (by decide +kernel)
theorem V_By_addPart : MV M_By_addPart := ⟨I_By_addPart, tb_in (i := 366) (by decide +kernel) (by decide +kernel)⟩
def y_By_hasRoom : MethodName := ⟨"RescanMill$Bytes", "hasRoom", "(I)Z"⟩
abbrev M_By_hasRoom : mt_T := (y_By_hasRoom, prog_4_method_4_code, 2, (some (.boolean)))
def L_By_hasRoom : List (Nat × Instr × Nat) := [(0, .iload_n 1, 1), (1, .aload_n 0, 1), (2, .getfield 15, 3), (5, .arraylength, 1), (6, .aload_n 0, 1), (7, .getfield 21, 3), (10, .isub, 1), (11, .if_icmp .gt 7, 3), (14, .iconst 1, 1), (15, .goto 4, 3), (18, .iconst 0, 1), (19, .ireturn, 1)]
theorem D_By_hasRoom : decAll prog_4_method_4_code L_By_hasRoom = true := by decide +kernel
theorem K_By_hasRoom : MK M_By_hasRoom 1 := ⟨tb_in (i := 371) (by decide +kernel) (by decide +kernel), tb_in (i := 2) (by decide +kernel) (by decide +kernel), by decide +kernel, by decide, by decide +kernel, by decide +kernel, by decide +kernel⟩
theorem I_By_hasRoom : Cond.instanceMethod M_By_hasRoom.1 ∈ tbG := tb_in (i := 369) (by decide +kernel) (by decide +kernel)
theorem V_By_hasRoom : MV M_By_hasRoom := ⟨I_By_hasRoom, tb_in (i := 370) (by decide +kernel) (by decide +kernel)⟩
def y_By_cut : MethodName := ⟨"RescanMill$Bytes", "cut", "(I)V"⟩
abbrev M_By_cut : mt_T := (y_By_cut, prog_4_method_2_code, 2, none)
def L_By_cut : List (Nat × Instr × Nat) := [(0, .iload_n 1, 1), (1, .ifCond .lt 16, 3), (4, .iload_n 1, 1), (5, .aload_n 0, 1), (6, .getfield 21, 3), (9, .if_icmp .gt 8, 3), (12, .aload_n 0, 1), (13, .iload_n 1, 1), (14, .putfield 21, 3), (17, .aload_n 0, 1), (18, .iconst 0, 1), (19, .putfield 25, 3), (22, .return_, 1)]
theorem D_By_cut : decAll prog_4_method_2_code L_By_cut = true := by decide +kernel
theorem K_By_cut : MK M_By_cut 1 := ⟨tb_in (i := 382) (by decide +kernel) (by decide +kernel), tb_in (i := 2) (by decide +kernel) (by decide +kernel), by decide +kernel, by decide, by decide +kernel, by decide +kernel, by decide +kernel⟩
theorem I_By_cut : Cond.instanceMethod M_By_cut.1 ∈ tbG := tb_in (i := 380) (by decide +kernel) (by decide +kernel)
theorem V_By_cut : MV M_By_cut := ⟨I_By_cut, tb_in (i := 381) (by decide +kernel) (by decide +kernel)⟩
def y_In_begin : MethodName := ⟨"RescanMill$Input", "begin", "(LRescanMill$Bytes;I)V"⟩
abbrev M_In_begin : mt_T := (y_In_begin, prog_10_method_2_code, 3, none)
def L_In_begin : List (Nat × Instr × Nat) := [(0, .aload_n 0, 1), (1, .aload_n 1, 1), (2, .putfield 27, 3), (5, .aload_n 0, 1), (6, .iload_n 2, 1), (7, .putfield 38, 3), (10, .aload_n 0, 1), (11, .iconst 0, 1), (12, .putfield 41, 3), (15, .aload_n 0, 1), (16, .iconst 0, 1), (17, .putfield 44, 3), (20, .aload_n 0, 1), (21, .iconst 0, 1), (22, .putfield 47, 3), (25, .aload_n 0, 1), (26, .aload_n 0, 1), (27, .getfield 30, 3), (30, .arraylength, 1), (31, .putfield 34, 3), (34, .aload_n 0, 1), (35, .invokevirtual 50, 3), (38, .return_, 1)]
theorem D_In_begin : decAll prog_10_method_2_code L_In_begin = true := by decide +kernel
theorem K_In_begin : MK M_In_begin 2 := ⟨tb_in (i := 395) (by decide +kernel) (by decide +kernel), tb_in (i := 4) (by decide +kernel) (by decide +kernel), by decide +kernel, by decide, by decide +kernel, by decide +kernel, by decide +kernel⟩
theorem I_In_begin : Cond.instanceMethod M_In_begin.1 ∈ tbG := tb_in (i := 393) (by decide +kernel) (by decide +kernel)
theorem V_In_begin : MV M_In_begin := ⟨I_In_begin, tb_in (i := 394) (by decide +kernel) (by decide +kernel)⟩
def y_In_useFirstQuotes : MethodName := ⟨"RescanMill$Input", "useFirstQuotes", "()V"⟩
abbrev M_In_useFirstQuotes : mt_T := (y_In_useFirstQuotes, prog_10_method_3_code, 1, none)
def L_In_useFirstQuotes : List (Nat × Instr × Nat) := [(0, .aload_n 0, 1), (1, .getfield 14, 3), (4, .iconst 0, 1), (5, .invokevirtual 53, 3), (8, .aload_n 0, 1), (9, .getfield 14, 3), (12, .bipush 96, 2), (14, .invokevirtual 56, 3), (17, .aload_n 0, 1), (18, .getfield 20, 3), (21, .iconst 0, 1), (22, .invokevirtual 53, 3), (25, .aload_n 0, 1), (26, .getfield 20, 3), (29, .bipush 39, 2), (31, .invokevirtual 56, 3), (34, .return_, 1)]
theorem D_In_useFirstQuotes : decAll prog_10_method_3_code L_In_useFirstQuotes = true := by decide +kernel
theorem K_In_useFirstQuotes : MK M_In_useFirstQuotes 0 := ⟨tb_in (i := 399) (by decide +kernel) (by decide +kernel), tb_in (i := 4) (by decide +kernel) (by decide +kernel), by decide +kernel, by decide, by decide +kernel, by decide +kernel, by decide +kernel⟩
theorem I_In_useFirstQuotes : Cond.instanceMethod M_In_useFirstQuotes.1 ∈ tbG := tb_in (i := 397) (by decide +kernel) (by decide +kernel)
theorem V_In_useFirstQuotes : MV M_In_useFirstQuotes := ⟨I_In_useFirstQuotes, tb_in (i := 398) (by decide +kernel) (by decide +kernel)⟩
def y_Ca_forget : MethodName := ⟨"RescanMill$Calls", "forget", "()V"⟩
abbrev M_Ca_forget : mt_T := (y_Ca_forget, prog_5_method_2_code, 1, none)
def L_Ca_forget : List (Nat × Instr × Nat) := [(0, .aload_n 0, 1), (1, .getfield 14, 3), (4, .iconst 0, 1), (5, .invokevirtual 37, 3), (8, .aload_n 0, 1), (9, .iconst 0, 1), (10, .putfield 40, 3), (13, .aload_n 0, 1), (14, .iconst 0, 1), (15, .putfield 44, 3), (18, .aload_n 0, 1), (19, .iconst 0, 1), (20, .putfield 48, 3), (23, .return_, 1)]
theorem D_Ca_forget : decAll prog_5_method_2_code L_Ca_forget = true := by decide +kernel
theorem K_Ca_forget : MK M_Ca_forget 0 := ⟨tb_in (i := 405) (by decide +kernel) (by decide +kernel), tb_in (i := 5) (by decide +kernel) (by decide +kernel), by decide +kernel, by decide, by decide +kernel, by decide +kernel, by decide +kernel⟩
theorem I_Ca_forget : Cond.instanceMethod M_Ca_forget.1 ∈ tbG := tb_in (i := 403) (by decide +kernel) (by decide +kernel)
theorem V_Ca_forget : MV M_Ca_forget := ⟨I_Ca_forget, tb_in (i := 404) (by decide +kernel) (by decide +kernel)⟩
def y_Ce_forget : MethodName := ⟨"RescanMill$Cells", "forget", "()V"⟩
abbrev M_Ce_forget : mt_T := (y_Ce_forget, prog_6_method_2_code, 1, none)
def L_Ce_forget : List (Nat × Instr × Nat) := [(0, .aload_n 0, 1), (1, .iconst 0, 1), (2, .putfield 27, 3), (5, .aload_n 0, 1), (6, .iconst (-1), 1), (7, .putfield 7, 3), (10, .aload_n 0, 1), (11, .iconst 0, 1), (12, .putfield 30, 3), (15, .return_, 1)]
theorem D_Ce_forget : decAll prog_6_method_2_code L_Ce_forget = true := by decide +kernel
theorem K_Ce_forget : MK M_Ce_forget 0 := ⟨tb_in (i := 414) (by decide +kernel) (by decide +kernel), tb_in (i := 7) (by decide +kernel) (by decide +kernel), by decide +kernel, by decide, by decide +kernel, by decide +kernel, by decide +kernel⟩
theorem I_Ce_forget : Cond.instanceMethod M_Ce_forget.1 ∈ tbG := tb_in (i := 412) (by decide +kernel) (by decide +kernel)
theorem V_Ce_forget : MV M_Ce_forget := ⟨I_Ce_forget, tb_in (i := 413) (by decide +kernel) (by decide +kernel)⟩
def y_Ch_loosen : MethodName := ⟨"RescanMill$Chain", "loosen", "()V"⟩
abbrev M_Ch_loosen : mt_T := (y_Ch_loosen, prog_7_method_2_code, 1, none)
def L_Ch_loosen : List (Nat × Instr × Nat) := [(0, .aload_n 0, 1), (1, .iconst (-1), 1), (2, .putfield 7, 3), (5, .aload_n 0, 1), (6, .iconst (-1), 1), (7, .putfield 13, 3), (10, .aload_n 0, 1), (11, .iconst 0, 1), (12, .putfield 16, 3), (15, .return_, 1)]
theorem D_Ch_loosen : decAll prog_7_method_2_code L_Ch_loosen = true := by decide +kernel
theorem K_Ch_loosen : MK M_Ch_loosen 0 := ⟨tb_in (i := 418) (by decide +kernel) (by decide +kernel), tb_in (i := 9) (by decide +kernel) (by decide +kernel), by decide +kernel, by decide, by decide +kernel, by decide +kernel, by decide +kernel⟩
theorem I_Ch_loosen : Cond.instanceMethod M_Ch_loosen.1 ∈ tbG := tb_in (i := 416) (by decide +kernel) (by decide +kernel)
theorem V_Ch_loosen : MV M_Ch_loosen := ⟨I_Ch_loosen, tb_in (i := 417) (by decide +kernel) (by decide +kernel)⟩
def y_By_addText : MethodName := ⟨"RescanMill$Bytes", "addText", "(Ljava/lang/String;)V"⟩
abbrev M_By_addText : mt_T := (y_By_addText, prog_4_method_7_code, 3, none)
def L_By_addText : List (Nat × Instr × Nat) := [(0, .iconst 0, 1), (1, .istore_n 2, 1), (2, .iload_n 2, 1), (3, .aload_n 1, 1), (4, .invokevirtual 39, 3), (7, .if_icmp .ge 18, 3), (10, .aload_n 0, 1), (11, .aload_n 1, 1), (12, .iload_n 2, 1), (13, .invokevirtual 45, 3), (16, .invokevirtual 49, 3), (19, .iinc 2 1, 3), (22, .goto (-20), 3), (25, .return_, 1)]
theorem D_By_addText : decAll prog_4_method_7_code L_By_addText = true := by decide +kernel
theorem K_By_addText : MK M_By_addText 1 := ⟨tb_in (i := 429) (by decide +kernel) (by decide +kernel), tb_in (i := 2) (by decide +kernel) (by decide +kernel), by decide +kernel, by decide, by decide +kernel, by decide +kernel, by decide +kernel⟩
theorem I_By_addText : Cond.instanceMethod M_By_addText.1 ∈ tbG := tb_in (i := 427) (by decide +kernel) (by decide +kernel)
theorem V_By_addText : MV M_By_addText := ⟨I_By_addText, tb_in (i := 428) (by decide +kernel) (by decide +kernel)⟩
def y_St_length : MethodName := ⟨"java/lang/String", "length", "()I"⟩
abbrev M_St_length : mt_T := (y_St_length, prog_18_method_54_code, 1, (some (.int)))
def L_St_length : List (Nat × Instr × Nat) := [(0, .aload_n 0, 1), (1, .getfield 9, 3), (4, .arraylength, 1), (5, .aload_n 0, 1), (6, .invokevirtual 335, 3), (9, .ishr, 1), (10, .ireturn, 1)]
theorem D_St_length : decAll prog_18_method_54_code L_St_length = true := by decide +kernel
theorem K_St_length : MK M_St_length 0 := ⟨tb_in (i := 433) (by decide +kernel) (by decide +kernel), tb_in (i := 14) (by decide +kernel) (by decide +kernel), by decide +kernel, by decide, by decide +kernel, by decide +kernel, by decide +kernel⟩
theorem I_St_length : Cond.instanceMethod M_St_length.1 ∈ tbG := tb_in (i := 431) (by decide +kernel) (by decide +kernel)
theorem V_St_length : MV M_St_length := ⟨I_St_length, tb_in (i := 432) (by decide +kernel) (by decide +kernel)⟩
def y_St_coder : MethodName := ⟨"java/lang/String", "coder", "()B"⟩
abbrev M_St_coder : mt_T := (y_St_coder, prog_18_method_152_code, 1, (some (.byte)))
def L_St_coder : List (Nat × Instr × Nat) := [(0, .getstatic 38, 3), (3, .ifCond .eq 10, 3), (6, .aload_n 0, 1), (7, .getfield 15, 3), (10, .goto 4, 3), (13, .iconst 1, 1), (14, .ireturn, 1)]
theorem D_St_coder : decAll prog_18_method_152_code L_St_coder = true := by decide +kernel
theorem K_St_coder : MK M_St_coder 0 := ⟨tb_in (i := 437) (by decide +kernel) (by decide +kernel), tb_in (i := 14) (by decide +kernel) (by decide +kernel), by decide +kernel, by decide, by decide +kernel, by decide +kernel, by decide +kernel⟩
theorem I_St_coder : Cond.instanceMethod M_St_coder.1 ∈ tbG := tb_in (i := 435) (by decide +kernel) (by decide +kernel)
theorem V_St_coder : MV M_St_coder := ⟨I_St_coder, tb_in (i := 436) (by decide +kernel) (by decide +kernel)⟩
def y_St_charAt : MethodName := ⟨"java/lang/String", "charAt", "(I)C"⟩
abbrev M_St_charAt : mt_T := (y_St_charAt, prog_18_method_56_code, 2, (some (.char)))
def L_St_charAt : List (Nat × Instr × Nat) := [(0, .aload_n 0, 1), (1, .invokevirtual 492, 3), (4, .ifCond .eq 12, 3), (7, .aload_n 0, 1), (8, .getfield 9, 3), (11, .iload_n 1, 1), (12, .invokestatic 495, 3), (15, .ireturn, 1), (16, .aload_n 0, 1), (17, .getfield 9, 3), (20, .iload_n 1, 1), (21, .invokestatic 498, 3), (24, .ireturn, 1)]
theorem D_St_charAt : decAll prog_18_method_56_code L_St_charAt = true := by decide +kernel
theorem K_St_charAt : MK M_St_charAt 1 := ⟨tb_in (i := 443) (by decide +kernel) (by decide +kernel), tb_in (i := 14) (by decide +kernel) (by decide +kernel), by decide +kernel, by decide, by decide +kernel, by decide +kernel, by decide +kernel⟩
theorem I_St_charAt : Cond.instanceMethod M_St_charAt.1 ∈ tbG := tb_in (i := 441) (by decide +kernel) (by decide +kernel)
theorem V_St_charAt : MV M_St_charAt := ⟨I_St_charAt, tb_in (i := 442) (by decide +kernel) (by decide +kernel)⟩
def y_St_isLatin1 : MethodName := ⟨"java/lang/String", "isLatin1", "()Z"⟩
abbrev M_St_isLatin1 : mt_T := (y_St_isLatin1, prog_18_method_154_code, 1, (some (.boolean)))
def L_St_isLatin1 : List (Nat × Instr × Nat) := [(0, .getstatic 38, 3), (3, .ifCond .eq 14, 3), (6, .aload_n 0, 1), (7, .getfield 15, 3), (10, .ifCond .ne 7, 3), (13, .iconst 1, 1), (14, .goto 4, 3), (17, .iconst 0, 1), (18, .ireturn, 1)]
theorem D_St_isLatin1 : decAll prog_18_method_154_code L_St_isLatin1 = true := by decide +kernel
theorem K_St_isLatin1 : MK M_St_isLatin1 0 := ⟨tb_in (i := 447) (by decide +kernel) (by decide +kernel), tb_in (i := 14) (by decide +kernel) (by decide +kernel), by decide +kernel, by decide, by decide +kernel, by decide +kernel, by decide +kernel⟩
theorem I_St_isLatin1 : Cond.instanceMethod M_St_isLatin1.1 ∈ tbG := tb_in (i := 445) (by decide +kernel) (by decide +kernel)
theorem V_St_isLatin1 : MV M_St_isLatin1 := ⟨I_St_isLatin1, tb_in (i := 446) (by decide +kernel) (by decide +kernel)⟩
def y_Sl_charAt : MethodName := ⟨"java/lang/StringLatin1", "charAt", "([BI)C"⟩
abbrev M_Sl_charAt : mt_T := (y_Sl_charAt, prog_19_method_2_code, 2, (some (.char)))
def L_Sl_charAt : List (Nat × Instr × Nat) := [(0, .iload_n 1, 1), (1, .aload_n 0, 1), (2, .arraylength, 1), (3, .invokestatic 9, 3), (6, .aload_n 0, 1), (7, .iload_n 1, 1), (8, .baload, 1), (9, .sipush 255, 3), (12, .iand, 1), (13, .i2c, 1), (14, .ireturn, 1)]
theorem D_Sl_charAt : decAll prog_19_method_2_code L_Sl_charAt = true := by decide +kernel
theorem K_Sl_charAt : MK M_Sl_charAt 2 := ⟨tb_in (i := 450) (by decide +kernel) (by decide +kernel), tb_in (i := 15) (by decide +kernel) (by decide +kernel), by decide +kernel, by decide, by decide +kernel, by decide +kernel, by decide +kernel⟩
theorem S_Sl_charAt : Cond.static M_Sl_charAt.1 ∈ tbG := tb_in (i := 449) (by decide +kernel) (by decide +kernel)
def y_St_checkIndex : MethodName := ⟨"java/lang/String", "checkIndex", "(II)V"⟩
abbrev M_St_checkIndex : mt_T := (y_St_checkIndex, prog_18_method_155_code, 2, none)
def L_St_checkIndex : List (Nat × Instr × Nat) := [(0, .iload_n 0, 1), (1, .iload_n 1, 1), (2, .getstatic 1053, 3), (5, .invokestatic 1059, 3), (8, .pop, 1), (9, .return_, 1)]
theorem D_St_checkIndex : decAll prog_18_method_155_code L_St_checkIndex = true := by decide +kernel
theorem K_St_checkIndex : MK M_St_checkIndex 2 := ⟨tb_in (i := 453) (by decide +kernel) (by decide +kernel), tb_in (i := 14) (by decide +kernel) (by decide +kernel), by decide +kernel, by decide, by decide +kernel, by decide +kernel, by decide +kernel⟩
theorem S_St_checkIndex : Cond.static M_St_checkIndex.1 ∈ tbG := tb_in (i := 452) (by decide +kernel) (by decide +kernel)
def y_Pr_checkIndex : MethodName := ⟨"jdk/internal/util/Preconditions", "checkIndex", "(IILjava/util/function/BiFunction;)I"⟩
abbrev M_Pr_checkIndex : mt_T := (y_Pr_checkIndex, prog_22_method_11_code, 3, (some (.int)))
def L_Pr_checkIndex : List (Nat × Instr × Nat) := [(0, .iload_n 0, 1), (1, .ifCond .lt 8, 3), (4, .iload_n 0, 1), (5, .iload_n 1, 1), (6, .if_icmp .lt 10, 3), (9, .aload_n 2, 1), (10, .iload_n 0, 1), (11, .iload_n 1, 1), (12, .invokestatic 95, 3), (15, .athrow, 1), (16, .iload_n 0, 1), (17, .ireturn, 1)]
theorem D_Pr_checkIndex : decAll prog_22_method_11_code L_Pr_checkIndex = true := by decide +kernel
theorem K_Pr_checkIndex : MK M_Pr_checkIndex 3 := ⟨tb_in (i := 458) (by decide +kernel) (by decide +kernel), tb_in (i := 16) (by decide +kernel) (by decide +kernel), by decide +kernel, by decide, by decide +kernel, by decide +kernel, by decide +kernel⟩
theorem S_Pr_checkIndex : Cond.static M_Pr_checkIndex.1 ∈ tbG := tb_in (i := 457) (by decide +kernel) (by decide +kernel)
def y_By_at : MethodName := ⟨"RescanMill$Bytes", "at", "(I)I"⟩
abbrev M_By_at : mt_T := (y_By_at, prog_4_method_3_code, 2, (some (.int)))
def L_By_at : List (Nat × Instr × Nat) := [(0, .iload_n 1, 1), (1, .ifCond .lt 33, 3), (4, .iload_n 1, 1), (5, .aload_n 0, 1), (6, .getfield 21, 3), (9, .if_icmp .ge 25, 3), (12, .iload_n 1, 1), (13, .aload_n 0, 1), (14, .getfield 15, 3), (17, .arraylength, 1), (18, .if_icmp .ge 16, 3), (21, .aload_n 0, 1), (22, .getfield 15, 3), (25, .iload_n 1, 1), (26, .baload, 1), (27, .sipush 255, 3), (30, .iand, 1), (31, .goto 4, 3), (34, .iconst (-1), 1), (35, .ireturn, 1)]
theorem D_By_at : decAll prog_4_method_3_code L_By_at = true := by decide +kernel
theorem K_By_at : MK M_By_at 1 := ⟨tb_in (i := 493) (by decide +kernel) (by decide +kernel), tb_in (i := 2) (by decide +kernel) (by decide +kernel), by decide +kernel, by decide, by decide +kernel, by decide +kernel, by decide +kernel⟩
theorem I_By_at : Cond.instanceMethod M_By_at.1 ∈ tbG := tb_in (i := 491) (by decide +kernel) (by decide +kernel)
theorem V_By_at : MV M_By_at := ⟨I_By_at, tb_in (i := 492) (by decide +kernel) (by decide +kernel)⟩
def y_Ce_add : MethodName := ⟨"RescanMill$Cells", "add", "(LRescanMill$Chain;LRescanMill$Bytes;II)Z"⟩
abbrev M_Ce_add : mt_T := (y_Ce_add, prog_6_method_6_code, 7, (some (.boolean)))
def L_Ce_add : List (Nat × Instr × Nat) := [(0, .iload 4, 2), (2, .aload_n 0, 1), (3, .getfield 19, 3), (6, .arraylength, 1), (7, .aload_n 0, 1), (8, .getfield 30, 3), (11, .isub, 1), (12, .if_icmp .le 5, 3), (15, .iconst 0, 1), (16, .ireturn, 1), (17, .iconst 0, 1), (18, .istore 5, 2), (20, .iload 5, 2), (22, .iload 4, 2), (24, .if_icmp .ge 115, 3), (27, .aload_n 0, 1), (28, .getfield 7, 3), (31, .ifCond .lt 10, 3), (34, .aload_n 0, 1), (35, .getfield 7, 3), (38, .goto 7, 3), (41, .aload_n 0, 1), (42, .getfield 27, 3), (45, .istore 6, 2), (47, .aload_n 0, 1), (48, .iload 6, 2), (50, .invokevirtual 33, 3), (53, .ifCond .ne 5, 3), (56, .iconst 0, 1), (57, .ireturn, 1), (58, .aload_n 0, 1), (59, .getfield 7, 3), (62, .ifCond .lt 17, 3), (65, .aload_n 0, 1), (66, .aload_n 0, 1), (67, .getfield 23, 3), (70, .iload 6, 2), (72, .iaload, 1), (73, .putfield 7, 3), (76, .goto 13, 3), (79, .aload_n 0, 1), (80, .dup, 1), (81, .getfield 27, 3), (84, .iconst 1, 1), (85, .iadd, 1), (86, .putfield 27, 3), (89, .aload_n 0, 1), (90, .getfield 19, 3), (93, .iload 6, 2), (95, .aload_n 2, 1), (96, .iload_n 3, 1), (97, .iload 5, 2), (99, .iadd, 1), (100, .invokevirtual 37, 3), (103, .i2b, 1), (104, .bastore, 1), (105, .aload_n 0, 1), (106, .getfield 23, 3), (109, .iload 6, 2), (111, .iconst (-1), 1), (112, .iastore, 1), (113, .aload_n 0, 1), (114, .aload_n 1, 1), (115, .iload 6, 2), (117, .iload 6, 2), (119, .iconst 1, 1), (120, .invokevirtual 43, 3), (123, .aload_n 0, 1), (124, .dup, 1), (125, .getfield 30, 3), (128, .iconst 1, 1), (129, .iadd, 1), (130, .putfield 30, 3), (133, .iinc 5 1, 3), (136, .goto (-116), 3), (139, .iconst 1, 1), (140, .ireturn, 1)]
theorem D_Ce_add : decAll prog_6_method_6_code L_Ce_add = true := by decide +kernel
theorem K_Ce_add : MK M_Ce_add 4 := ⟨tb_in (i := 497) (by decide +kernel) (by decide +kernel), tb_in (i := 7) (by decide +kernel) (by decide +kernel), by decide +kernel, by decide, by decide +kernel, by decide +kernel, by decide +kernel⟩
theorem I_Ce_add : Cond.instanceMethod M_Ce_add.1 ∈ tbG := tb_in (i := 495) (by decide +kernel) (by decide +kernel)
theorem V_Ce_add : MV M_Ce_add := ⟨I_Ce_add, tb_in (i := 496) (by decide +kernel) (by decide +kernel)⟩
def y_Ce_isCell : MethodName := ⟨"RescanMill$Cells", "isCell", "(I)Z"⟩
abbrev M_Ce_isCell : mt_T := (y_Ce_isCell, prog_6_method_3_code, 2, (some (.boolean)))
def L_Ce_isCell : List (Nat × Instr × Nat) := [(0, .iload_n 1, 1), (1, .ifCond .lt 25, 3), (4, .iload_n 1, 1), (5, .aload_n 0, 1), (6, .getfield 19, 3), (9, .arraylength, 1), (10, .if_icmp .ge 16, 3), (13, .iload_n 1, 1), (14, .aload_n 0, 1), (15, .getfield 23, 3), (18, .arraylength, 1), (19, .if_icmp .ge 7, 3), (22, .iconst 1, 1), (23, .goto 4, 3), (26, .iconst 0, 1), (27, .ireturn, 1)]
theorem D_Ce_isCell : decAll prog_6_method_3_code L_Ce_isCell = true := by decide +kernel
theorem K_Ce_isCell : MK M_Ce_isCell 1 := ⟨tb_in (i := 501) (by decide +kernel) (by decide +kernel), tb_in (i := 7) (by decide +kernel) (by decide +kernel), by decide +kernel, by decide, by decide +kernel, by decide +kernel, by decide +kernel⟩
theorem I_Ce_isCell : Cond.instanceMethod M_Ce_isCell.1 ∈ tbG := tb_in (i := 500) (by decide +kernel) (by decide +kernel)
theorem V_Ce_isCell : MV M_Ce_isCell := ⟨I_Ce_isCell, ts_in (i := 2) (by decide +kernel) (by decide +kernel)⟩
def y_Ce_hang : MethodName := ⟨"RescanMill$Cells", "hang", "(LRescanMill$Chain;III)V"⟩
abbrev M_Ce_hang : mt_T := (y_Ce_hang, prog_6_method_7_code, 5, none)
def L_Ce_hang : List (Nat × Instr × Nat) := [(0, .aload_n 1, 1), (1, .getfield 47, 3), (4, .ifCond .lt 28, 3), (7, .aload_n 1, 1), (8, .getfield 47, 3), (11, .aload_n 0, 1), (12, .getfield 23, 3), (15, .arraylength, 1), (16, .if_icmp .ge 16, 3), (19, .aload_n 0, 1), (20, .getfield 23, 3), (23, .aload_n 1, 1), (24, .getfield 47, 3), (27, .iload_n 2, 1), (28, .iastore, 1), (29, .goto 8, 3), (32, .aload_n 1, 1), (33, .iload_n 2, 1), (34, .putfield 52, 3), (37, .aload_n 1, 1), (38, .iload_n 3, 1), (39, .putfield 47, 3), (42, .aload_n 1, 1), (43, .dup, 1), (44, .getfield 55, 3), (47, .iload 4, 2), (49, .iadd, 1), (50, .putfield 55, 3), (53, .return_, 1)]
theorem D_Ce_hang : decAll prog_6_method_7_code L_Ce_hang = true := by decide +kernel
theorem K_Ce_hang : MK M_Ce_hang 4 := ⟨tb_in (i := 506) (by decide +kernel) (by decide +kernel), tb_in (i := 7) (by decide +kernel) (by decide +kernel), by decide +kernel, by decide, by decide +kernel, by decide +kernel, by decide +kernel⟩
theorem I_Ce_hang : Cond.instanceMethod M_Ce_hang.1 ∈ tbG := tb_in (i := 505) (by decide +kernel) (by decide +kernel)
theorem V_Ce_hang : MV M_Ce_hang := ⟨I_Ce_hang, ts_in (i := 3) (by decide +kernel) (by decide +kernel)⟩
def y_In_readToken : MethodName := ⟨"RescanMill$Input", "readToken", "()I"⟩
abbrev M_In_readToken : mt_T := (y_In_readToken, prog_10_method_10_code, 2, (some (.int)))
def L_In_readToken : List (Nat × Instr × Nat) := [(0, .aload_n 0, 1), (1, .getfield 24, 3), (4, .iconst 0, 1), (5, .invokevirtual 53, 3), (8, .aload_n 0, 1), (9, .aload_n 0, 1), (10, .invokevirtual 86, 3), (13, .putfield 89, 3), (16, .aload_n 0, 1), (17, .iconst 0, 1), (18, .invokevirtual 92, 3), (21, .istore_n 1, 1), (22, .iload_n 1, 1), (23, .ifCond .ge 10, 3), (26, .aload_n 0, 1), (27, .iconst 0, 1), (28, .putfield 95, 3), (31, .iconst 0, 1), (32, .ireturn, 1), (33, .aload_n 0, 1), (34, .aload_n 0, 1), (35, .getfield 14, 3), (38, .invokevirtual 98, 3), (41, .ifCond .eq 8, 3), (44, .aload_n 0, 1), (45, .invokevirtual 102, 3), (48, .ireturn, 1), (49, .iload_n 1, 1), (50, .bipush 35, 2), (52, .if_icmp .ne 8, 3), (55, .aload_n 0, 1), (56, .invokevirtual 105, 3), (59, .ireturn, 1), (60, .iload_n 1, 1), (61, .invokestatic 108, 3), (64, .ifCond .eq 8, 3), (67, .aload_n 0, 1), (68, .invokevirtual 112, 3), (71, .ireturn, 1), (72, .aload_n 0, 1), (73, .iconst 4, 1), (74, .putfield 95, 3), (77, .aload_n 0, 1), (78, .iconst 1, 1), (79, .iconst 1, 1), (80, .invokevirtual 115, 3), (83, .ireturn, 1)]
theorem D_In_readToken : decAll prog_10_method_10_code L_In_readToken = true := by decide +kernel
theorem K_In_readToken : MK M_In_readToken 0 := ⟨tb_in (i := 513) (by decide +kernel) (by decide +kernel), tb_in (i := 4) (by decide +kernel) (by decide +kernel), by decide +kernel, by decide, by decide +kernel, by decide +kernel, by decide +kernel⟩
theorem I_In_readToken : Cond.instanceMethod M_In_readToken.1 ∈ tbG := tb_in (i := 511) (by decide +kernel) (by decide +kernel)
theorem V_In_readToken : MV M_In_readToken := ⟨I_In_readToken, tb_in (i := 512) (by decide +kernel) (by decide +kernel)⟩
def y_In_line : MethodName := ⟨"RescanMill$Input", "line", "()I"⟩
abbrev M_In_line : mt_T := (y_In_line, prog_10_method_4_code, 1, (some (.int)))
def L_In_line : List (Nat × Instr × Nat) := [(0, .aload_n 0, 1), (1, .getfield 44, 3), (4, .iconst 1, 1), (5, .iadd, 1), (6, .ireturn, 1)]
theorem D_In_line : decAll prog_10_method_4_code L_In_line = true := by decide +kernel
theorem K_In_line : MK M_In_line 0 := ⟨tb_in (i := 517) (by decide +kernel) (by decide +kernel), tb_in (i := 4) (by decide +kernel) (by decide +kernel), by decide +kernel, by decide, by decide +kernel, by decide +kernel, by decide +kernel⟩
theorem I_In_line : Cond.instanceMethod M_In_line.1 ∈ tbG := tb_in (i := 515) (by decide +kernel) (by decide +kernel)
theorem V_In_line : MV M_In_line := ⟨I_In_line, tb_in (i := 516) (by decide +kernel) (by decide +kernel)⟩
def y_In_peek : MethodName := ⟨"RescanMill$Input", "peek", "(I)I"⟩
abbrev M_In_peek : mt_T := (y_In_peek, prog_10_method_6_code, 3, (some (.int)))
def L_In_peek : List (Nat × Instr × Nat) := [(0, .aload_n 0, 1), (1, .getfield 34, 3), (4, .iload_n 1, 1), (5, .iadd, 1), (6, .istore_n 2, 1), (7, .iload_n 2, 1), (8, .ifCond .lt 23, 3), (11, .iload_n 2, 1), (12, .aload_n 0, 1), (13, .getfield 30, 3), (16, .arraylength, 1), (17, .if_icmp .ge 14, 3), (20, .aload_n 0, 1), (21, .getfield 30, 3), (24, .iload_n 2, 1), (25, .baload, 1), (26, .sipush 255, 3), (29, .iand, 1), (30, .ireturn, 1), (31, .aload_n 0, 1), (32, .getfield 27, 3), (35, .aload_n 0, 1), (36, .getfield 47, 3), (39, .iload_n 2, 1), (40, .iadd, 1), (41, .aload_n 0, 1), (42, .getfield 30, 3), (45, .arraylength, 1), (46, .isub, 1), (47, .invokevirtual 62, 3), (50, .ireturn, 1)]
theorem D_In_peek : decAll prog_10_method_6_code L_In_peek = true := by decide +kernel
theorem K_In_peek : MK M_In_peek 1 := ⟨tb_in (i := 521) (by decide +kernel) (by decide +kernel), tb_in (i := 4) (by decide +kernel) (by decide +kernel), by decide +kernel, by decide, by decide +kernel, by decide +kernel, by decide +kernel⟩
theorem I_In_peek : Cond.instanceMethod M_In_peek.1 ∈ tbG := tb_in (i := 519) (by decide +kernel) (by decide +kernel)
theorem V_In_peek : MV M_In_peek := ⟨I_In_peek, tb_in (i := 520) (by decide +kernel) (by decide +kernel)⟩
def y_In_begins : MethodName := ⟨"RescanMill$Input", "begins", "(LRescanMill$Bytes;)Z"⟩
abbrev M_In_begins : mt_T := (y_In_begins, prog_10_method_11_code, 3, (some (.boolean)))
def L_In_begins : List (Nat × Instr × Nat) := [(0, .iconst 0, 1), (1, .istore_n 2, 1), (2, .iload_n 2, 1), (3, .aload_n 1, 1), (4, .getfield 59, 3), (7, .if_icmp .ge 24, 3), (10, .aload_n 0, 1), (11, .iload_n 2, 1), (12, .invokevirtual 92, 3), (15, .aload_n 1, 1), (16, .iload_n 2, 1), (17, .invokevirtual 62, 3), (20, .if_icmp .eq 5, 3), (23, .iconst 0, 1), (24, .ireturn, 1), (25, .iinc 2 1, 3), (28, .goto (-26), 3), (31, .iconst 1, 1), (32, .ireturn, 1)]
theorem D_In_begins : decAll prog_10_method_11_code L_In_begins = true := by decide +kernel
theorem K_In_begins : MK M_In_begins 1 := ⟨tb_in (i := 526) (by decide +kernel) (by decide +kernel), tb_in (i := 4) (by decide +kernel) (by decide +kernel), by decide +kernel, by decide, by decide +kernel, by decide +kernel, by decide +kernel⟩
theorem I_In_begins : Cond.instanceMethod M_In_begins.1 ∈ tbG := tb_in (i := 525) (by decide +kernel) (by decide +kernel)
theorem V_In_begins : MV M_In_begins := ⟨I_In_begins, ts_in (i := 4) (by decide +kernel) (by decide +kernel)⟩
def y_In_readQuoted : MethodName := ⟨"RescanMill$Input", "readQuoted", "()I"⟩
abbrev M_In_readQuoted : mt_T := (y_In_readQuoted, prog_10_method_13_code, 4, (some (.int)))
def L_In_readQuoted : List (Nat × Instr × Nat) := [(0, .aload_n 0, 1), (1, .iconst 1, 1), (2, .putfield 95, 3), (5, .aload_n 0, 1), (6, .aload_n 0, 1), (7, .getfield 14, 3), (10, .getfield 59, 3), (13, .iconst 0, 1), (14, .invokevirtual 115, 3), (17, .istore_n 1, 1), (18, .iconst 1, 1), (19, .istore_n 2, 1), (20, .iconst 0, 1), (21, .istore_n 3, 1), (22, .iload_n 3, 1), (23, .ldc 23, 2), (25, .if_icmp .ge 104, 3), (28, .iload_n 1, 1), (29, .ifCond .ne 100, 3), (32, .aload_n 0, 1), (33, .invokevirtual 66, 3), (36, .ifCond .le 93, 3), (39, .aload_n 0, 1), (40, .aload_n 0, 1), (41, .getfield 20, 3), (44, .invokevirtual 98, 3), (47, .ifCond .eq 39, 3), (50, .iinc 2 (-1), 3), (53, .iload_n 2, 1), (54, .ifCond .ne 16, 3), (57, .aload_n 0, 1), (58, .aload_n 0, 1), (59, .getfield 20, 3), (62, .getfield 59, 3), (65, .iconst 0, 1), (66, .invokevirtual 115, 3), (69, .ireturn, 1), (70, .aload_n 0, 1), (71, .aload_n 0, 1), (72, .getfield 20, 3), (75, .getfield 59, 3), (78, .iconst 1, 1), (79, .invokevirtual 115, 3), (82, .istore_n 1, 1), (83, .goto 40, 3), (86, .aload_n 0, 1), (87, .aload_n 0, 1), (88, .getfield 14, 3), (91, .invokevirtual 98, 3), (94, .ifCond .eq 22, 3), (97, .iinc 2 1, 3), (100, .aload_n 0, 1), (101, .aload_n 0, 1), (102, .getfield 14, 3), (105, .getfield 59, 3), (108, .iconst 1, 1), (109, .invokevirtual 115, 3), (112, .istore_n 1, 1), (113, .goto 10, 3), (116, .aload_n 0, 1), (117, .iconst 1, 1), (118, .iconst 1, 1), (119, .invokevirtual 115, 3), (122, .istore_n 1, 1), (123, .iinc 3 1, 3), (126, .goto (-104), 3), (129, .iload_n 1, 1), (130, .ifCond .eq 7, 3), (133, .iload_n 1, 1), (134, .goto 5, 3), (137, .bipush 32, 2), (139, .ireturn, 1)]
theorem D_In_readQuoted : decAll prog_10_method_13_code L_In_readQuoted = true := by decide +kernel
theorem K_In_readQuoted : MK M_In_readQuoted 0 := ⟨tb_in (i := 530) (by decide +kernel) (by decide +kernel), tb_in (i := 4) (by decide +kernel) (by decide +kernel), by decide +kernel, by decide, by decide +kernel, by decide +kernel, by decide +kernel⟩
theorem I_In_readQuoted : Cond.instanceMethod M_In_readQuoted.1 ∈ tbG := tb_in (i := 529) (by decide +kernel) (by decide +kernel)
theorem V_In_readQuoted : MV M_In_readQuoted := ⟨I_In_readQuoted, ts_in (i := 5) (by decide +kernel) (by decide +kernel)⟩
def y_In_takeSome : MethodName := ⟨"RescanMill$Input", "takeSome", "(IZ)I"⟩
abbrev M_In_takeSome : mt_T := (y_In_takeSome, prog_10_method_12_code, 5, (some (.int)))
def L_In_takeSome : List (Nat × Instr × Nat) := [(0, .iconst 0, 1), (1, .istore_n 3, 1), (2, .iload_n 3, 1), (3, .iload_n 1, 1), (4, .if_icmp .ge 36, 3), (7, .aload_n 0, 1), (8, .invokevirtual 83, 3), (11, .istore 4, 2), (13, .iload 4, 2), (15, .ifCond .ge 6, 3), (18, .bipush 31, 2), (20, .ireturn, 1), (21, .iload_n 2, 1), (22, .ifCond .eq 12, 3), (25, .aload_n 0, 1), (26, .getfield 24, 3), (29, .iload 4, 2), (31, .invokevirtual 56, 3), (34, .iinc 3 1, 3), (37, .goto (-35), 3), (40, .iconst 0, 1), (41, .ireturn, 1)]
theorem D_In_takeSome : decAll prog_10_method_12_code L_In_takeSome = true := by decide +kernel
theorem K_In_takeSome : MK M_In_takeSome 2 := ⟨tb_in (i := 534) (by decide +kernel) (by decide +kernel), tb_in (i := 4) (by decide +kernel) (by decide +kernel), by decide +kernel, by decide, by decide +kernel, by decide +kernel, by decide +kernel⟩
theorem I_In_takeSome : Cond.instanceMethod M_In_takeSome.1 ∈ tbG := tb_in (i := 533) (by decide +kernel) (by decide +kernel)
theorem V_In_takeSome : MV M_In_takeSome := ⟨I_In_takeSome, ts_in (i := 6) (by decide +kernel) (by decide +kernel)⟩
def y_In_take : MethodName := ⟨"RescanMill$Input", "take", "()I"⟩
abbrev M_In_take : mt_T := (y_In_take, prog_10_method_7_code, 2, (some (.int)))
def L_In_take : List (Nat × Instr × Nat) := [(0, .aload_n 0, 1), (1, .getfield 41, 3), (4, .aload_n 0, 1), (5, .getfield 38, 3), (8, .if_icmp .ge 10, 3), (11, .aload_n 0, 1), (12, .invokevirtual 66, 3), (15, .ifCond .gt 5, 3), (18, .iconst (-1), 1), (19, .ireturn, 1), (20, .aload_n 0, 1), (21, .dup, 1), (22, .getfield 41, 3), (25, .iconst 1, 1), (26, .iadd, 1), (27, .putfield 41, 3), (30, .aload_n 0, 1), (31, .getfield 34, 3), (34, .ifCond .lt 41, 3), (37, .aload_n 0, 1), (38, .getfield 34, 3), (41, .aload_n 0, 1), (42, .getfield 30, 3), (45, .arraylength, 1), (46, .if_icmp .ge 29, 3), (49, .aload_n 0, 1), (50, .getfield 30, 3), (53, .aload_n 0, 1), (54, .getfield 34, 3), (57, .baload, 1), (58, .sipush 255, 3), (61, .iand, 1), (62, .istore_n 1, 1), (63, .aload_n 0, 1), (64, .dup, 1), (65, .getfield 34, 3), (68, .iconst 1, 1), (69, .iadd, 1), (70, .putfield 34, 3), (73, .iload_n 1, 1), (74, .ireturn, 1), (75, .aload_n 0, 1), (76, .getfield 27, 3), (79, .aload_n 0, 1), (80, .getfield 47, 3), (83, .invokevirtual 62, 3), (86, .istore_n 1, 1), (87, .aload_n 0, 1), (88, .dup, 1), (89, .getfield 47, 3), (92, .iconst 1, 1), (93, .iadd, 1), (94, .putfield 47, 3), (97, .iload_n 1, 1), (98, .bipush 10, 2), (100, .if_icmp .ne 13, 3), (103, .aload_n 0, 1), (104, .dup, 1), (105, .getfield 44, 3), (108, .iconst 1, 1), (109, .iadd, 1), (110, .putfield 44, 3), (113, .iload_n 1, 1), (114, .ireturn, 1)]
theorem D_In_take : decAll prog_10_method_7_code L_In_take = true := by decide +kernel
theorem K_In_take : MK M_In_take 0 := ⟨tb_in (i := 538) (by decide +kernel) (by decide +kernel), tb_in (i := 4) (by decide +kernel) (by decide +kernel), by decide +kernel, by decide, by decide +kernel, by decide +kernel, by decide +kernel⟩
theorem I_In_take : Cond.instanceMethod M_In_take.1 ∈ tbG := tb_in (i := 536) (by decide +kernel) (by decide +kernel)
theorem V_In_take : MV M_In_take := ⟨I_In_take, tb_in (i := 537) (by decide +kernel) (by decide +kernel)⟩
def y_In_left : MethodName := ⟨"RescanMill$Input", "left", "()I"⟩
abbrev M_In_left : mt_T := (y_In_left, prog_10_method_5_code, 1, (some (.int)))
def L_In_left : List (Nat × Instr × Nat) := [(0, .aload_n 0, 1), (1, .getfield 30, 3), (4, .arraylength, 1), (5, .aload_n 0, 1), (6, .getfield 34, 3), (9, .isub, 1), (10, .aload_n 0, 1), (11, .getfield 27, 3), (14, .getfield 59, 3), (17, .iadd, 1), (18, .aload_n 0, 1), (19, .getfield 47, 3), (22, .isub, 1), (23, .ireturn, 1)]
theorem D_In_left : decAll prog_10_method_5_code L_In_left = true := by decide +kernel
theorem K_In_left : MK M_In_left 0 := ⟨tb_in (i := 542) (by decide +kernel) (by decide +kernel), tb_in (i := 4) (by decide +kernel) (by decide +kernel), by decide +kernel, by decide, by decide +kernel, by decide +kernel, by decide +kernel⟩
theorem I_In_left : Cond.instanceMethod M_In_left.1 ∈ tbG := tb_in (i := 540) (by decide +kernel) (by decide +kernel)
theorem V_In_left : MV M_In_left := ⟨I_In_left, tb_in (i := 541) (by decide +kernel) (by decide +kernel)⟩
def y_In_readRemark : MethodName := ⟨"RescanMill$Input", "readRemark", "()I"⟩
abbrev M_In_readRemark : mt_T := (y_In_readRemark, prog_10_method_14_code, 4, (some (.int)))
def L_In_readRemark : List (Nat × Instr × Nat) := [(0, .aload_n 0, 1), (1, .iconst 2, 1), (2, .putfield 95, 3), (5, .iconst 0, 1), (6, .istore_n 1, 1), (7, .iconst 0, 1), (8, .istore_n 2, 1), (9, .iload_n 2, 1), (10, .ldc 23, 2), (12, .if_icmp .ge 49, 3), (15, .iload_n 1, 1), (16, .ifCond .ne 45, 3), (19, .aload_n 0, 1), (20, .invokevirtual 66, 3), (23, .ifCond .le 38, 3), (26, .aload_n 0, 1), (27, .iconst 0, 1), (28, .invokevirtual 92, 3), (31, .bipush 10, 2), (33, .if_icmp .ne 7, 3), (36, .iconst 1, 1), (37, .goto 4, 3), (40, .iconst 0, 1), (41, .istore_n 3, 1), (42, .aload_n 0, 1), (43, .iconst 1, 1), (44, .iconst 1, 1), (45, .invokevirtual 115, 3), (48, .istore_n 1, 1), (49, .iload_n 3, 1), (50, .ifCond .eq 5, 3), (53, .iload_n 1, 1), (54, .ireturn, 1), (55, .iinc 2 1, 3), (58, .goto (-49), 3), (61, .iload_n 1, 1), (62, .ireturn, 1)]
theorem D_In_readRemark : decAll prog_10_method_14_code L_In_readRemark = true := by decide +kernel
theorem K_In_readRemark : MK M_In_readRemark 0 := ⟨tb_in (i := 546) (by decide +kernel) (by decide +kernel), tb_in (i := 4) (by decide +kernel) (by decide +kernel), by decide +kernel, by decide, by decide +kernel, by decide +kernel, by decide +kernel⟩
theorem I_In_readRemark : Cond.instanceMethod M_In_readRemark.1 ∈ tbG := tb_in (i := 545) (by decide +kernel) (by decide +kernel)
theorem V_In_readRemark : MV M_In_readRemark := ⟨I_In_readRemark, ts_in (i := 7) (by decide +kernel) (by decide +kernel)⟩
def y_In_readName : MethodName := ⟨"RescanMill$Input", "readName", "()I"⟩
abbrev M_In_readName : mt_T := (y_In_readName, prog_10_method_15_code, 3, (some (.int)))
def L_In_readName : List (Nat × Instr × Nat) := [(0, .aload_n 0, 1), (1, .iconst 3, 1), (2, .putfield 95, 3), (5, .iconst 0, 1), (6, .istore_n 1, 1), (7, .iconst 0, 1), (8, .istore_n 2, 1), (9, .iload_n 2, 1), (10, .ldc 23, 2), (12, .if_icmp .ge 31, 3), (15, .iload_n 1, 1), (16, .ifCond .ne 27, 3), (19, .aload_n 0, 1), (20, .iconst 0, 1), (21, .invokevirtual 92, 3), (24, .invokestatic 119, 3), (27, .ifCond .eq 16, 3), (30, .aload_n 0, 1), (31, .iconst 1, 1), (32, .iconst 1, 1), (33, .invokevirtual 115, 3), (36, .istore_n 1, 1), (37, .iinc 2 1, 3), (40, .goto (-31), 3), (43, .iload_n 1, 1), (44, .ireturn, 1)]
theorem D_In_readName : decAll prog_10_method_15_code L_In_readName = true := by decide +kernel
theorem K_In_readName : MK M_In_readName 0 := ⟨tb_in (i := 553) (by decide +kernel) (by decide +kernel), tb_in (i := 4) (by decide +kernel) (by decide +kernel), by decide +kernel, by decide, by decide +kernel, by decide +kernel, by decide +kernel⟩
theorem I_In_readName : Cond.instanceMethod M_In_readName.1 ∈ tbG := tb_in (i := 552) (by decide +kernel) (by decide +kernel)
theorem V_In_readName : MV M_In_readName := ⟨I_In_readName, ts_in (i := 8) (by decide +kernel) (by decide +kernel)⟩
def y_Ce_at : MethodName := ⟨"RescanMill$Cells", "at", "(I)I"⟩
abbrev M_Ce_at : mt_T := (y_Ce_at, prog_6_method_4_code, 2, (some (.int)))
def L_Ce_at : List (Nat × Instr × Nat) := [(0, .iload_n 1, 1), (1, .ifCond .lt 25, 3), (4, .iload_n 1, 1), (5, .aload_n 0, 1), (6, .getfield 19, 3), (9, .arraylength, 1), (10, .if_icmp .ge 16, 3), (13, .aload_n 0, 1), (14, .getfield 19, 3), (17, .iload_n 1, 1), (18, .baload, 1), (19, .sipush 255, 3), (22, .iand, 1), (23, .goto 4, 3), (26, .iconst (-1), 1), (27, .ireturn, 1)]
theorem D_Ce_at : decAll prog_6_method_4_code L_Ce_at = true := by decide +kernel
theorem K_Ce_at : MK M_Ce_at 1 := ⟨tb_in (i := 580) (by decide +kernel) (by decide +kernel), tb_in (i := 7) (by decide +kernel) (by decide +kernel), by decide +kernel, by decide, by decide +kernel, by decide +kernel, by decide +kernel⟩
theorem I_Ce_at : Cond.instanceMethod M_Ce_at.1 ∈ tbG := tb_in (i := 578) (by decide +kernel) (by decide +kernel)
theorem V_Ce_at : MV M_Ce_at := ⟨I_Ce_at, tb_in (i := 579) (by decide +kernel) (by decide +kernel)⟩
def y_Ce_behind : MethodName := ⟨"RescanMill$Cells", "behind", "(I)I"⟩
abbrev M_Ce_behind : mt_T := (y_Ce_behind, prog_6_method_5_code, 2, (some (.int)))
def L_Ce_behind : List (Nat × Instr × Nat) := [(0, .iload_n 1, 1), (1, .ifCond .lt 21, 3), (4, .iload_n 1, 1), (5, .aload_n 0, 1), (6, .getfield 23, 3), (9, .arraylength, 1), (10, .if_icmp .ge 12, 3), (13, .aload_n 0, 1), (14, .getfield 23, 3), (17, .iload_n 1, 1), (18, .iaload, 1), (19, .goto 4, 3), (22, .iconst (-1), 1), (23, .ireturn, 1)]
theorem D_Ce_behind : decAll prog_6_method_5_code L_Ce_behind = true := by decide +kernel
theorem K_Ce_behind : MK M_Ce_behind 1 := ⟨tb_in (i := 584) (by decide +kernel) (by decide +kernel), tb_in (i := 7) (by decide +kernel) (by decide +kernel), by decide +kernel, by decide, by decide +kernel, by decide +kernel, by decide +kernel⟩
theorem I_Ce_behind : Cond.instanceMethod M_Ce_behind.1 ∈ tbG := tb_in (i := 582) (by decide +kernel) (by decide +kernel)
theorem V_Ce_behind : MV M_Ce_behind := ⟨I_Ce_behind, tb_in (i := 583) (by decide +kernel) (by decide +kernel)⟩
def y_Ca_noteToken : MethodName := ⟨"RescanMill$Calls", "noteToken", "()V"⟩
abbrev M_Ca_noteToken : mt_T := (y_Ca_noteToken, prog_5_method_8_code, 1, none)
def L_Ca_noteToken : List (Nat × Instr × Nat) := [(0, .aload_n 0, 1), (1, .invokevirtual 62, 3), (4, .ifCond .eq 15, 3), (7, .aload_n 0, 1), (8, .getfield 33, 3), (11, .aload_n 0, 1), (12, .getfield 40, 3), (15, .iconst 1, 1), (16, .isub, 1), (17, .iconst 1, 1), (18, .bastore, 1), (19, .return_, 1)]
theorem D_Ca_noteToken : decAll prog_5_method_8_code L_Ca_noteToken = true := by decide +kernel
theorem K_Ca_noteToken : MK M_Ca_noteToken 0 := ⟨tb_in (i := 593) (by decide +kernel) (by decide +kernel), tb_in (i := 5) (by decide +kernel) (by decide +kernel), by decide +kernel, by decide, by decide +kernel, by decide +kernel, by decide +kernel⟩
theorem I_Ca_noteToken : Cond.instanceMethod M_Ca_noteToken.1 ∈ tbG := tb_in (i := 591) (by decide +kernel) (by decide +kernel)
theorem V_Ca_noteToken : MV M_Ca_noteToken := ⟨I_Ca_noteToken, tb_in (i := 592) (by decide +kernel) (by decide +kernel)⟩
def y_Ca_hasTop : MethodName := ⟨"RescanMill$Calls", "hasTop", "()Z"⟩
abbrev M_Ca_hasTop : mt_T := (y_Ca_hasTop, prog_5_method_3_code, 1, (some (.boolean)))
def L_Ca_hasTop : List (Nat × Instr × Nat) := [(0, .aload_n 0, 1), (1, .getfield 40, 3), (4, .ifCond .le 16, 3), (7, .aload_n 0, 1), (8, .getfield 40, 3), (11, .bipush 50, 2), (13, .if_icmp .gt 7, 3), (16, .iconst 1, 1), (17, .goto 4, 3), (20, .iconst 0, 1), (21, .ireturn, 1)]
theorem D_Ca_hasTop : decAll prog_5_method_3_code L_Ca_hasTop = true := by decide +kernel
theorem K_Ca_hasTop : MK M_Ca_hasTop 0 := ⟨tb_in (i := 597) (by decide +kernel) (by decide +kernel), tb_in (i := 5) (by decide +kernel) (by decide +kernel), by decide +kernel, by decide, by decide +kernel, by decide +kernel, by decide +kernel⟩
theorem I_Ca_hasTop : Cond.instanceMethod M_Ca_hasTop.1 ∈ tbG := tb_in (i := 596) (by decide +kernel) (by decide +kernel)
theorem V_Ca_hasTop : MV M_Ca_hasTop := ⟨I_Ca_hasTop, ts_in (i := 13) (by decide +kernel) (by decide +kernel)⟩
def y_Ca_begin : MethodName := ⟨"RescanMill$Calls", "begin", "(LRescanMill$Bytes;)Z"⟩
abbrev M_Ca_begin : mt_T := (y_Ca_begin, prog_5_method_4_code, 2, (some (.boolean)))
def L_Ca_begin : List (Nat × Instr × Nat) := [(0, .aload_n 0, 1), (1, .getfield 40, 3), (4, .ifCond .lt 26, 3), (7, .aload_n 0, 1), (8, .getfield 40, 3), (11, .bipush 50, 2), (13, .if_icmp .ge 17, 3), (16, .aload_n 0, 1), (17, .getfield 14, 3), (20, .aload_n 1, 1), (21, .getfield 51, 3), (24, .invokevirtual 54, 3), (27, .ifCond .ne 5, 3), (30, .iconst 0, 1), (31, .ireturn, 1), (32, .aload_n 0, 1), (33, .getfield 24, 3), (36, .aload_n 0, 1), (37, .getfield 40, 3), (40, .aload_n 0, 1), (41, .getfield 14, 3), (44, .getfield 51, 3), (47, .iastore, 1), (48, .aload_n 0, 1), (49, .getfield 27, 3), (52, .aload_n 0, 1), (53, .getfield 40, 3), (56, .aload_n 0, 1), (57, .getfield 48, 3), (60, .iastore, 1), (61, .aload_n 0, 1), (62, .getfield 30, 3), (65, .aload_n 0, 1), (66, .getfield 40, 3), (69, .iconst 1, 1), (70, .iastore, 1), (71, .aload_n 0, 1), (72, .dup, 1), (73, .getfield 40, 3), (76, .iconst 1, 1), (77, .iadd, 1), (78, .putfield 40, 3), (81, .aload_n 0, 1), (82, .getfield 14, 3), (85, .aload_n 1, 1), (86, .iconst 0, 1), (87, .aload_n 1, 1), (88, .getfield 51, 3), (91, .invokevirtual 58, 3), (94, .iconst 1, 1), (95, .ireturn, 1)]
theorem D_Ca_begin : decAll prog_5_method_4_code L_Ca_begin = true := by decide +kernel
theorem K_Ca_begin : MK M_Ca_begin 1 := ⟨tb_in (i := 601) (by decide +kernel) (by decide +kernel), tb_in (i := 5) (by decide +kernel) (by decide +kernel), by decide +kernel, by decide, by decide +kernel, by decide +kernel, by decide +kernel⟩
theorem I_Ca_begin : Cond.instanceMethod M_Ca_begin.1 ∈ tbG := tb_in (i := 599) (by decide +kernel) (by decide +kernel)
theorem V_Ca_begin : MV M_Ca_begin := ⟨I_Ca_begin, tb_in (i := 600) (by decide +kernel) (by decide +kernel)⟩
def y_Ca_beginArgument : MethodName := ⟨"RescanMill$Calls", "beginArgument", "()Z"⟩
abbrev M_Ca_beginArgument : mt_T := (y_Ca_beginArgument, prog_5_method_5_code, 1, (some (.boolean)))
def L_Ca_beginArgument : List (Nat × Instr × Nat) := [(0, .aload_n 0, 1), (1, .invokevirtual 62, 3), (4, .ifCond .eq 22, 3), (7, .aload_n 0, 1), (8, .getfield 48, 3), (11, .ifCond .lt 15, 3), (14, .aload_n 0, 1), (15, .getfield 48, 3), (18, .aload_n 0, 1), (19, .getfield 20, 3), (22, .arraylength, 1), (23, .if_icmp .lt 5, 3), (26, .iconst 0, 1), (27, .ireturn, 1), (28, .aload_n 0, 1), (29, .getfield 20, 3), (32, .aload_n 0, 1), (33, .getfield 48, 3), (36, .aload_n 0, 1), (37, .getfield 14, 3), (40, .getfield 51, 3), (43, .iastore, 1), (44, .aload_n 0, 1), (45, .dup, 1), (46, .getfield 48, 3), (49, .iconst 1, 1), (50, .iadd, 1), (51, .putfield 48, 3), (54, .aload_n 0, 1), (55, .getfield 33, 3), (58, .aload_n 0, 1), (59, .getfield 40, 3), (62, .iconst 1, 1), (63, .isub, 1), (64, .iconst 0, 1), (65, .bastore, 1), (66, .iconst 1, 1), (67, .ireturn, 1)]
theorem D_Ca_beginArgument : decAll prog_5_method_5_code L_Ca_beginArgument = true := by decide +kernel
theorem K_Ca_beginArgument : MK M_Ca_beginArgument 0 := ⟨tb_in (i := 608) (by decide +kernel) (by decide +kernel), tb_in (i := 5) (by decide +kernel) (by decide +kernel), by decide +kernel, by decide, by decide +kernel, by decide +kernel, by decide +kernel⟩
theorem I_Ca_beginArgument : Cond.instanceMethod M_Ca_beginArgument.1 ∈ tbG := tb_in (i := 606) (by decide +kernel) (by decide +kernel)
theorem V_Ca_beginArgument : MV M_Ca_beginArgument := ⟨I_Ca_beginArgument, tb_in (i := 607) (by decide +kernel) (by decide +kernel)⟩
def y_Ca_hasToken : MethodName := ⟨"RescanMill$Calls", "hasToken", "()Z"⟩
abbrev M_Ca_hasToken : mt_T := (y_Ca_hasToken, prog_5_method_9_code, 1, (some (.boolean)))
def L_Ca_hasToken : List (Nat × Instr × Nat) := [(0, .aload_n 0, 1), (1, .invokevirtual 62, 3), (4, .ifCond .eq 21, 3), (7, .aload_n 0, 1), (8, .getfield 33, 3), (11, .aload_n 0, 1), (12, .getfield 40, 3), (15, .iconst 1, 1), (16, .isub, 1), (17, .baload, 1), (18, .ifCond .eq 7, 3), (21, .iconst 1, 1), (22, .goto 4, 3), (25, .iconst 0, 1), (26, .ireturn, 1)]
theorem D_Ca_hasToken : decAll prog_5_method_9_code L_Ca_hasToken = true := by decide +kernel
theorem K_Ca_hasToken : MK M_Ca_hasToken 0 := ⟨tb_in (i := 620) (by decide +kernel) (by decide +kernel), tb_in (i := 5) (by decide +kernel) (by decide +kernel), by decide +kernel, by decide, by decide +kernel, by decide +kernel, by decide +kernel⟩
theorem I_Ca_hasToken : Cond.instanceMethod M_Ca_hasToken.1 ∈ tbG := tb_in (i := 618) (by decide +kernel) (by decide +kernel)
theorem V_Ca_hasToken : MV M_Ca_hasToken := ⟨I_Ca_hasToken, tb_in (i := 619) (by decide +kernel) (by decide +kernel)⟩
def y_Ca_isOutermost : MethodName := ⟨"RescanMill$Calls", "isOutermost", "()Z"⟩
abbrev M_Ca_isOutermost : mt_T := (y_Ca_isOutermost, prog_5_method_11_code, 1, (some (.boolean)))
def L_Ca_isOutermost : List (Nat × Instr × Nat) := [(0, .aload_n 0, 1), (1, .invokevirtual 62, 3), (4, .ifCond .eq 22, 3), (7, .aload_n 0, 1), (8, .getfield 30, 3), (11, .aload_n 0, 1), (12, .getfield 40, 3), (15, .iconst 1, 1), (16, .isub, 1), (17, .iaload, 1), (18, .iconst 1, 1), (19, .if_icmp .ne 7, 3), (22, .iconst 1, 1), (23, .goto 4, 3), (26, .iconst 0, 1), (27, .ireturn, 1)]
theorem D_Ca_isOutermost : decAll prog_5_method_11_code L_Ca_isOutermost = true := by decide +kernel
theorem K_Ca_isOutermost : MK M_Ca_isOutermost 0 := ⟨tb_in (i := 624) (by decide +kernel) (by decide +kernel), tb_in (i := 5) (by decide +kernel) (by decide +kernel), by decide +kernel, by decide, by decide +kernel, by decide +kernel, by decide +kernel⟩
theorem I_Ca_isOutermost : Cond.instanceMethod M_Ca_isOutermost.1 ∈ tbG := tb_in (i := 622) (by decide +kernel) (by decide +kernel)
theorem V_Ca_isOutermost : MV M_Ca_isOutermost := ⟨I_Ca_isOutermost, tb_in (i := 623) (by decide +kernel) (by decide +kernel)⟩
def y_Ca_nest : MethodName := ⟨"RescanMill$Calls", "nest", "(I)V"⟩
abbrev M_Ca_nest : mt_T := (y_Ca_nest, prog_5_method_10_code, 2, none)
def L_Ca_nest : List (Nat × Instr × Nat) := [(0, .aload_n 0, 1), (1, .invokevirtual 62, 3), (4, .ifCond .eq 41, 3), (7, .aload_n 0, 1), (8, .getfield 30, 3), (11, .aload_n 0, 1), (12, .getfield 40, 3), (15, .iconst 1, 1), (16, .isub, 1), (17, .dup2, 1), (18, .iaload, 1), (19, .iload_n 1, 1), (20, .iadd, 1), (21, .iastore, 1), (22, .aload_n 0, 1), (23, .aload_n 0, 1), (24, .getfield 30, 3), (27, .aload_n 0, 1), (28, .getfield 40, 3), (31, .iconst 1, 1), (32, .isub, 1), (33, .iaload, 1), (34, .ifCond .ne 7, 3), (37, .iconst 1, 1), (38, .goto 4, 3), (41, .iconst 0, 1), (42, .putfield 44, 3), (45, .return_, 1)]
theorem D_Ca_nest : decAll prog_5_method_10_code L_Ca_nest = true := by decide +kernel
theorem K_Ca_nest : MK M_Ca_nest 1 := ⟨tb_in (i := 628) (by decide +kernel) (by decide +kernel), tb_in (i := 5) (by decide +kernel) (by decide +kernel), by decide +kernel, by decide, by decide +kernel, by decide +kernel, by decide +kernel⟩
theorem I_Ca_nest : Cond.instanceMethod M_Ca_nest.1 ∈ tbG := tb_in (i := 626) (by decide +kernel) (by decide +kernel)
theorem V_Ca_nest : MV M_Ca_nest := ⟨I_Ca_nest, tb_in (i := 627) (by decide +kernel) (by decide +kernel)⟩
def y_Ca_hold : MethodName := ⟨"RescanMill$Calls", "hold", "(LRescanMill$Bytes;)Z"⟩
abbrev M_Ca_hold : mt_T := (y_Ca_hold, prog_5_method_7_code, 2, (some (.boolean)))
def L_Ca_hold : List (Nat × Instr × Nat) := [(0, .aload_n 0, 1), (1, .getfield 14, 3), (4, .aload_n 1, 1), (5, .getfield 51, 3), (8, .invokevirtual 54, 3), (11, .ifCond .ne 5, 3), (14, .iconst 0, 1), (15, .ireturn, 1), (16, .aload_n 0, 1), (17, .getfield 14, 3), (20, .aload_n 1, 1), (21, .iconst 0, 1), (22, .aload_n 1, 1), (23, .getfield 51, 3), (26, .invokevirtual 58, 3), (29, .iconst 1, 1), (30, .ireturn, 1)]
theorem D_Ca_hold : decAll prog_5_method_7_code L_Ca_hold = true := by decide +kernel
theorem K_Ca_hold : MK M_Ca_hold 1 := ⟨tb_in (i := 632) (by decide +kernel) (by decide +kernel), tb_in (i := 5) (by decide +kernel) (by decide +kernel), by decide +kernel, by decide, by decide +kernel, by decide +kernel, by decide +kernel⟩
theorem I_Ca_hold : Cond.instanceMethod M_Ca_hold.1 ∈ tbG := tb_in (i := 630) (by decide +kernel) (by decide +kernel)
theorem V_Ca_hold : MV M_Ca_hold := ⟨I_Ca_hold, tb_in (i := 631) (by decide +kernel) (by decide +kernel)⟩
def y_Ca_nameStart : MethodName := ⟨"RescanMill$Calls", "nameStart", "()I"⟩
abbrev M_Ca_nameStart : mt_T := (y_Ca_nameStart, prog_5_method_15_code, 1, (some (.int)))
def L_Ca_nameStart : List (Nat × Instr × Nat) := [(0, .aload_n 0, 1), (1, .invokevirtual 62, 3), (4, .ifCond .eq 17, 3), (7, .aload_n 0, 1), (8, .getfield 24, 3), (11, .aload_n 0, 1), (12, .getfield 40, 3), (15, .iconst 1, 1), (16, .isub, 1), (17, .iaload, 1), (18, .goto 4, 3), (21, .iconst 0, 1), (22, .ireturn, 1)]
theorem D_Ca_nameStart : decAll prog_5_method_15_code L_Ca_nameStart = true := by decide +kernel
theorem K_Ca_nameStart : MK M_Ca_nameStart 0 := ⟨tb_in (i := 645) (by decide +kernel) (by decide +kernel), tb_in (i := 5) (by decide +kernel) (by decide +kernel), by decide +kernel, by decide, by decide +kernel, by decide +kernel, by decide +kernel⟩
theorem I_Ca_nameStart : Cond.instanceMethod M_Ca_nameStart.1 ∈ tbG := tb_in (i := 643) (by decide +kernel) (by decide +kernel)
theorem V_Ca_nameStart : MV M_Ca_nameStart := ⟨I_Ca_nameStart, tb_in (i := 644) (by decide +kernel) (by decide +kernel)⟩
def y_Ca_nameLength : MethodName := ⟨"RescanMill$Calls", "nameLength", "()I"⟩
abbrev M_Ca_nameLength : mt_T := (y_Ca_nameLength, prog_5_method_16_code, 1, (some (.int)))
def L_Ca_nameLength : List (Nat × Instr × Nat) := [(0, .aload_n 0, 1), (1, .iconst 0, 1), (2, .invokevirtual 66, 3), (5, .aload_n 0, 1), (6, .invokevirtual 70, 3), (9, .isub, 1), (10, .ireturn, 1)]
theorem D_Ca_nameLength : decAll prog_5_method_16_code L_Ca_nameLength = true := by decide +kernel
theorem K_Ca_nameLength : MK M_Ca_nameLength 0 := ⟨tb_in (i := 649) (by decide +kernel) (by decide +kernel), tb_in (i := 5) (by decide +kernel) (by decide +kernel), by decide +kernel, by decide, by decide +kernel, by decide +kernel, by decide +kernel⟩
theorem I_Ca_nameLength : Cond.instanceMethod M_Ca_nameLength.1 ∈ tbG := tb_in (i := 647) (by decide +kernel) (by decide +kernel)
theorem V_Ca_nameLength : MV M_Ca_nameLength := ⟨I_Ca_nameLength, tb_in (i := 648) (by decide +kernel) (by decide +kernel)⟩
def y_Ca_start : MethodName := ⟨"RescanMill$Calls", "start", "(I)I"⟩
abbrev M_Ca_start : mt_T := (y_Ca_start, prog_5_method_13_code, 3, (some (.int)))
def L_Ca_start : List (Nat × Instr × Nat) := [(0, .iload_n 1, 1), (1, .ifCond .lt 20, 3), (4, .aload_n 0, 1), (5, .getfield 40, 3), (8, .iconst 1, 1), (9, .if_icmp .lt 12, 3), (12, .aload_n 0, 1), (13, .getfield 40, 3), (16, .bipush 50, 2), (18, .if_icmp .le 11, 3), (21, .aload_n 0, 1), (22, .getfield 14, 3), (25, .getfield 51, 3), (28, .ireturn, 1), (29, .aload_n 0, 1), (30, .getfield 27, 3), (33, .aload_n 0, 1), (34, .getfield 40, 3), (37, .iconst 1, 1), (38, .isub, 1), (39, .iaload, 1), (40, .iload_n 1, 1), (41, .iadd, 1), (42, .istore_n 2, 1), (43, .iload_n 2, 1), (44, .ifCond .lt 29, 3), (47, .iload_n 2, 1), (48, .aload_n 0, 1), (49, .getfield 48, 3), (52, .if_icmp .ge 21, 3), (55, .iload_n 2, 1), (56, .aload_n 0, 1), (57, .getfield 20, 3), (60, .arraylength, 1), (61, .if_icmp .ge 12, 3), (64, .aload_n 0, 1), (65, .getfield 20, 3), (68, .iload_n 2, 1), (69, .iaload, 1), (70, .goto 10, 3), (73, .aload_n 0, 1), (74, .getfield 14, 3), (77, .getfield 51, 3), (80, .ireturn, 1)]
theorem D_Ca_start : decAll prog_5_method_13_code L_Ca_start = true := by decide +kernel
theorem K_Ca_start : MK M_Ca_start 1 := ⟨tb_in (i := 653) (by decide +kernel) (by decide +kernel), tb_in (i := 5) (by decide +kernel) (by decide +kernel), by decide +kernel, by decide, by decide +kernel, by decide +kernel, by decide +kernel⟩
theorem I_Ca_start : Cond.instanceMethod M_Ca_start.1 ∈ tbG := tb_in (i := 651) (by decide +kernel) (by decide +kernel)
theorem V_Ca_start : MV M_Ca_start := ⟨I_Ca_start, tb_in (i := 652) (by decide +kernel) (by decide +kernel)⟩
def y_Ca_length : MethodName := ⟨"RescanMill$Calls", "length", "(I)I"⟩
abbrev M_Ca_length : mt_T := (y_Ca_length, prog_5_method_14_code, 2, (some (.int)))
def L_Ca_length : List (Nat × Instr × Nat) := [(0, .aload_n 0, 1), (1, .iload_n 1, 1), (2, .iconst 1, 1), (3, .iadd, 1), (4, .invokevirtual 66, 3), (7, .aload_n 0, 1), (8, .iload_n 1, 1), (9, .invokevirtual 66, 3), (12, .isub, 1), (13, .ireturn, 1)]
theorem D_Ca_length : decAll prog_5_method_14_code L_Ca_length = true := by decide +kernel
theorem K_Ca_length : MK M_Ca_length 1 := ⟨tb_in (i := 673) (by decide +kernel) (by decide +kernel), tb_in (i := 5) (by decide +kernel) (by decide +kernel), by decide +kernel, by decide, by decide +kernel, by decide +kernel, by decide +kernel⟩
theorem I_Ca_length : Cond.instanceMethod M_Ca_length.1 ∈ tbG := tb_in (i := 671) (by decide +kernel) (by decide +kernel)
theorem V_Ca_length : MV M_Ca_length := ⟨I_Ca_length, tb_in (i := 672) (by decide +kernel) (by decide +kernel)⟩
def y_Ca_arguments : MethodName := ⟨"RescanMill$Calls", "arguments", "()I"⟩
abbrev M_Ca_arguments : mt_T := (y_Ca_arguments, prog_5_method_12_code, 1, (some (.int)))
def L_Ca_arguments : List (Nat × Instr × Nat) := [(0, .aload_n 0, 1), (1, .invokevirtual 62, 3), (4, .ifCond .eq 22, 3), (7, .aload_n 0, 1), (8, .getfield 48, 3), (11, .aload_n 0, 1), (12, .getfield 27, 3), (15, .aload_n 0, 1), (16, .getfield 40, 3), (19, .iconst 1, 1), (20, .isub, 1), (21, .iaload, 1), (22, .isub, 1), (23, .goto 4, 3), (26, .iconst 0, 1), (27, .ireturn, 1)]
theorem D_Ca_arguments : decAll prog_5_method_12_code L_Ca_arguments = true := by decide +kernel
theorem K_Ca_arguments : MK M_Ca_arguments 0 := ⟨tb_in (i := 677) (by decide +kernel) (by decide +kernel), tb_in (i := 5) (by decide +kernel) (by decide +kernel), by decide +kernel, by decide, by decide +kernel, by decide +kernel, by decide +kernel⟩
theorem I_Ca_arguments : Cond.instanceMethod M_Ca_arguments.1 ∈ tbG := tb_in (i := 675) (by decide +kernel) (by decide +kernel)
theorem V_Ca_arguments : MV M_Ca_arguments := ⟨I_Ca_arguments, tb_in (i := 676) (by decide +kernel) (by decide +kernel)⟩
def y_By_addNumber : MethodName := ⟨"RescanMill$Bytes", "addNumber", "(I)V"⟩
abbrev M_By_addNumber : mt_T := (y_By_addNumber, prog_4_method_8_code, 7, none)
def L_By_addNumber : List (Nat × Instr × Nat) := [(0, .iload_n 1, 1), (1, .i2l, 1), (2, .lstore_n 2, 1), (3, .lload_n 2, 1), (4, .lconst 0, 1), (5, .lcmp, 1), (6, .ifCond .ge 12, 3), (9, .aload_n 0, 1), (10, .bipush 45, 2), (12, .invokevirtual 49, 3), (15, .lload_n 2, 1), (16, .lneg, 1), (17, .lstore_n 2, 1), (18, .lconst 1, 1), (19, .lstore 4, 2), (21, .iconst 0, 1), (22, .istore 6, 2), (24, .iload 6, 2), (26, .bipush 9, 2), (28, .if_icmp .ge 28, 3), (31, .lload 4, 2), (33, .ldc2_w 53, 3), (36, .lmul, 1), (37, .lload_n 2, 1), (38, .lcmp, 1), (39, .ifCond .gt 17, 3), (42, .lload 4, 2), (44, .ldc2_w 53, 3), (47, .lmul, 1), (48, .lstore 4, 2), (50, .iinc 6 1, 3), (53, .goto (-29), 3), (56, .lload 4, 2), (58, .lconst 0, 1), (59, .lcmp, 1), (60, .ifCond .le 30, 3), (63, .aload_n 0, 1), (64, .bipush 48, 2), (66, .lload_n 2, 1), (67, .lload 4, 2), (69, .ldiv, 1), (70, .ldc2_w 53, 3), (73, .lrem, 1), (74, .l2i, 1), (75, .iadd, 1), (76, .invokevirtual 49, 3), (79, .lload 4, 2), (81, .ldc2_w 53, 3), (84, .ldiv, 1), (85, .lstore 4, 2), (87, .goto (-31), 3), (90, .return_, 1)]
theorem D_By_addNumber : decAll prog_4_method_8_code L_By_addNumber = true := by decide +kernel
theorem K_By_addNumber : MK M_By_addNumber 1 := ⟨tb_in (i := 681) (by decide +kernel) (by decide +kernel), tb_in (i := 2) (by decide +kernel) (by decide +kernel), by decide +kernel, by decide, by decide +kernel, by decide +kernel, by decide +kernel⟩
theorem I_By_addNumber : Cond.instanceMethod M_By_addNumber.1 ∈ tbG := tb_in (i := 679) (by decide +kernel) (by decide +kernel)
theorem V_By_addNumber : MV M_By_addNumber := ⟨I_By_addNumber, tb_in (i := 680) (by decide +kernel) (by decide +kernel)⟩
def y_En_ordinal : MethodName := ⟨"java/lang/Enum", "ordinal", "()I"⟩
abbrev M_En_ordinal : mt_T := (y_En_ordinal, prog_16_method_2_code, 1, (some (.int)))
def L_En_ordinal : List (Nat × Instr × Nat) := [(0, .aload_n 0, 1), (1, .getfield 7, 3), (4, .ireturn, 1)]
theorem D_En_ordinal : decAll prog_16_method_2_code L_En_ordinal = true := by decide +kernel
theorem K_En_ordinal : MK M_En_ordinal 0 := ⟨tb_in (i := 698) (by decide +kernel) (by decide +kernel), tb_in (i := 19) (by decide +kernel) (by decide +kernel), by decide +kernel, by decide, by decide +kernel, by decide +kernel, by decide +kernel⟩
theorem I_En_ordinal : Cond.instanceMethod M_En_ordinal.1 ∈ tbG := tb_in (i := 697) (by decide +kernel) (by decide +kernel)
def y_Ce_release : MethodName := ⟨"RescanMill$Cells", "release", "(LRescanMill$Chain;)V"⟩
abbrev M_Ce_release : mt_T := (y_Ce_release, prog_6_method_9_code, 2, none)
def L_Ce_release : List (Nat × Instr × Nat) := [(0, .aload_n 0, 1), (1, .aload_n 1, 1), (2, .getfield 47, 3), (5, .invokevirtual 33, 3), (8, .ifCond .eq 37, 3), (11, .aload_n 0, 1), (12, .getfield 23, 3), (15, .aload_n 1, 1), (16, .getfield 47, 3), (19, .aload_n 0, 1), (20, .getfield 7, 3), (23, .iastore, 1), (24, .aload_n 0, 1), (25, .aload_n 1, 1), (26, .getfield 52, 3), (29, .putfield 7, 3), (32, .aload_n 0, 1), (33, .dup, 1), (34, .getfield 30, 3), (37, .aload_n 1, 1), (38, .getfield 55, 3), (41, .isub, 1), (42, .putfield 30, 3), (45, .aload_n 1, 1), (46, .invokevirtual 58, 3), (49, .return_, 1)]
theorem D_Ce_release : decAll prog_6_method_9_code L_Ce_release = true := by decide +kernel
theorem K_Ce_release : MK M_Ce_release 1 := ⟨tb_in (i := 718) (by decide +kernel) (by decide +kernel), tb_in (i := 7) (by decide +kernel) (by decide +kernel), by decide +kernel, by decide, by decide +kernel, by decide +kernel, by decide +kernel⟩
theorem I_Ce_release : Cond.instanceMethod M_Ce_release.1 ∈ tbG := tb_in (i := 716) (by decide +kernel) (by decide +kernel)
theorem V_Ce_release : MV M_Ce_release := ⟨I_Ce_release, tb_in (i := 717) (by decide +kernel) (by decide +kernel)⟩
def y_Op_isBetween : MethodName := ⟨"RescanMill$Operator", "isBetween", "()Z"⟩
abbrev M_Op_isBetween : mt_T := (y_Op_isBetween, prog_13_method_4_code, 1, (some (.boolean)))
def L_Op_isBetween : List (Nat × Instr × Nat) := [(0, .aload_n 0, 1), (1, .getfield 96, 3), (4, .iconst 1, 1), (5, .if_icmp .lt 16, 3), (8, .aload_n 0, 1), (9, .getfield 96, 3), (12, .bipush 11, 2), (14, .if_icmp .ge 7, 3), (17, .iconst 1, 1), (18, .goto 4, 3), (21, .iconst 0, 1), (22, .ireturn, 1)]
theorem D_Op_isBetween : decAll prog_13_method_4_code L_Op_isBetween = true := by decide +kernel
theorem K_Op_isBetween : MK M_Op_isBetween 0 := ⟨tb_in (i := 766) (by decide +kernel) (by decide +kernel), tb_in (i := 20) (by decide +kernel) (by decide +kernel), by decide +kernel, by decide, by decide +kernel, by decide +kernel, by decide +kernel⟩
theorem I_Op_isBetween : Cond.instanceMethod M_Op_isBetween.1 ∈ tbG := tb_in (i := 764) (by decide +kernel) (by decide +kernel)
theorem V_Op_isBetween : MV M_Op_isBetween := ⟨I_Op_isBetween, tb_in (i := 765) (by decide +kernel) (by decide +kernel)⟩
def y_In_dropLine : MethodName := ⟨"RescanMill$Input", "dropLine", "()I"⟩
abbrev M_In_dropLine : mt_T := (y_In_dropLine, prog_10_method_9_code, 3, (some (.int)))
def L_In_dropLine : List (Nat × Instr × Nat) := [(0, .iconst 0, 1), (1, .istore_n 1, 1), (2, .iload_n 1, 1), (3, .ldc 23, 2), (5, .if_icmp .ge 36, 3), (8, .aload_n 0, 1), (9, .invokevirtual 66, 3), (12, .ifCond .le 29, 3), (15, .aload_n 0, 1), (16, .invokevirtual 83, 3), (19, .istore_n 2, 1), (20, .iload_n 2, 1), (21, .ifCond .ge 6, 3), (24, .bipush 31, 2), (26, .ireturn, 1), (27, .iload_n 2, 1), (28, .bipush 10, 2), (30, .if_icmp .ne 5, 3), (33, .iconst 0, 1), (34, .ireturn, 1), (35, .iinc 1 1, 3), (38, .goto (-36), 3), (41, .iconst 0, 1), (42, .ireturn, 1)]
theorem D_In_dropLine : decAll prog_10_method_9_code L_In_dropLine = true := by decide +kernel
theorem K_In_dropLine : MK M_In_dropLine 0 := ⟨tb_in (i := 853) (by decide +kernel) (by decide +kernel), tb_in (i := 4) (by decide +kernel) (by decide +kernel), by decide +kernel, by decide, by decide +kernel, by decide +kernel, by decide +kernel⟩
theorem I_In_dropLine : Cond.instanceMethod M_In_dropLine.1 ∈ tbG := tb_in (i := 851) (by decide +kernel) (by decide +kernel)
theorem V_In_dropLine : MV M_In_dropLine := ⟨I_In_dropLine, tb_in (i := 852) (by decide +kernel) (by decide +kernel)⟩
def y_Ce_join : MethodName := ⟨"RescanMill$Cells", "join", "(LRescanMill$Chain;LRescanMill$Chain;)V"⟩
abbrev M_Ce_join : mt_T := (y_Ce_join, prog_6_method_8_code, 3, none)
def L_Ce_join : List (Nat × Instr × Nat) := [(0, .aload_n 2, 1), (1, .getfield 55, 3), (4, .ifCond .le 24, 3), (7, .aload_n 0, 1), (8, .aload_n 1, 1), (9, .aload_n 2, 1), (10, .getfield 52, 3), (13, .aload_n 2, 1), (14, .getfield 47, 3), (17, .aload_n 2, 1), (18, .getfield 55, 3), (21, .invokevirtual 43, 3), (24, .aload_n 2, 1), (25, .invokevirtual 58, 3), (28, .return_, 1)]
theorem D_Ce_join : decAll prog_6_method_8_code L_Ce_join = true := by decide +kernel
theorem K_Ce_join : MK M_Ce_join 2 := ⟨tb_in (i := 870) (by decide +kernel) (by decide +kernel), tb_in (i := 7) (by decide +kernel) (by decide +kernel), by decide +kernel, by decide, by decide +kernel, by decide +kernel, by decide +kernel⟩
theorem I_Ce_join : Cond.instanceMethod M_Ce_join.1 ∈ tbG := tb_in (i := 868) (by decide +kernel) (by decide +kernel)
theorem V_Ce_join : MV M_Ce_join := ⟨I_Ce_join, tb_in (i := 869) (by decide +kernel) (by decide +kernel)⟩
def y_Ca_end : MethodName := ⟨"RescanMill$Calls", "end", "()V"⟩
abbrev M_Ca_end : mt_T := (y_Ca_end, prog_5_method_6_code, 1, none)
def L_Ca_end : List (Nat × Instr × Nat) := [(0, .aload_n 0, 1), (1, .invokevirtual 62, 3), (4, .ifCond .eq 42, 3), (7, .aload_n 0, 1), (8, .dup, 1), (9, .getfield 40, 3), (12, .iconst 1, 1), (13, .isub, 1), (14, .putfield 40, 3), (17, .aload_n 0, 1), (18, .getfield 14, 3), (21, .aload_n 0, 1), (22, .getfield 24, 3), (25, .aload_n 0, 1), (26, .getfield 40, 3), (29, .iaload, 1), (30, .invokevirtual 37, 3), (33, .aload_n 0, 1), (34, .aload_n 0, 1), (35, .getfield 27, 3), (38, .aload_n 0, 1), (39, .getfield 40, 3), (42, .iaload, 1), (43, .putfield 48, 3), (46, .aload_n 0, 1), (47, .iconst 0, 1), (48, .putfield 44, 3), (51, .return_, 1)]
theorem D_Ca_end : decAll prog_5_method_6_code L_Ca_end = true := by decide +kernel
theorem K_Ca_end : MK M_Ca_end 0 := ⟨tb_in (i := 883) (by decide +kernel) (by decide +kernel), tb_in (i := 5) (by decide +kernel) (by decide +kernel), by decide +kernel, by decide, by decide +kernel, by decide +kernel, by decide +kernel⟩
theorem I_Ca_end : Cond.instanceMethod M_Ca_end.1 ∈ tbG := tb_in (i := 881) (by decide +kernel) (by decide +kernel)
theorem V_Ca_end : MV M_Ca_end := ⟨I_Ca_end, tb_in (i := 882) (by decide +kernel) (by decide +kernel)⟩
def y_In_putBack : MethodName := ⟨"RescanMill$Input", "putBack", "(LRescanMill$Bytes;)Z"⟩
abbrev M_In_putBack : mt_T := (y_In_putBack, prog_10_method_8_code, 2, (some (.boolean)))
def L_In_putBack : List (Nat × Instr × Nat) := [(0, .aload_n 1, 1), (1, .getfield 70, 3), (4, .ifCond .ne 28, 3), (7, .aload_n 1, 1), (8, .getfield 59, 3), (11, .ldc 23, 2), (13, .aload_n 0, 1), (14, .invokevirtual 66, 3), (17, .isub, 1), (18, .if_icmp .gt 14, 3), (21, .aload_n 1, 1), (22, .getfield 59, 3), (25, .aload_n 0, 1), (26, .getfield 34, 3), (29, .if_icmp .le 5, 3), (32, .iconst 0, 1), (33, .ireturn, 1), (34, .aload_n 0, 1), (35, .dup, 1), (36, .getfield 34, 3), (39, .aload_n 1, 1), (40, .getfield 59, 3), (43, .isub, 1), (44, .putfield 34, 3), (47, .aload_n 1, 1), (48, .getfield 74, 3), (51, .iconst 0, 1), (52, .aload_n 0, 1), (53, .getfield 30, 3), (56, .aload_n 0, 1), (57, .getfield 34, 3), (60, .aload_n 1, 1), (61, .getfield 59, 3), (64, .invokestatic 77, 3), (67, .iconst 1, 1), (68, .ireturn, 1)]
theorem D_In_putBack : decAll prog_10_method_8_code L_In_putBack = true := by decide +kernel
theorem K_In_putBack : MK M_In_putBack 1 := ⟨tb_in (i := 887) (by decide +kernel) (by decide +kernel), tb_in (i := 4) (by decide +kernel) (by decide +kernel), by decide +kernel, by decide, by decide +kernel, by decide +kernel, by decide +kernel⟩
theorem I_In_putBack : Cond.instanceMethod M_In_putBack.1 ∈ tbG := tb_in (i := 885) (by decide +kernel) (by decide +kernel)
theorem V_In_putBack : MV M_In_putBack := ⟨I_In_putBack, tb_in (i := 886) (by decide +kernel) (by decide +kernel)⟩
end
section
def y_Mi_init : MethodName := ⟨"RescanMill", "<init>", "()V"⟩
abbrev M_Mi_init : mt_T := (y_Mi_init, prog_1_method_1_code, 1, none)
def L_Mi_init : List (Nat × Instr × Nat) := [(0, .aload_n 0, 1), (1, .invokespecial 3, 3), (4, .aload_n 0, 1), (5, .new 9, 3), (8, .dup, 1), (9, .ldc 13, 2), (11, .invokespecial 14, 3), (14, .putfield 17, 3), (17, .aload_n 0, 1), (18, .new 9, 3), (21, .dup, 1), (22, .ldc 13, 2), (24, .invokespecial 14, 3), (27, .putfield 21, 3), (30, .aload_n 0, 1), (31, .new 9, 3), (34, .dup, 1), (35, .ldc 13, 2), (37, .invokespecial 14, 3), (40, .putfield 24, 3), (43, .aload_n 0, 1), (44, .new 27, 3), (47, .dup, 1), (48, .invokespecial 29, 3), (51, .putfield 30, 3), (54, .aload_n 0, 1), (55, .new 34, 3), (58, .dup, 1), (59, .invokespecial 36, 3), (62, .putfield 37, 3), (65, .aload_n 0, 1), (66, .new 41, 3), (69, .dup, 1), (70, .invokespecial 43, 3), (73, .putfield 44, 3), (76, .aload_n 0, 1), (77, .new 48, 3), (80, .dup, 1), (81, .invokespecial 50, 3), (84, .putfield 51, 3), (87, .aload_n 0, 1), (88, .new 55, 3), (91, .dup, 1), (92, .invokespecial 57, 3), (95, .putfield 58, 3), (98, .aload_n 0, 1), (99, .sipush 8192, 3), (102, .newarray .int, 2), (104, .putfield 62, 3), (107, .return_, 1)]
theorem D_Mi_init : decAll prog_1_method_1_code L_Mi_init = true := by decide +kernel
theorem K_Mi_init : MK M_Mi_init 0 := ⟨tb_in (i := 25) (by decide +kernel) (by decide +kernel), tb_in (i := 1) (by decide +kernel) (by decide +kernel), by decide +kernel, by decide, by decide +kernel, by decide +kernel, by decide +kernel⟩
theorem I_Mi_init : Cond.instanceMethod M_Mi_init.1 ∈ tbG := tb_in (i := 24) (by decide +kernel) (by decide +kernel)
def y_Ms_init : MethodName := ⟨"RescanMill$Meanings", "<init>", "()V"⟩
abbrev M_Ms_init : mt_T := (y_Ms_init, prog_12_method_1_code, 2, none)
def L_Ms_init : List (Nat × Instr × Nat) := [(0, .aload_n 0, 1), (1, .invokespecial 3, 3), (4, .aload_n 0, 1), (5, .new 9, 3), (8, .dup, 1), (9, .sipush 16512, 3), (12, .invokespecial 13, 3), (15, .putfield 16, 3), (18, .aload_n 0, 1), (19, .sipush 128, 3), (22, .anewarray 20, 3), (25, .putfield 22, 3), (28, .aload_n 0, 1), (29, .sipush 300, 3), (32, .getstatic 26, 3), (35, .arraylength, 1), (36, .iadd, 1), (37, .anewarray 20, 3), (40, .putfield 30, 3), (43, .iconst 0, 1), (44, .istore_n 1, 1), (45, .iload_n 1, 1), (46, .aload_n 0, 1), (47, .getfield 30, 3), (50, .arraylength, 1), (51, .if_icmp .ge 22, 3), (54, .aload_n 0, 1), (55, .getfield 30, 3), (58, .iload_n 1, 1), (59, .new 20, 3), (62, .dup, 1), (63, .invokespecial 33, 3), (66, .aastore, 1), (67, .iinc 1 1, 3), (70, .goto (-25), 3), (73, .return_, 1)]
theorem D_Ms_init : decAll prog_12_method_1_code L_Ms_init = true := by decide +kernel
theorem K_Ms_init : MK M_Ms_init 0 := ⟨tb_in (i := 156) (by decide +kernel) (by decide +kernel), tb_in (i := 6) (by decide +kernel) (by decide +kernel), by decide +kernel, by decide, by decide +kernel, by decide +kernel, by decide +kernel⟩
theorem I_Ms_init : Cond.instanceMethod M_Ms_init.1 ∈ tbG := tb_in (i := 155) (by decide +kernel) (by decide +kernel)
def y_Me_init : MethodName := ⟨"RescanMill$Meaning", "<init>", "()V"⟩
abbrev M_Me_init : mt_T := (y_Me_init, prog_11_method_1_code, 1, none)
def L_Me_init : List (Nat × Instr × Nat) := [(0, .aload_n 0, 1), (1, .invokespecial 1, 3), (4, .aload_n 0, 1), (5, .new 7, 3), (8, .dup, 1), (9, .invokespecial 9, 3), (12, .putfield 10, 3), (15, .aload_n 0, 1), (16, .new 7, 3), (19, .dup, 1), (20, .invokespecial 9, 3), (23, .putfield 16, 3), (26, .return_, 1)]
theorem D_Me_init : decAll prog_11_method_1_code L_Me_init = true := by decide +kernel
theorem K_Me_init : MK M_Me_init 0 := ⟨tb_in (i := 188) (by decide +kernel) (by decide +kernel), tb_in (i := 8) (by decide +kernel) (by decide +kernel), by decide +kernel, by decide, by decide +kernel, by decide +kernel, by decide +kernel⟩
theorem I_Me_init : Cond.instanceMethod M_Me_init.1 ∈ tbG := tb_in (i := 187) (by decide +kernel) (by decide +kernel)
def y_Di_init : MethodName := ⟨"RescanMill$Diversions", "<init>", "()V"⟩
abbrev M_Di_init : mt_T := (y_Di_init, prog_8_method_1_code, 2, none)
def L_Di_init : List (Nat × Instr × Nat) := [(0, .aload_n 0, 1), (1, .invokespecial 3, 3), (4, .aload_n 0, 1), (5, .new 9, 3), (8, .dup, 1), (9, .ldc 11, 2), (11, .invokespecial 12, 3), (14, .putfield 15, 3), (17, .aload_n 0, 1), (18, .bipush 10, 2), (20, .anewarray 21, 3), (23, .putfield 23, 3), (26, .iconst 0, 1), (27, .istore_n 1, 1), (28, .iload_n 1, 1), (29, .aload_n 0, 1), (30, .getfield 23, 3), (33, .arraylength, 1), (34, .if_icmp .ge 22, 3), (37, .aload_n 0, 1), (38, .getfield 23, 3), (41, .iload_n 1, 1), (42, .new 21, 3), (45, .dup, 1), (46, .invokespecial 27, 3), (49, .aastore, 1), (50, .iinc 1 1, 3), (53, .goto (-25), 3), (56, .return_, 1)]
theorem D_Di_init : decAll prog_8_method_1_code L_Di_init = true := by decide +kernel
theorem K_Di_init : MK M_Di_init 0 := ⟨tb_in (i := 261) (by decide +kernel) (by decide +kernel), tb_in (i := 10) (by decide +kernel) (by decide +kernel), by decide +kernel, by decide, by decide +kernel, by decide +kernel, by decide +kernel⟩
theorem I_Di_init : Cond.instanceMethod M_Di_init.1 ∈ tbG := tb_in (i := 260) (by decide +kernel) (by decide +kernel)
def y_Ex_init : MethodName := ⟨"RescanMill$Expression", "<init>", "()V"⟩
abbrev M_Ex_init : mt_T := (y_Ex_init, prog_9_method_1_code, 1, none)
def L_Ex_init : List (Nat × Instr × Nat) := [(0, .aload_n 0, 1), (1, .invokespecial 3, 3), (4, .aload_n 0, 1), (5, .new 9, 3), (8, .dup, 1), (9, .iconst 0, 1), (10, .invokespecial 11, 3), (13, .putfield 14, 3), (16, .aload_n 0, 1), (17, .sipush 342, 3), (20, .newarray .int, 2), (22, .putfield 20, 3), (25, .aload_n 0, 1), (26, .sipush 341, 3), (29, .anewarray 24, 3), (32, .putfield 26, 3), (35, .return_, 1)]
theorem D_Ex_init : decAll prog_9_method_1_code L_Ex_init = true := by decide +kernel
theorem K_Ex_init : MK M_Ex_init 0 := ⟨tb_in (i := 284) (by decide +kernel) (by decide +kernel), tb_in (i := 11) (by decide +kernel) (by decide +kernel), by decide +kernel, by decide, by decide +kernel, by decide +kernel, by decide +kernel⟩
theorem I_Ex_init : Cond.instanceMethod M_Ex_init.1 ∈ tbG := tb_in (i := 283) (by decide +kernel) (by decide +kernel)
def y_Mi_feed : MethodName := ⟨"RescanMill", "feed", "(JI)I"⟩
abbrev M_Mi_feed : mt_T := (y_Mi_feed, prog_1_method_2_code, 5, (some (.int)))
def L_Mi_feed : List (Nat × Instr × Nat) := [(0, .iload_n 3, 1), (1, .iconst 1, 1), (2, .if_icmp .lt 9, 3), (5, .iload_n 3, 1), (6, .bipush 8, 2), (8, .if_icmp .le 5, 3), (11, .iconst (-1), 1), (12, .ireturn, 1), (13, .iload_n 3, 1), (14, .ldc 13, 2), (16, .aload_n 0, 1), (17, .getfield 17, 3), (20, .getfield 66, 3), (23, .isub, 1), (24, .if_icmp .le 6, 3), (27, .bipush (-3), 2), (29, .ireturn, 1), (30, .iconst 0, 1), (31, .istore 4, 2), (33, .iload 4, 2), (35, .iload_n 3, 1), (36, .if_icmp .ge 28, 3), (39, .aload_n 0, 1), (40, .getfield 17, 3), (43, .lload_n 1, 1), (44, .bipush 8, 2), (46, .iload 4, 2), (48, .imul, 1), (49, .lushr, 1), (50, .l2i, 1), (51, .sipush 255, 3), (54, .iand, 1), (55, .invokevirtual 70, 3), (58, .iinc 4 1, 3), (61, .goto (-28), 3), (64, .aload_n 0, 1), (65, .getfield 17, 3), (68, .getfield 66, 3), (71, .ireturn, 1)]
theorem D_Mi_feed : decAll prog_1_method_2_code L_Mi_feed = true := by decide +kernel
theorem K_Mi_feed : MK M_Mi_feed 2 := ⟨tb_in (i := 355) (by decide +kernel) (by decide +kernel), tb_in (i := 1) (by decide +kernel) (by decide +kernel), by decide +kernel, by decide, by decide +kernel, by decide +kernel, by decide +kernel⟩
theorem I_Mi_feed : Cond.instanceMethod M_Mi_feed.1 ∈ tbG := tb_in (i := 353) (by decide +kernel) (by decide +kernel)
theorem V_Mi_feed : MV M_Mi_feed := ⟨I_Mi_feed, tb_in (i := 354) (by decide +kernel) (by decide +kernel)⟩
def y_Mi_again : MethodName := ⟨"RescanMill", "again", "(II)I"⟩
abbrev M_Mi_again : mt_T := (y_Mi_again, prog_1_method_3_code, 3, (some (.int)))
def L_Mi_again : List (Nat × Instr × Nat) := [(0, .iload_n 2, 1), (1, .iconst 1, 1), (2, .if_icmp .lt 31, 3), (5, .iload_n 1, 1), (6, .ifCond .lt 27, 3), (9, .iload_n 2, 1), (10, .aload_n 0, 1), (11, .getfield 17, 3), (14, .getfield 66, 3), (17, .if_icmp .gt 16, 3), (20, .iload_n 1, 1), (21, .aload_n 0, 1), (22, .getfield 17, 3), (25, .getfield 66, 3), (28, .iload_n 2, 1), (29, .isub, 1), (30, .if_icmp .le 5, 3), (33, .iconst (-1), 1), (34, .ireturn, 1), (35, .iload_n 2, 1), (36, .ldc 13, 2), (38, .aload_n 0, 1), (39, .getfield 17, 3), (42, .getfield 66, 3), (45, .isub, 1), (46, .if_icmp .le 6, 3), (49, .bipush (-3), 2), (51, .ireturn, 1), (52, .aload_n 0, 1), (53, .getfield 17, 3), (56, .aload_n 0, 1), (57, .getfield 17, 3), (60, .iload_n 1, 1), (61, .iload_n 2, 1), (62, .invokevirtual 73, 3), (65, .aload_n 0, 1), (66, .getfield 17, 3), (69, .getfield 66, 3), (72, .ireturn, 1)]
theorem D_Mi_again : decAll prog_1_method_3_code L_Mi_again = true := by decide +kernel
theorem K_Mi_again : MK M_Mi_again 2 := ⟨tb_in (i := 363) (by decide +kernel) (by decide +kernel), tb_in (i := 1) (by decide +kernel) (by decide +kernel), by decide +kernel, by decide, by decide +kernel, by decide +kernel, by decide +kernel⟩
theorem I_Mi_again : Cond.instanceMethod M_Mi_again.1 ∈ tbG := tb_in (i := 361) (by decide +kernel) (by decide +kernel)
theorem V_Mi_again : MV M_Mi_again := ⟨I_Mi_again, tb_in (i := 362) (by decide +kernel) (by decide +kernel)⟩
def y_Mi_clear : MethodName := ⟨"RescanMill", "clear", "()I"⟩
abbrev M_Mi_clear : mt_T := (y_Mi_clear, prog_1_method_4_code, 2, (some (.int)))
def L_Mi_clear : List (Nat × Instr × Nat) := [(0, .aload_n 0, 1), (1, .getfield 17, 3), (4, .getfield 66, 3), (7, .istore_n 1, 1), (8, .aload_n 0, 1), (9, .getfield 17, 3), (12, .iconst 0, 1), (13, .invokevirtual 77, 3), (16, .iload_n 1, 1), (17, .ireturn, 1)]
theorem D_Mi_clear : decAll prog_1_method_4_code L_Mi_clear = true := by decide +kernel
theorem K_Mi_clear : MK M_Mi_clear 0 := ⟨tb_in (i := 378) (by decide +kernel) (by decide +kernel), tb_in (i := 1) (by decide +kernel) (by decide +kernel), by decide +kernel, by decide, by decide +kernel, by decide +kernel, by decide +kernel⟩
theorem I_Mi_clear : Cond.instanceMethod M_Mi_clear.1 ∈ tbG := tb_in (i := 376) (by decide +kernel) (by decide +kernel)
theorem V_Mi_clear : MV M_Mi_clear := ⟨I_Mi_clear, tb_in (i := 377) (by decide +kernel) (by decide +kernel)⟩
def y_Mi_run : MethodName := ⟨"RescanMill", "run", "(I)I"⟩
abbrev M_Mi_run : mt_T := (y_Mi_run, prog_1_method_5_code, 4, (some (.int)))
def L_Mi_run : List (Nat × Instr × Nat) := [(0, .iload_n 1, 1), (1, .iconst 1, 1), (2, .if_icmp .lt 9, 3), (5, .iload_n 1, 1), (6, .ldc 80, 2), (8, .if_icmp .le 5, 3), (11, .iconst (-1), 1), (12, .ireturn, 1), (13, .aload_n 0, 1), (14, .iload_n 1, 1), (15, .invokevirtual 81, 3), (18, .aload_n 0, 1), (19, .getfield 30, 3), (22, .invokevirtual 84, 3), (25, .istore_n 2, 1), (26, .iconst 0, 1), (27, .istore_n 3, 1), (28, .iload_n 3, 1), (29, .ldc 80, 2), (31, .if_icmp .ge 59, 3), (34, .iload_n 2, 1), (35, .ifCond .ne 55, 3), (38, .aload_n 0, 1), (39, .getfield 30, 3), (42, .getfield 88, 3), (45, .ifCond .eq 45, 3), (48, .aload_n 0, 1), (49, .invokevirtual 91, 3), (52, .istore_n 2, 1), (53, .iload_n 2, 1), (54, .ifCond .ne 18, 3), (57, .aload_n 0, 1), (58, .getfield 37, 3), (61, .getfield 94, 3), (64, .ifCond .eq 8, 3), (67, .aload_n 0, 1), (68, .invokevirtual 98, 3), (71, .istore_n 2, 1), (72, .iload_n 2, 1), (73, .ifCond .ne 11, 3), (76, .aload_n 0, 1), (77, .getfield 30, 3), (80, .invokevirtual 84, 3), (83, .istore_n 2, 1), (84, .iinc 3 1, 3), (87, .goto (-59), 3), (90, .iload_n 2, 1), (91, .ifCond .ne 16, 3), (94, .aload_n 0, 1), (95, .getfield 37, 3), (98, .getfield 101, 3), (101, .ifCond .le 6, 3), (104, .bipush 33, 2), (106, .istore_n 2, 1), (107, .aload_n 0, 1), (108, .iload_n 2, 1), (109, .invokevirtual 104, 3), (112, .iload_n 2, 1), (113, .ireturn, 1)]
theorem D_Mi_run : decAll prog_1_method_5_code L_Mi_run = true := by decide +kernel
theorem K_Mi_run : MK M_Mi_run 1 := ⟨tb_in (i := 386) (by decide +kernel) (by decide +kernel), tb_in (i := 1) (by decide +kernel) (by decide +kernel), by decide +kernel, by decide, by decide +kernel, by decide +kernel, by decide +kernel⟩
theorem I_Mi_run : Cond.instanceMethod M_Mi_run.1 ∈ tbG := tb_in (i := 384) (by decide +kernel) (by decide +kernel)
theorem V_Mi_run : MV M_Mi_run := ⟨I_Mi_run, tb_in (i := 385) (by decide +kernel) (by decide +kernel)⟩
def y_Mi_beginAnew : MethodName := ⟨"RescanMill", "beginAnew", "(I)V"⟩
abbrev M_Mi_beginAnew : mt_T := (y_Mi_beginAnew, prog_1_method_9_code, 3, none)
def L_Mi_beginAnew : List (Nat × Instr × Nat) := [(0, .aload_n 0, 1), (1, .getfield 21, 3), (4, .iconst 0, 1), (5, .invokevirtual 77, 3), (8, .aload_n 0, 1), (9, .getfield 30, 3), (12, .aload_n 0, 1), (13, .getfield 17, 3), (16, .iload_n 1, 1), (17, .invokevirtual 123, 3), (20, .aload_n 0, 1), (21, .getfield 37, 3), (24, .invokevirtual 127, 3), (27, .aload_n 0, 1), (28, .getfield 51, 3), (31, .invokevirtual 130, 3), (34, .aload_n 0, 1), (35, .getfield 44, 3), (38, .invokevirtual 131, 3), (41, .iconst 0, 1), (42, .istore_n 2, 1), (43, .iload_n 2, 1), (44, .getstatic 132, 3), (47, .arraylength, 1), (48, .if_icmp .ge 48, 3), (51, .aload_n 0, 1), (52, .getfield 24, 3), (55, .iconst 0, 1), (56, .invokevirtual 77, 3), (59, .aload_n 0, 1), (60, .getfield 24, 3), (63, .getstatic 132, 3), (66, .iload_n 2, 1), (67, .aaload, 1), (68, .getfield 136, 3), (71, .invokevirtual 142, 3), (74, .aload_n 0, 1), (75, .getfield 44, 3), (78, .getstatic 132, 3), (81, .iload_n 2, 1), (82, .aaload, 1), (83, .aload_n 0, 1), (84, .getfield 24, 3), (87, .invokevirtual 146, 3), (90, .iinc 2 1, 3), (93, .goto (-50), 3), (96, .return_, 1)]
theorem D_Mi_beginAnew : decAll prog_1_method_9_code L_Mi_beginAnew = true := by decide +kernel
theorem K_Mi_beginAnew : MK M_Mi_beginAnew 1 := ⟨tb_in (i := 391) (by decide +kernel) (by decide +kernel), tb_in (i := 1) (by decide +kernel) (by decide +kernel), by decide +kernel, by decide, by decide +kernel, by decide +kernel, by decide +kernel⟩
theorem I_Mi_beginAnew : Cond.instanceMethod M_Mi_beginAnew.1 ∈ tbG := tb_in (i := 390) (by decide +kernel) (by decide +kernel)
theorem V_Mi_beginAnew : MV M_Mi_beginAnew := ⟨I_Mi_beginAnew, ts_in (i := 0) (by decide +kernel) (by decide +kernel)⟩
def y_Di_forget : MethodName := ⟨"RescanMill$Diversions", "forget", "()V"⟩
abbrev M_Di_forget : mt_T := (y_Di_forget, prog_8_method_2_code, 2, none)
def L_Di_forget : List (Nat × Instr × Nat) := [(0, .aload_n 0, 1), (1, .getfield 15, 3), (4, .invokevirtual 28, 3), (7, .iconst 0, 1), (8, .istore_n 1, 1), (9, .iload_n 1, 1), (10, .aload_n 0, 1), (11, .getfield 23, 3), (14, .arraylength, 1), (15, .if_icmp .ge 18, 3), (18, .aload_n 0, 1), (19, .getfield 23, 3), (22, .iload_n 1, 1), (23, .aaload, 1), (24, .invokevirtual 31, 3), (27, .iinc 1 1, 3), (30, .goto (-21), 3), (33, .aload_n 0, 1), (34, .iconst 0, 1), (35, .putfield 34, 3), (38, .return_, 1)]
theorem D_Di_forget : decAll prog_8_method_2_code L_Di_forget = true := by decide +kernel
theorem K_Di_forget : MK M_Di_forget 0 := ⟨tb_in (i := 410) (by decide +kernel) (by decide +kernel), tb_in (i := 10) (by decide +kernel) (by decide +kernel), by decide +kernel, by decide, by decide +kernel, by decide +kernel, by decide +kernel⟩
theorem I_Di_forget : Cond.instanceMethod M_Di_forget.1 ∈ tbG := tb_in (i := 408) (by decide +kernel) (by decide +kernel)
theorem V_Di_forget : MV M_Di_forget := ⟨I_Di_forget, tb_in (i := 409) (by decide +kernel) (by decide +kernel)⟩
def y_Ms_forget : MethodName := ⟨"RescanMill$Meanings", "forget", "()V"⟩
abbrev M_Ms_forget : mt_T := (y_Ms_forget, prog_12_method_2_code, 3, none)
def L_Ms_forget : List (Nat × Instr × Nat) := [(0, .aload_n 0, 1), (1, .getfield 16, 3), (4, .invokevirtual 34, 3), (7, .aload_n 0, 1), (8, .iconst 0, 1), (9, .putfield 37, 3), (12, .aload_n 0, 1), (13, .iconst 0, 1), (14, .putfield 41, 3), (17, .iconst 0, 1), (18, .istore_n 1, 1), (19, .iload_n 1, 1), (20, .aload_n 0, 1), (21, .getfield 22, 3), (24, .arraylength, 1), (25, .if_icmp .ge 16, 3), (28, .aload_n 0, 1), (29, .getfield 22, 3), (32, .iload_n 1, 1), (33, .aconst_null, 1), (34, .aastore, 1), (35, .iinc 1 1, 3), (38, .goto (-19), 3), (41, .aload_n 0, 1), (42, .aconst_null, 1), (43, .putfield 44, 3), (46, .iconst 0, 1), (47, .istore_n 1, 1), (48, .iload_n 1, 1), (49, .aload_n 0, 1), (50, .getfield 30, 3), (53, .arraylength, 1), (54, .if_icmp .ge 43, 3), (57, .aload_n 0, 1), (58, .getfield 30, 3), (61, .iload_n 1, 1), (62, .aaload, 1), (63, .astore_n 2, 1), (64, .aload_n 2, 1), (65, .getfield 48, 3), (68, .invokevirtual 52, 3), (71, .aload_n 2, 1), (72, .getfield 57, 3), (75, .invokevirtual 52, 3), (78, .aload_n 2, 1), (79, .aload_n 0, 1), (80, .getfield 44, 3), (83, .putfield 60, 3), (86, .aload_n 0, 1), (87, .aload_n 2, 1), (88, .putfield 44, 3), (91, .iinc 1 1, 3), (94, .goto (-46), 3), (97, .return_, 1)]
theorem D_Ms_forget : decAll prog_12_method_2_code L_Ms_forget = true := by decide +kernel
theorem K_Ms_forget : MK M_Ms_forget 0 := ⟨tb_in (i := 422) (by decide +kernel) (by decide +kernel), tb_in (i := 6) (by decide +kernel) (by decide +kernel), by decide +kernel, by decide, by decide +kernel, by decide +kernel, by decide +kernel⟩
theorem I_Ms_forget : Cond.instanceMethod M_Ms_forget.1 ∈ tbG := tb_in (i := 420) (by decide +kernel) (by decide +kernel)
theorem V_Ms_forget : MV M_Ms_forget := ⟨I_Ms_forget, tb_in (i := 421) (by decide +kernel) (by decide +kernel)⟩
def y_Ms_addBuiltIn : MethodName := ⟨"RescanMill$Meanings", "addBuiltIn", "(LRescanMill$BuiltIn;LRescanMill$Bytes;)V"⟩
abbrev M_Ms_addBuiltIn : mt_T := (y_Ms_addBuiltIn, prog_12_method_8_code, 4, none)
def L_Ms_addBuiltIn : List (Nat × Instr × Nat) := [(0, .aload_n 0, 1), (1, .aload_n 2, 1), (2, .iconst 0, 1), (3, .aload_n 2, 1), (4, .getfield 97, 3), (7, .invokevirtual 98, 3), (10, .astore_n 3, 1), (11, .aload_n 3, 1), (12, .ifnull 8, 3), (15, .aload_n 3, 1), (16, .aload_n 1, 1), (17, .putfield 102, 3), (20, .return_, 1)]
theorem D_Ms_addBuiltIn : decAll prog_12_method_8_code L_Ms_addBuiltIn = true := by decide +kernel
theorem K_Ms_addBuiltIn : MK M_Ms_addBuiltIn 2 := ⟨tb_in (i := 482) (by decide +kernel) (by decide +kernel), tb_in (i := 6) (by decide +kernel) (by decide +kernel), by decide +kernel, by decide, by decide +kernel, by decide +kernel, by decide +kernel⟩
theorem I_Ms_addBuiltIn : Cond.instanceMethod M_Ms_addBuiltIn.1 ∈ tbG := tb_in (i := 480) (by decide +kernel) (by decide +kernel)
theorem V_Ms_addBuiltIn : MV M_Ms_addBuiltIn := ⟨I_Ms_addBuiltIn, tb_in (i := 481) (by decide +kernel) (by decide +kernel)⟩
def y_Ms_addOnTop : MethodName := ⟨"RescanMill$Meanings", "addOnTop", "(LRescanMill$Bytes;II)LRescanMill$Meaning;"⟩
abbrev M_Ms_addOnTop : mt_T := (y_Ms_addOnTop, prog_12_method_7_code, 6, (some ((.object "RescanMill$Meaning"))))
def L_Ms_addOnTop : List (Nat × Instr × Nat) := [(0, .aload_n 0, 1), (1, .getfield 44, 3), (4, .astore 4, 2), (6, .aload 4, 2), (8, .ifnonnull 5, 3), (11, .aconst_null, 1), (12, .areturn, 1), (13, .aload_n 0, 1), (14, .aload 4, 2), (16, .getfield 60, 3), (19, .putfield 44, 3), (22, .aload 4, 2), (24, .aload_n 1, 1), (25, .iload_n 2, 1), (26, .iload_n 3, 1), (27, .invokestatic 69, 3), (30, .putfield 76, 3), (33, .aload_n 0, 1), (34, .getfield 16, 3), (37, .aload 4, 2), (39, .getfield 48, 3), (42, .aload_n 1, 1), (43, .iload_n 2, 1), (44, .iload_n 3, 1), (45, .invokevirtual 93, 3), (48, .pop, 1), (49, .aload 4, 2), (51, .getfield 76, 3), (54, .invokestatic 73, 3), (57, .istore 5, 2), (59, .aload 4, 2), (61, .aload_n 0, 1), (62, .getfield 22, 3), (65, .iload 5, 2), (67, .aaload, 1), (68, .putfield 60, 3), (71, .aload_n 0, 1), (72, .getfield 22, 3), (75, .iload 5, 2), (77, .aload 4, 2), (79, .aastore, 1), (80, .aload 4, 2), (82, .areturn, 1)]
theorem D_Ms_addOnTop : decAll prog_12_method_7_code L_Ms_addOnTop = true := by decide +kernel
theorem K_Ms_addOnTop : MK M_Ms_addOnTop 3 := ⟨tb_in (i := 486) (by decide +kernel) (by decide +kernel), tb_in (i := 6) (by decide +kernel) (by decide +kernel), by decide +kernel, by decide, by decide +kernel, by decide +kernel, by decide +kernel⟩
theorem I_Ms_addOnTop : Cond.instanceMethod M_Ms_addOnTop.1 ∈ tbG := tb_in (i := 485) (by decide +kernel) (by decide +kernel)
theorem V_Ms_addOnTop : MV M_Ms_addOnTop := ⟨I_Ms_addOnTop, ts_in (i := 1) (by decide +kernel) (by decide +kernel)⟩
def y_Ms_hashOf : MethodName := ⟨"RescanMill$Meanings", "hashOf", "(LRescanMill$Bytes;II)I"⟩
abbrev M_Ms_hashOf : mt_T := (y_Ms_hashOf, prog_12_method_3_code, 5, (some (.int)))
def L_Ms_hashOf : List (Nat × Instr × Nat) := [(0, .iconst 0, 1), (1, .istore_n 3, 1), (2, .iconst 0, 1), (3, .istore 4, 2), (5, .iload 4, 2), (7, .iload_n 2, 1), (8, .if_icmp .ge 23, 3), (11, .iload_n 3, 1), (12, .bipush 31, 2), (14, .imul, 1), (15, .aload_n 0, 1), (16, .iload_n 1, 1), (17, .iload 4, 2), (19, .iadd, 1), (20, .invokevirtual 63, 3), (23, .iadd, 1), (24, .istore_n 3, 1), (25, .iinc 4 1, 3), (28, .goto (-23), 3), (31, .iload_n 3, 1), (32, .ireturn, 1)]
theorem D_Ms_hashOf : decAll prog_12_method_3_code L_Ms_hashOf = true := by decide +kernel
theorem K_Ms_hashOf : MK M_Ms_hashOf 3 := ⟨tb_in (i := 489) (by decide +kernel) (by decide +kernel), tb_in (i := 6) (by decide +kernel) (by decide +kernel), by decide +kernel, by decide, by decide +kernel, by decide +kernel, by decide +kernel⟩
theorem S_Ms_hashOf : Cond.static M_Ms_hashOf.1 ∈ tbG := tb_in (i := 488) (by decide +kernel) (by decide +kernel)
def y_Ms_bucketOf : MethodName := ⟨"RescanMill$Meanings", "bucketOf", "(I)I"⟩
abbrev M_Ms_bucketOf : mt_T := (y_Ms_bucketOf, prog_12_method_4_code, 1, (some (.int)))
def L_Ms_bucketOf : List (Nat × Instr × Nat) := [(0, .iload_n 0, 1), (1, .bipush 127, 2), (3, .iand, 1), (4, .ireturn, 1)]
theorem D_Ms_bucketOf : decAll prog_12_method_4_code L_Ms_bucketOf = true := by decide +kernel
theorem K_Ms_bucketOf : MK M_Ms_bucketOf 1 := ⟨tb_in (i := 509) (by decide +kernel) (by decide +kernel), tb_in (i := 6) (by decide +kernel) (by decide +kernel), by decide +kernel, by decide, by decide +kernel, by decide +kernel, by decide +kernel⟩
theorem S_Ms_bucketOf : Cond.static M_Ms_bucketOf.1 ∈ tbG := tb_in (i := 508) (by decide +kernel) (by decide +kernel)
def y_Mi_isLetter : MethodName := ⟨"RescanMill", "isLetter", "(I)Z"⟩
abbrev M_Mi_isLetter : mt_T := (y_Mi_isLetter, prog_1_method_37_code, 1, (some (.boolean)))
def L_Mi_isLetter : List (Nat × Instr × Nat) := [(0, .iload_n 0, 1), (1, .bipush 65, 2), (3, .if_icmp .lt 9, 3), (6, .iload_n 0, 1), (7, .bipush 90, 2), (9, .if_icmp .le 21, 3), (12, .iload_n 0, 1), (13, .bipush 97, 2), (15, .if_icmp .lt 9, 3), (18, .iload_n 0, 1), (19, .bipush 122, 2), (21, .if_icmp .le 9, 3), (24, .iload_n 0, 1), (25, .bipush 95, 2), (27, .if_icmp .ne 7, 3), (30, .iconst 1, 1), (31, .goto 4, 3), (34, .iconst 0, 1), (35, .ireturn, 1)]
theorem D_Mi_isLetter : decAll prog_1_method_37_code L_Mi_isLetter = true := by decide +kernel
theorem K_Mi_isLetter : MK M_Mi_isLetter 1 := ⟨tb_in (i := 549) (by decide +kernel) (by decide +kernel), tb_in (i := 1) (by decide +kernel) (by decide +kernel), by decide +kernel, by decide, by decide +kernel, by decide +kernel, by decide +kernel⟩
theorem S_Mi_isLetter : Cond.static M_Mi_isLetter.1 ∈ tbG := tb_in (i := 548) (by decide +kernel) (by decide +kernel)
def y_Mi_isNamePart : MethodName := ⟨"RescanMill", "isNamePart", "(I)Z"⟩
abbrev M_Mi_isNamePart : mt_T := (y_Mi_isNamePart, prog_1_method_39_code, 1, (some (.boolean)))
def L_Mi_isNamePart : List (Nat × Instr × Nat) := [(0, .iload_n 0, 1), (1, .invokestatic 349, 3), (4, .ifCond .ne 10, 3), (7, .iload_n 0, 1), (8, .invokestatic 267, 3), (11, .ifCond .eq 7, 3), (14, .iconst 1, 1), (15, .goto 4, 3), (18, .iconst 0, 1), (19, .ireturn, 1)]
theorem D_Mi_isNamePart : decAll prog_1_method_39_code L_Mi_isNamePart = true := by decide +kernel
theorem K_Mi_isNamePart : MK M_Mi_isNamePart 1 := ⟨tb_in (i := 556) (by decide +kernel) (by decide +kernel), tb_in (i := 1) (by decide +kernel) (by decide +kernel), by decide +kernel, by decide, by decide +kernel, by decide +kernel, by decide +kernel⟩
theorem S_Mi_isNamePart : Cond.static M_Mi_isNamePart.1 ∈ tbG := tb_in (i := 555) (by decide +kernel) (by decide +kernel)
def y_Mi_isDigit : MethodName := ⟨"RescanMill", "isDigit", "(I)Z"⟩
abbrev M_Mi_isDigit : mt_T := (y_Mi_isDigit, prog_1_method_38_code, 1, (some (.boolean)))
def L_Mi_isDigit : List (Nat × Instr × Nat) := [(0, .iload_n 0, 1), (1, .bipush 48, 2), (3, .if_icmp .lt 13, 3), (6, .iload_n 0, 1), (7, .bipush 57, 2), (9, .if_icmp .gt 7, 3), (12, .iconst 1, 1), (13, .goto 4, 3), (16, .iconst 0, 1), (17, .ireturn, 1)]
theorem D_Mi_isDigit : decAll prog_1_method_38_code L_Mi_isDigit = true := by decide +kernel
theorem K_Mi_isDigit : MK M_Mi_isDigit 1 := ⟨tb_in (i := 560) (by decide +kernel) (by decide +kernel), tb_in (i := 1) (by decide +kernel) (by decide +kernel), by decide +kernel, by decide, by decide +kernel, by decide +kernel, by decide +kernel⟩
theorem S_Mi_isDigit : Cond.static M_Mi_isDigit.1 ∈ tbG := tb_in (i := 559) (by decide +kernel) (by decide +kernel)
def y_Mi_useToken : MethodName := ⟨"RescanMill", "useToken", "()I"⟩
abbrev M_Mi_useToken : mt_T := (y_Mi_useToken, prog_1_method_11_code, 1, (some (.int)))
def L_Mi_useToken : List (Nat × Instr × Nat) := [(0, .aload_n 0, 1), (1, .getfield 30, 3), (4, .getfield 88, 3), (7, .iconst 3, 1), (8, .if_icmp .ne 15, 3), (11, .aload_n 0, 1), (12, .invokevirtual 160, 3), (15, .ifCond .eq 8, 3), (18, .aload_n 0, 1), (19, .invokevirtual 164, 3), (22, .ireturn, 1), (23, .aload_n 0, 1), (24, .getfield 37, 3), (27, .getfield 101, 3), (30, .ifCond .le 8, 3), (33, .aload_n 0, 1), (34, .invokevirtual 167, 3), (37, .ireturn, 1), (38, .aload_n 0, 1), (39, .getfield 51, 3), (42, .aload_n 0, 1), (43, .getfield 30, 3), (46, .getfield 170, 3), (49, .invokevirtual 173, 3), (52, .ifCond .eq 7, 3), (55, .iconst 0, 1), (56, .goto 5, 3), (59, .bipush 40, 2), (61, .ireturn, 1)]
theorem D_Mi_useToken : decAll prog_1_method_11_code L_Mi_useToken = true := by decide +kernel
theorem K_Mi_useToken : MK M_Mi_useToken 0 := ⟨tb_in (i := 564) (by decide +kernel) (by decide +kernel), tb_in (i := 1) (by decide +kernel) (by decide +kernel), by decide +kernel, by decide, by decide +kernel, by decide +kernel, by decide +kernel⟩
theorem I_Mi_useToken : Cond.instanceMethod M_Mi_useToken.1 ∈ tbG := tb_in (i := 563) (by decide +kernel) (by decide +kernel)
theorem V_Mi_useToken : MV M_Mi_useToken := ⟨I_Mi_useToken, ts_in (i := 9) (by decide +kernel) (by decide +kernel)⟩
def y_Mi_isCalled : MethodName := ⟨"RescanMill", "isCalled", "()Z"⟩
abbrev M_Mi_isCalled : mt_T := (y_Mi_isCalled, prog_1_method_12_code, 2, (some (.boolean)))
def L_Mi_isCalled : List (Nat × Instr × Nat) := [(0, .aload_n 0, 1), (1, .getfield 44, 3), (4, .aload_n 0, 1), (5, .getfield 30, 3), (8, .getfield 170, 3), (11, .iconst 0, 1), (12, .aload_n 0, 1), (13, .getfield 30, 3), (16, .getfield 170, 3), (19, .getfield 66, 3), (22, .invokevirtual 176, 3), (25, .astore_n 1, 1), (26, .aload_n 1, 1), (27, .ifnonnull 5, 3), (30, .iconst 0, 1), (31, .ireturn, 1), (32, .aload_n 1, 1), (33, .getfield 180, 3), (36, .ifnull 26, 3), (39, .aload_n 1, 1), (40, .getfield 180, 3), (43, .getfield 186, 3), (46, .ifCond .eq 16, 3), (49, .aload_n 0, 1), (50, .getfield 30, 3), (53, .iconst 0, 1), (54, .invokevirtual 189, 3), (57, .bipush 40, 2), (59, .if_icmp .ne 7, 3), (62, .iconst 1, 1), (63, .goto 4, 3), (66, .iconst 0, 1), (67, .ireturn, 1)]
theorem D_Mi_isCalled : decAll prog_1_method_12_code L_Mi_isCalled = true := by decide +kernel
theorem K_Mi_isCalled : MK M_Mi_isCalled 0 := ⟨tb_in (i := 568) (by decide +kernel) (by decide +kernel), tb_in (i := 1) (by decide +kernel) (by decide +kernel), by decide +kernel, by decide, by decide +kernel, by decide +kernel, by decide +kernel⟩
theorem I_Mi_isCalled : Cond.instanceMethod M_Mi_isCalled.1 ∈ tbG := tb_in (i := 567) (by decide +kernel) (by decide +kernel)
theorem V_Mi_isCalled : MV M_Mi_isCalled := ⟨I_Mi_isCalled, ts_in (i := 10) (by decide +kernel) (by decide +kernel)⟩
def y_Ms_find : MethodName := ⟨"RescanMill$Meanings", "find", "(LRescanMill$Bytes;II)LRescanMill$Meaning;"⟩
abbrev M_Ms_find : mt_T := (y_Ms_find, prog_12_method_5_code, 6, (some ((.object "RescanMill$Meaning"))))
def L_Ms_find : List (Nat × Instr × Nat) := [(0, .aload_n 1, 1), (1, .iload_n 2, 1), (2, .iload_n 3, 1), (3, .invokestatic 69, 3), (6, .istore 4, 2), (8, .aload_n 0, 1), (9, .getfield 22, 3), (12, .iload 4, 2), (14, .invokestatic 73, 3), (17, .aaload, 1), (18, .astore 5, 2), (20, .aload 5, 2), (22, .ifnull 38, 3), (25, .aload 5, 2), (27, .getfield 76, 3), (30, .iload 4, 2), (32, .if_icmp .ne 18, 3), (35, .aload_n 0, 1), (36, .aload 5, 2), (38, .aload_n 1, 1), (39, .iload_n 2, 1), (40, .iload_n 3, 1), (41, .invokevirtual 79, 3), (44, .ifCond .eq 6, 3), (47, .aload 5, 2), (49, .areturn, 1), (50, .aload 5, 2), (52, .getfield 60, 3), (55, .astore 5, 2), (57, .goto (-37), 3), (60, .aconst_null, 1), (61, .areturn, 1)]
theorem D_Ms_find : decAll prog_12_method_5_code L_Ms_find = true := by decide +kernel
theorem K_Ms_find : MK M_Ms_find 3 := ⟨tb_in (i := 572) (by decide +kernel) (by decide +kernel), tb_in (i := 6) (by decide +kernel) (by decide +kernel), by decide +kernel, by decide, by decide +kernel, by decide +kernel, by decide +kernel⟩
theorem I_Ms_find : Cond.instanceMethod M_Ms_find.1 ∈ tbG := tb_in (i := 570) (by decide +kernel) (by decide +kernel)
theorem V_Ms_find : MV M_Ms_find := ⟨I_Ms_find, tb_in (i := 571) (by decide +kernel) (by decide +kernel)⟩
def y_Ms_isNamed : MethodName := ⟨"RescanMill$Meanings", "isNamed", "(LRescanMill$Meaning;LRescanMill$Bytes;II)Z"⟩
abbrev M_Ms_isNamed : mt_T := (y_Ms_isNamed, prog_12_method_6_code, 7, (some (.boolean)))
def L_Ms_isNamed : List (Nat × Instr × Nat) := [(0, .aload_n 1, 1), (1, .getfield 48, 3), (4, .getfield 83, 3), (7, .iload 4, 2), (9, .if_icmp .eq 5, 3), (12, .iconst 0, 1), (13, .ireturn, 1), (14, .aload_n 1, 1), (15, .getfield 48, 3), (18, .getfield 86, 3), (21, .istore 5, 2), (23, .iconst 0, 1), (24, .istore 6, 2), (26, .iload 6, 2), (28, .iload 4, 2), (30, .if_icmp .ge 42, 3), (33, .aload_n 0, 1), (34, .getfield 16, 3), (37, .iload 5, 2), (39, .invokevirtual 89, 3), (42, .aload_n 2, 1), (43, .iload_n 3, 1), (44, .iload 6, 2), (46, .iadd, 1), (47, .invokevirtual 63, 3), (50, .if_icmp .eq 5, 3), (53, .iconst 0, 1), (54, .ireturn, 1), (55, .aload_n 0, 1), (56, .getfield 16, 3), (59, .iload 5, 2), (61, .invokevirtual 90, 3), (64, .istore 5, 2), (66, .iinc 6 1, 3), (69, .goto (-43), 3), (72, .iconst 1, 1), (73, .ireturn, 1)]
theorem D_Ms_isNamed : decAll prog_12_method_6_code L_Ms_isNamed = true := by decide +kernel
theorem K_Ms_isNamed : MK M_Ms_isNamed 4 := ⟨tb_in (i := 576) (by decide +kernel) (by decide +kernel), tb_in (i := 6) (by decide +kernel) (by decide +kernel), by decide +kernel, by decide, by decide +kernel, by decide +kernel, by decide +kernel⟩
theorem I_Ms_isNamed : Cond.instanceMethod M_Ms_isNamed.1 ∈ tbG := tb_in (i := 575) (by decide +kernel) (by decide +kernel)
theorem V_Ms_isNamed : MV M_Ms_isNamed := ⟨I_Ms_isNamed, ts_in (i := 11) (by decide +kernel) (by decide +kernel)⟩
def y_Mi_openCall : MethodName := ⟨"RescanMill", "openCall", "()I"⟩
abbrev M_Mi_openCall : mt_T := (y_Mi_openCall, prog_1_method_13_code, 1, (some (.int)))
def L_Mi_openCall : List (Nat × Instr × Nat) := [(0, .aload_n 0, 1), (1, .getfield 37, 3), (4, .invokevirtual 192, 3), (7, .aload_n 0, 1), (8, .getfield 37, 3), (11, .getfield 101, 3), (14, .bipush 50, 2), (16, .if_icmp .lt 6, 3), (19, .bipush 34, 2), (21, .ireturn, 1), (22, .aload_n 0, 1), (23, .getfield 37, 3), (26, .aload_n 0, 1), (27, .getfield 30, 3), (30, .getfield 170, 3), (33, .invokevirtual 195, 3), (36, .ifCond .ne 6, 3), (39, .bipush 40, 2), (41, .ireturn, 1), (42, .aload_n 0, 1), (43, .getfield 30, 3), (46, .iconst 0, 1), (47, .invokevirtual 189, 3), (50, .bipush 40, 2), (52, .if_icmp .eq 13, 3), (55, .aload_n 0, 1), (56, .getfield 37, 3), (59, .iconst 1, 1), (60, .putfield 94, 3), (63, .iconst 0, 1), (64, .ireturn, 1), (65, .aload_n 0, 1), (66, .getfield 30, 3), (69, .invokevirtual 197, 3), (72, .ifCond .ge 6, 3), (75, .bipush 31, 2), (77, .ireturn, 1), (78, .aload_n 0, 1), (79, .getfield 37, 3), (82, .invokevirtual 200, 3), (85, .ifCond .eq 7, 3), (88, .iconst 0, 1), (89, .goto 5, 3), (92, .bipush 40, 2), (94, .ireturn, 1)]
theorem D_Mi_openCall : decAll prog_1_method_13_code L_Mi_openCall = true := by decide +kernel
theorem K_Mi_openCall : MK M_Mi_openCall 0 := ⟨tb_in (i := 589) (by decide +kernel) (by decide +kernel), tb_in (i := 1) (by decide +kernel) (by decide +kernel), by decide +kernel, by decide, by decide +kernel, by decide +kernel, by decide +kernel⟩
theorem I_Mi_openCall : Cond.instanceMethod M_Mi_openCall.1 ∈ tbG := tb_in (i := 588) (by decide +kernel) (by decide +kernel)
theorem V_Mi_openCall : MV M_Mi_openCall := ⟨I_Mi_openCall, ts_in (i := 12) (by decide +kernel) (by decide +kernel)⟩
def y_Mi_useInArgument : MethodName := ⟨"RescanMill", "useInArgument", "()I"⟩
abbrev M_Mi_useInArgument : mt_T := (y_Mi_useInArgument, prog_1_method_14_code, 2, (some (.int)))
def L_Mi_useInArgument : List (Nat × Instr × Nat) := [(0, .aload_n 0, 1), (1, .getfield 30, 3), (4, .getfield 88, 3), (7, .iconst 4, 1), (8, .if_icmp .ne 110, 3), (11, .aload_n 0, 1), (12, .getfield 30, 3), (15, .getfield 170, 3), (18, .iconst 0, 1), (19, .invokevirtual 119, 3), (22, .istore_n 1, 1), (23, .iload_n 1, 1), (24, .invokestatic 203, 3), (27, .ifCond .eq 15, 3), (30, .aload_n 0, 1), (31, .getfield 37, 3), (34, .invokevirtual 207, 3), (37, .ifCond .ne 5, 3), (40, .iconst 0, 1), (41, .ireturn, 1), (42, .iload_n 1, 1), (43, .bipush 44, 2), (45, .if_icmp .ne 30, 3), (48, .aload_n 0, 1), (49, .getfield 37, 3), (52, .invokevirtual 210, 3), (55, .ifCond .eq 20, 3), (58, .aload_n 0, 1), (59, .getfield 37, 3), (62, .invokevirtual 200, 3), (65, .ifCond .eq 7, 3), (68, .iconst 0, 1), (69, .goto 5, 3), (72, .bipush 40, 2), (74, .ireturn, 1), (75, .iload_n 1, 1), (76, .bipush 40, 2), (78, .if_icmp .ne 14, 3), (81, .aload_n 0, 1), (82, .getfield 37, 3), (85, .iconst 1, 1), (86, .invokevirtual 213, 3), (89, .goto 29, 3), (92, .iload_n 1, 1), (93, .bipush 41, 2), (95, .if_icmp .ne 23, 3), (98, .aload_n 0, 1), (99, .getfield 37, 3), (102, .iconst (-1), 1), (103, .invokevirtual 213, 3), (106, .aload_n 0, 1), (107, .getfield 37, 3), (110, .getfield 94, 3), (113, .ifCond .eq 5, 3), (116, .iconst 0, 1), (117, .ireturn, 1), (118, .aload_n 0, 1), (119, .getfield 37, 3), (122, .invokevirtual 192, 3), (125, .aload_n 0, 1), (126, .getfield 37, 3), (129, .aload_n 0, 1), (130, .getfield 30, 3), (133, .getfield 170, 3), (136, .invokevirtual 216, 3), (139, .ifCond .eq 7, 3), (142, .iconst 0, 1), (143, .goto 5, 3), (146, .bipush 40, 2), (148, .ireturn, 1)]
theorem D_Mi_useInArgument : decAll prog_1_method_14_code L_Mi_useInArgument = true := by decide +kernel
theorem K_Mi_useInArgument : MK M_Mi_useInArgument 0 := ⟨tb_in (i := 612) (by decide +kernel) (by decide +kernel), tb_in (i := 1) (by decide +kernel) (by decide +kernel), by decide +kernel, by decide, by decide +kernel, by decide +kernel, by decide +kernel⟩
theorem I_Mi_useInArgument : Cond.instanceMethod M_Mi_useInArgument.1 ∈ tbG := tb_in (i := 611) (by decide +kernel) (by decide +kernel)
theorem V_Mi_useInArgument : MV M_Mi_useInArgument := ⟨I_Mi_useInArgument, ts_in (i := 14) (by decide +kernel) (by decide +kernel)⟩
def y_Mi_isSpace : MethodName := ⟨"RescanMill", "isSpace", "(I)Z"⟩
abbrev M_Mi_isSpace : mt_T := (y_Mi_isSpace, prog_1_method_40_code, 1, (some (.boolean)))
def L_Mi_isSpace : List (Nat × Instr × Nat) := [(0, .iload_n 0, 1), (1, .bipush 32, 2), (3, .if_icmp .eq 15, 3), (6, .iload_n 0, 1), (7, .bipush 9, 2), (9, .if_icmp .lt 13, 3), (12, .iload_n 0, 1), (13, .bipush 13, 2), (15, .if_icmp .gt 7, 3), (18, .iconst 1, 1), (19, .goto 4, 3), (22, .iconst 0, 1), (23, .ireturn, 1)]
theorem D_Mi_isSpace : decAll prog_1_method_40_code L_Mi_isSpace = true := by decide +kernel
theorem K_Mi_isSpace : MK M_Mi_isSpace 1 := ⟨tb_in (i := 616) (by decide +kernel) (by decide +kernel), tb_in (i := 1) (by decide +kernel) (by decide +kernel), by decide +kernel, by decide, by decide +kernel, by decide +kernel, by decide +kernel⟩
theorem S_Mi_isSpace : Cond.static M_Mi_isSpace.1 ∈ tbG := tb_in (i := 615) (by decide +kernel) (by decide +kernel)
def y_Di_add : MethodName := ⟨"RescanMill$Diversions", "add", "(LRescanMill$Bytes;)Z"⟩
abbrev M_Di_add : mt_T := (y_Di_add, prog_8_method_3_code, 2, (some (.boolean)))
def L_Di_add : List (Nat × Instr × Nat) := [(0, .aload_n 0, 1), (1, .getfield 34, 3), (4, .ifCond .lt 15, 3), (7, .aload_n 0, 1), (8, .getfield 34, 3), (11, .aload_n 0, 1), (12, .getfield 23, 3), (15, .arraylength, 1), (16, .if_icmp .lt 5, 3), (19, .iconst 1, 1), (20, .ireturn, 1), (21, .aload_n 0, 1), (22, .getfield 15, 3), (25, .aload_n 0, 1), (26, .getfield 23, 3), (29, .aload_n 0, 1), (30, .getfield 34, 3), (33, .aaload, 1), (34, .aload_n 1, 1), (35, .iconst 0, 1), (36, .aload_n 1, 1), (37, .getfield 38, 3), (40, .invokevirtual 43, 3), (43, .ireturn, 1)]
theorem D_Di_add : decAll prog_8_method_3_code L_Di_add = true := by decide +kernel
theorem K_Di_add : MK M_Di_add 1 := ⟨tb_in (i := 636) (by decide +kernel) (by decide +kernel), tb_in (i := 10) (by decide +kernel) (by decide +kernel), by decide +kernel, by decide, by decide +kernel, by decide +kernel, by decide +kernel⟩
theorem I_Di_add : Cond.instanceMethod M_Di_add.1 ∈ tbG := tb_in (i := 634) (by decide +kernel) (by decide +kernel)
theorem V_Di_add : MV M_Di_add := ⟨I_Di_add, tb_in (i := 635) (by decide +kernel) (by decide +kernel)⟩
def y_Mi_finishCall : MethodName := ⟨"RescanMill", "finishCall", "()I"⟩
abbrev M_Mi_finishCall : mt_T := (y_Mi_finishCall, prog_1_method_15_code, 3, (some (.int)))
def L_Mi_finishCall : List (Nat × Instr × Nat) := [(0, .aload_n 0, 1), (1, .getfield 24, 3), (4, .iconst 0, 1), (5, .invokevirtual 77, 3), (8, .iconst 0, 1), (9, .istore_n 1, 1), (10, .aload_n 0, 1), (11, .getfield 44, 3), (14, .aload_n 0, 1), (15, .getfield 37, 3), (18, .getfield 219, 3), (21, .aload_n 0, 1), (22, .getfield 37, 3), (25, .invokevirtual 222, 3), (28, .aload_n 0, 1), (29, .getfield 37, 3), (32, .invokevirtual 225, 3), (35, .invokevirtual 176, 3), (38, .astore_n 2, 1), (39, .aload_n 2, 1), (40, .ifnull 30, 3), (43, .aload_n 2, 1), (44, .getfield 180, 3), (47, .ifnonnull 14, 3), (50, .aload_n 0, 1), (51, .aload_n 2, 1), (52, .getfield 228, 3), (55, .invokevirtual 231, 3), (58, .goto 12, 3), (61, .aload_n 0, 1), (62, .aload_n 2, 1), (63, .getfield 180, 3), (66, .invokevirtual 235, 3), (69, .istore_n 1, 1), (70, .aload_n 0, 1), (71, .getfield 37, 3), (74, .invokevirtual 239, 3), (77, .iload_n 1, 1), (78, .ifCond .eq 5, 3), (81, .iload_n 1, 1), (82, .ireturn, 1), (83, .aload_n 0, 1), (84, .getfield 30, 3), (87, .aload_n 0, 1), (88, .getfield 24, 3), (91, .invokevirtual 242, 3), (94, .ifCond .eq 7, 3), (97, .iconst 0, 1), (98, .goto 5, 3), (101, .bipush 40, 2), (103, .ireturn, 1)]
theorem D_Mi_finishCall : decAll prog_1_method_15_code L_Mi_finishCall = true := by decide +kernel
theorem K_Mi_finishCall : MK M_Mi_finishCall 0 := ⟨tb_in (i := 641) (by decide +kernel) (by decide +kernel), tb_in (i := 1) (by decide +kernel) (by decide +kernel), by decide +kernel, by decide, by decide +kernel, by decide +kernel, by decide +kernel⟩
theorem I_Mi_finishCall : Cond.instanceMethod M_Mi_finishCall.1 ∈ tbG := tb_in (i := 640) (by decide +kernel) (by decide +kernel)
theorem V_Mi_finishCall : MV M_Mi_finishCall := ⟨I_Mi_finishCall, ts_in (i := 15) (by decide +kernel) (by decide +kernel)⟩
def y_Mi_expand : MethodName := ⟨"RescanMill", "expand", "(LRescanMill$Chain;)V"⟩
abbrev M_Mi_expand : mt_T := (y_Mi_expand, prog_1_method_16_code, 6, none)
def L_Mi_expand : List (Nat × Instr × Nat) := [(0, .aload_n 0, 1), (1, .getfield 44, 3), (4, .getfield 245, 3), (7, .astore_n 2, 1), (8, .aload_n 1, 1), (9, .getfield 249, 3), (12, .istore_n 3, 1), (13, .iconst 0, 1), (14, .istore 4, 2), (16, .iload 4, 2), (18, .aload_n 1, 1), (19, .getfield 254, 3), (22, .if_icmp .ge 83, 3), (25, .aload_n 0, 1), (26, .getfield 24, 3), (29, .getfield 255, 3), (32, .ifCond .ne 73, 3), (35, .aload_n 2, 1), (36, .iload_n 3, 1), (37, .invokevirtual 258, 3), (40, .istore 5, 2), (42, .aload_n 2, 1), (43, .iload_n 3, 1), (44, .invokevirtual 261, 3), (47, .istore_n 3, 1), (48, .iload 5, 2), (50, .bipush 36, 2), (52, .if_icmp .ne 38, 3), (55, .iload 4, 2), (57, .iconst 1, 1), (58, .iadd, 1), (59, .aload_n 1, 1), (60, .getfield 254, 3), (63, .if_icmp .ge 27, 3), (66, .aload_n 0, 1), (67, .aload_n 2, 1), (68, .iload_n 3, 1), (69, .invokevirtual 258, 3), (72, .invokevirtual 264, 3), (75, .ifCond .eq 15, 3), (78, .aload_n 2, 1), (79, .iload_n 3, 1), (80, .invokevirtual 261, 3), (83, .istore_n 3, 1), (84, .iinc 4 1, 3), (87, .goto 12, 3), (90, .aload_n 0, 1), (91, .getfield 24, 3), (94, .iload 5, 2), (96, .invokevirtual 70, 3), (99, .iinc 4 1, 3), (102, .goto (-86), 3), (105, .return_, 1)]
theorem D_Mi_expand : decAll prog_1_method_16_code L_Mi_expand = true := by decide +kernel
theorem K_Mi_expand : MK M_Mi_expand 1 := ⟨tb_in (i := 658) (by decide +kernel) (by decide +kernel), tb_in (i := 1) (by decide +kernel) (by decide +kernel), by decide +kernel, by decide, by decide +kernel, by decide +kernel, by decide +kernel⟩
theorem I_Mi_expand : Cond.instanceMethod M_Mi_expand.1 ∈ tbG := tb_in (i := 657) (by decide +kernel) (by decide +kernel)
theorem V_Mi_expand : MV M_Mi_expand := ⟨I_Mi_expand, ts_in (i := 16) (by decide +kernel) (by decide +kernel)⟩
def y_Mi_addMarked : MethodName := ⟨"RescanMill", "addMarked", "(I)Z"⟩
abbrev M_Mi_addMarked : mt_T := (y_Mi_addMarked, prog_1_method_17_code, 2, (some (.boolean)))
def L_Mi_addMarked : List (Nat × Instr × Nat) := [(0, .iload_n 1, 1), (1, .bipush 48, 2), (3, .if_icmp .ne 34, 3), (6, .aload_n 0, 1), (7, .getfield 24, 3), (10, .aload_n 0, 1), (11, .getfield 37, 3), (14, .getfield 219, 3), (17, .aload_n 0, 1), (18, .getfield 37, 3), (21, .invokevirtual 222, 3), (24, .aload_n 0, 1), (25, .getfield 37, 3), (28, .invokevirtual 225, 3), (31, .invokevirtual 73, 3), (34, .goto 77, 3), (37, .iload_n 1, 1), (38, .invokestatic 267, 3), (41, .ifCond .eq 14, 3), (44, .aload_n 0, 1), (45, .iload_n 1, 1), (46, .bipush 49, 2), (48, .isub, 1), (49, .invokevirtual 270, 3), (52, .goto 59, 3), (55, .iload_n 1, 1), (56, .bipush 35, 2), (58, .if_icmp .ne 20, 3), (61, .aload_n 0, 1), (62, .getfield 24, 3), (65, .aload_n 0, 1), (66, .getfield 37, 3), (69, .invokevirtual 273, 3), (72, .invokevirtual 276, 3), (75, .goto 36, 3), (78, .iload_n 1, 1), (79, .bipush 42, 2), (81, .if_icmp .eq 9, 3), (84, .iload_n 1, 1), (85, .bipush 64, 2), (87, .if_icmp .ne 22, 3), (90, .aload_n 0, 1), (91, .iconst 0, 1), (92, .iload_n 1, 1), (93, .bipush 64, 2), (95, .if_icmp .ne 7, 3), (98, .iconst 1, 1), (99, .goto 4, 3), (102, .iconst 0, 1), (103, .invokevirtual 279, 3), (106, .goto 5, 3), (109, .iconst 0, 1), (110, .ireturn, 1), (111, .iconst 1, 1), (112, .ireturn, 1)]
theorem D_Mi_addMarked : decAll prog_1_method_17_code L_Mi_addMarked = true := by decide +kernel
theorem K_Mi_addMarked : MK M_Mi_addMarked 1 := ⟨tb_in (i := 664) (by decide +kernel) (by decide +kernel), tb_in (i := 1) (by decide +kernel) (by decide +kernel), by decide +kernel, by decide, by decide +kernel, by decide +kernel, by decide +kernel⟩
theorem I_Mi_addMarked : Cond.instanceMethod M_Mi_addMarked.1 ∈ tbG := tb_in (i := 663) (by decide +kernel) (by decide +kernel)
theorem V_Mi_addMarked : MV M_Mi_addMarked := ⟨I_Mi_addMarked, ts_in (i := 17) (by decide +kernel) (by decide +kernel)⟩
def y_Mi_addArgument : MethodName := ⟨"RescanMill", "addArgument", "(I)V"⟩
abbrev M_Mi_addArgument : mt_T := (y_Mi_addArgument, prog_1_method_18_code, 2, none)
def L_Mi_addArgument : List (Nat × Instr × Nat) := [(0, .aload_n 0, 1), (1, .getfield 24, 3), (4, .aload_n 0, 1), (5, .getfield 37, 3), (8, .getfield 219, 3), (11, .aload_n 0, 1), (12, .getfield 37, 3), (15, .iload_n 1, 1), (16, .invokevirtual 283, 3), (19, .aload_n 0, 1), (20, .getfield 37, 3), (23, .iload_n 1, 1), (24, .invokevirtual 286, 3), (27, .invokevirtual 73, 3), (30, .return_, 1)]
theorem D_Mi_addArgument : decAll prog_1_method_18_code L_Mi_addArgument = true := by decide +kernel
theorem K_Mi_addArgument : MK M_Mi_addArgument 1 := ⟨tb_in (i := 668) (by decide +kernel) (by decide +kernel), tb_in (i := 1) (by decide +kernel) (by decide +kernel), by decide +kernel, by decide, by decide +kernel, by decide +kernel, by decide +kernel⟩
theorem I_Mi_addArgument : Cond.instanceMethod M_Mi_addArgument.1 ∈ tbG := tb_in (i := 667) (by decide +kernel) (by decide +kernel)
theorem V_Mi_addArgument : MV M_Mi_addArgument := ⟨I_Mi_addArgument, ts_in (i := 18) (by decide +kernel) (by decide +kernel)⟩
def y_Mi_addArguments : MethodName := ⟨"RescanMill", "addArguments", "(IZ)V"⟩
abbrev M_Mi_addArguments : mt_T := (y_Mi_addArguments, prog_1_method_19_code, 4, none)
def L_Mi_addArguments : List (Nat × Instr × Nat) := [(0, .iload_n 1, 1), (1, .istore_n 3, 1), (2, .iload_n 3, 1), (3, .aload_n 0, 1), (4, .getfield 37, 3), (7, .invokevirtual 273, 3), (10, .if_icmp .ge 96, 3), (13, .aload_n 0, 1), (14, .getfield 24, 3), (17, .getfield 255, 3), (20, .ifCond .ne 86, 3), (23, .iload_n 3, 1), (24, .iload_n 1, 1), (25, .if_icmp .le 12, 3), (28, .aload_n 0, 1), (29, .getfield 24, 3), (32, .bipush 44, 2), (34, .invokevirtual 70, 3), (37, .iload_n 2, 1), (38, .ifCond .eq 28, 3), (41, .aload_n 0, 1), (42, .getfield 24, 3), (45, .aload_n 0, 1), (46, .getfield 30, 3), (49, .getfield 289, 3), (52, .iconst 0, 1), (53, .aload_n 0, 1), (54, .getfield 30, 3), (57, .getfield 289, 3), (60, .getfield 66, 3), (63, .invokevirtual 73, 3), (66, .aload_n 0, 1), (67, .iload_n 3, 1), (68, .invokevirtual 270, 3), (71, .iload_n 2, 1), (72, .ifCond .eq 28, 3), (75, .aload_n 0, 1), (76, .getfield 24, 3), (79, .aload_n 0, 1), (80, .getfield 30, 3), (83, .getfield 292, 3), (86, .iconst 0, 1), (87, .aload_n 0, 1), (88, .getfield 30, 3), (91, .getfield 292, 3), (94, .getfield 66, 3), (97, .invokevirtual 73, 3), (100, .iinc 3 1, 3), (103, .goto (-101), 3), (106, .return_, 1)]
theorem D_Mi_addArguments : decAll prog_1_method_19_code L_Mi_addArguments = true := by decide +kernel
theorem K_Mi_addArguments : MK M_Mi_addArguments 2 := ⟨tb_in (i := 686) (by decide +kernel) (by decide +kernel), tb_in (i := 1) (by decide +kernel) (by decide +kernel), by decide +kernel, by decide, by decide +kernel, by decide +kernel, by decide +kernel⟩
theorem I_Mi_addArguments : Cond.instanceMethod M_Mi_addArguments.1 ∈ tbG := tb_in (i := 685) (by decide +kernel) (by decide +kernel)
theorem V_Mi_addArguments : MV M_Mi_addArguments := ⟨I_Mi_addArguments, ts_in (i := 19) (by decide +kernel) (by decide +kernel)⟩
def y_Mi_useBuiltIn : MethodName := ⟨"RescanMill", "useBuiltIn", "(LRescanMill$BuiltIn;)I"⟩
abbrev M_Mi_useBuiltIn : mt_T := (y_Mi_useBuiltIn, prog_1_method_20_code, 2, (some (.int)))
def L_Mi_useBuiltIn : List (Nat × Instr × Nat) := [(0, .getstatic 295, 3), (3, .aload_n 1, 1), (4, .invokevirtual 300, 3), (7, .iaload, 1), (8, .tableswitch 263 1 17 #[84, 90, 96, 102, 108, 113, 118, 153, 159, 165, 182, 227, 232, 240, 248, 253, 258], 84), (92, .aload_n 0, 1), (93, .iconst 0, 1), (94, .invokevirtual 303, 3), (97, .ireturn, 1), (98, .aload_n 0, 1), (99, .iconst 1, 1), (100, .invokevirtual 303, 3), (103, .ireturn, 1), (104, .aload_n 0, 1), (105, .iconst 1, 1), (106, .invokevirtual 307, 3), (109, .ireturn, 1), (110, .aload_n 0, 1), (111, .iconst 0, 1), (112, .invokevirtual 307, 3), (115, .ireturn, 1), (116, .aload_n 0, 1), (117, .invokevirtual 310, 3), (120, .ireturn, 1), (121, .aload_n 0, 1), (122, .invokevirtual 313, 3), (125, .ireturn, 1), (126, .aload_n 0, 1), (127, .getfield 58, 3), (130, .aload_n 0, 1), (131, .getfield 37, 3), (134, .getfield 219, 3), (137, .aload_n 0, 1), (138, .getfield 37, 3), (141, .iconst 0, 1), (142, .invokevirtual 283, 3), (145, .aload_n 0, 1), (146, .getfield 37, 3), (149, .iconst 0, 1), (150, .invokevirtual 286, 3), (153, .aload_n 0, 1), (154, .getfield 24, 3), (157, .invokevirtual 316, 3), (160, .ireturn, 1), (161, .aload_n 0, 1), (162, .iconst 1, 1), (163, .invokevirtual 320, 3), (166, .ireturn, 1), (167, .aload_n 0, 1), (168, .iconst (-1), 1), (169, .invokevirtual 320, 3), (172, .ireturn, 1), (173, .aload_n 0, 1), (174, .getfield 24, 3), (177, .aload_n 0, 1), (178, .getfield 37, 3), (181, .iconst 0, 1), (182, .invokevirtual 286, 3), (185, .invokevirtual 276, 3), (188, .iconst 0, 1), (189, .ireturn, 1), (190, .aload_n 0, 1), (191, .getfield 24, 3), (194, .aload_n 0, 1), (195, .aload_n 0, 1), (196, .getfield 37, 3), (199, .iconst 0, 1), (200, .invokevirtual 283, 3), (203, .aload_n 0, 1), (204, .getfield 37, 3), (207, .iconst 0, 1), (208, .invokevirtual 286, 3), (211, .aload_n 0, 1), (212, .getfield 37, 3), (215, .iconst 1, 1), (216, .invokevirtual 283, 3), (219, .aload_n 0, 1), (220, .getfield 37, 3), (223, .iconst 1, 1), (224, .invokevirtual 286, 3), (227, .invokevirtual 323, 3), (230, .invokevirtual 276, 3), (233, .iconst 0, 1), (234, .ireturn, 1), (235, .aload_n 0, 1), (236, .invokevirtual 327, 3), (239, .ireturn, 1), (240, .aload_n 0, 1), (241, .iconst 1, 1), (242, .iconst 1, 1), (243, .invokevirtual 279, 3), (246, .iconst 0, 1), (247, .ireturn, 1), (248, .aload_n 0, 1), (249, .getfield 30, 3), (252, .invokevirtual 330, 3), (255, .ireturn, 1), (256, .aload_n 0, 1), (257, .invokevirtual 333, 3), (260, .ireturn, 1), (261, .aload_n 0, 1), (262, .invokevirtual 336, 3), (265, .ireturn, 1), (266, .aload_n 0, 1), (267, .invokevirtual 339, 3), (270, .ireturn, 1), (271, .iconst 0, 1), (272, .ireturn, 1)]
theorem D_Mi_useBuiltIn : decAll prog_1_method_20_code L_Mi_useBuiltIn = true := by decide +kernel
theorem K_Mi_useBuiltIn : MK M_Mi_useBuiltIn 1 := ⟨tb_in (i := 690) (by decide +kernel) (by decide +kernel), tb_in (i := 1) (by decide +kernel) (by decide +kernel), by decide +kernel, by decide, by decide +kernel, by decide +kernel, by decide +kernel⟩
theorem I_Mi_useBuiltIn : Cond.instanceMethod M_Mi_useBuiltIn.1 ∈ tbG := tb_in (i := 689) (by decide +kernel) (by decide +kernel)
theorem V_Mi_useBuiltIn : MV M_Mi_useBuiltIn := ⟨I_Mi_useBuiltIn, ts_in (i := 20) (by decide +kernel) (by decide +kernel)⟩
def y_Mi_define : MethodName := ⟨"RescanMill", "define", "(Z)I"⟩
abbrev M_Mi_define : mt_T := (y_Mi_define, prog_1_method_21_code, 2, (some (.int)))
def L_Mi_define : List (Nat × Instr × Nat) := [(0, .aload_n 0, 1), (1, .aload_n 0, 1), (2, .getfield 37, 3), (5, .iconst 0, 1), (6, .invokevirtual 283, 3), (9, .aload_n 0, 1), (10, .getfield 37, 3), (13, .iconst 0, 1), (14, .invokevirtual 286, 3), (17, .invokevirtual 342, 3), (20, .ifCond .ne 6, 3), (23, .bipush 35, 2), (25, .ireturn, 1), (26, .aload_n 0, 1), (27, .getfield 44, 3), (30, .aload_n 0, 1), (31, .getfield 37, 3), (34, .iload_n 1, 1), (35, .invokevirtual 346, 3), (38, .ifCond .eq 7, 3), (41, .iconst 0, 1), (42, .goto 5, 3), (45, .bipush 40, 2), (47, .ireturn, 1)]
theorem D_Mi_define : decAll prog_1_method_21_code L_Mi_define = true := by decide +kernel
theorem K_Mi_define : MK M_Mi_define 1 := ⟨tb_in (i := 702) (by decide +kernel) (by decide +kernel), tb_in (i := 1) (by decide +kernel) (by decide +kernel), by decide +kernel, by decide, by decide +kernel, by decide +kernel, by decide +kernel⟩
theorem I_Mi_define : Cond.instanceMethod M_Mi_define.1 ∈ tbG := tb_in (i := 701) (by decide +kernel) (by decide +kernel)
theorem V_Mi_define : MV M_Mi_define := ⟨I_Mi_define, ts_in (i := 21) (by decide +kernel) (by decide +kernel)⟩
def y_Mi_isName : MethodName := ⟨"RescanMill", "isName", "(II)Z"⟩
abbrev M_Mi_isName : mt_T := (y_Mi_isName, prog_1_method_22_code, 4, (some (.boolean)))
def L_Mi_isName : List (Nat × Instr × Nat) := [(0, .iload_n 2, 1), (1, .iconst 1, 1), (2, .if_icmp .lt 20, 3), (5, .aload_n 0, 1), (6, .getfield 37, 3), (9, .getfield 219, 3), (12, .iload_n 1, 1), (13, .invokevirtual 119, 3), (16, .invokestatic 349, 3), (19, .ifCond .ne 5, 3), (22, .iconst 0, 1), (23, .ireturn, 1), (24, .iconst 1, 1), (25, .istore_n 3, 1), (26, .iload_n 3, 1), (27, .iload_n 2, 1), (28, .if_icmp .ge 30, 3), (31, .aload_n 0, 1), (32, .getfield 37, 3), (35, .getfield 219, 3), (38, .iload_n 1, 1), (39, .iload_n 3, 1), (40, .iadd, 1), (41, .invokevirtual 119, 3), (44, .invokestatic 352, 3), (47, .ifCond .ne 5, 3), (50, .iconst 0, 1), (51, .ireturn, 1), (52, .iinc 3 1, 3), (55, .goto (-29), 3), (58, .iconst 1, 1), (59, .ireturn, 1)]
theorem D_Mi_isName : decAll prog_1_method_22_code L_Mi_isName = true := by decide +kernel
theorem K_Mi_isName : MK M_Mi_isName 2 := ⟨tb_in (i := 706) (by decide +kernel) (by decide +kernel), tb_in (i := 1) (by decide +kernel) (by decide +kernel), by decide +kernel, by decide, by decide +kernel, by decide +kernel, by decide +kernel⟩
theorem I_Mi_isName : Cond.instanceMethod M_Mi_isName.1 ∈ tbG := tb_in (i := 705) (by decide +kernel) (by decide +kernel)
theorem V_Mi_isName : MV M_Mi_isName := ⟨I_Mi_isName, ts_in (i := 22) (by decide +kernel) (by decide +kernel)⟩
def y_Ms_define : MethodName := ⟨"RescanMill$Meanings", "define", "(LRescanMill$Calls;Z)Z"⟩
abbrev M_Ms_define : mt_T := (y_Ms_define, prog_12_method_9_code, 9, (some (.boolean)))
def L_Ms_define : List (Nat × Instr × Nat) := [(0, .aload_n 1, 1), (1, .iconst 0, 1), (2, .invokevirtual 106, 3), (5, .istore_n 3, 1), (6, .aload_n 1, 1), (7, .iconst 1, 1), (8, .invokevirtual 106, 3), (11, .istore 4, 2), (13, .iload_n 2, 1), (14, .ifCond .eq 7, 3), (17, .aconst_null, 1), (18, .goto 17, 3), (21, .aload_n 0, 1), (22, .aload_n 1, 1), (23, .getfield 111, 3), (26, .aload_n 1, 1), (27, .iconst 0, 1), (28, .invokevirtual 115, 3), (31, .iload_n 3, 1), (32, .invokevirtual 118, 3), (35, .astore 5, 2), (37, .aload 5, 2), (39, .ifnull 15, 3), (42, .aload 5, 2), (44, .getfield 102, 3), (47, .ifnonnull 7, 3), (50, .iconst 1, 1), (51, .goto 4, 3), (54, .iconst 0, 1), (55, .istore 6, 2), (57, .iload 6, 2), (59, .ifCond .eq 17, 3), (62, .iload 4, 2), (64, .aload 5, 2), (66, .getfield 57, 3), (69, .getfield 83, 3), (72, .isub, 1), (73, .goto 7, 3), (76, .iload 4, 2), (78, .iload_n 3, 1), (79, .iadd, 1), (80, .istore 7, 2), (82, .iload 6, 2), (84, .ifCond .eq 7, 3), (87, .iconst 0, 1), (88, .goto 4, 3), (91, .iconst 1, 1), (92, .istore 8, 2), (94, .iload 8, 2), (96, .sipush 300, 3), (99, .aload_n 0, 1), (100, .getfield 37, 3), (103, .isub, 1), (104, .if_icmp .gt 16, 3), (107, .iload 7, 2), (109, .sipush 16384, 3), (112, .aload_n 0, 1), (113, .getfield 41, 3), (116, .isub, 1), (117, .if_icmp .le 5, 3), (120, .iconst 0, 1), (121, .ireturn, 1), (122, .aload 5, 2), (124, .ifnonnull 19, 3), (127, .aload_n 0, 1), (128, .aload_n 1, 1), (129, .getfield 111, 3), (132, .aload_n 1, 1), (133, .iconst 0, 1), (134, .invokevirtual 115, 3), (137, .iload_n 3, 1), (138, .invokevirtual 98, 3), (141, .astore 5, 2), (143, .aload 5, 2), (145, .ifnonnull 5, 3), (148, .iconst 0, 1), (149, .ireturn, 1), (150, .aload 5, 2), (152, .aconst_null, 1), (153, .putfield 102, 3), (156, .aload_n 0, 1), (157, .getfield 16, 3), (160, .aload 5, 2), (162, .getfield 57, 3), (165, .invokevirtual 121, 3), (168, .aload_n 0, 1), (169, .getfield 16, 3), (172, .aload 5, 2), (174, .getfield 57, 3), (177, .aload_n 1, 1), (178, .getfield 111, 3), (181, .aload_n 1, 1), (182, .iconst 1, 1), (183, .invokevirtual 115, 3), (186, .iload 4, 2), (188, .invokevirtual 93, 3), (191, .pop, 1), (192, .aload_n 0, 1), (193, .dup, 1), (194, .getfield 37, 3), (197, .iload 8, 2), (199, .iadd, 1), (200, .putfield 37, 3), (203, .aload_n 0, 1), (204, .dup, 1), (205, .getfield 41, 3), (208, .iload 7, 2), (210, .iadd, 1), (211, .putfield 41, 3), (214, .iconst 1, 1), (215, .ireturn, 1)]
theorem D_Ms_define : decAll prog_12_method_9_code L_Ms_define = true := by decide +kernel
theorem K_Ms_define : MK M_Ms_define 2 := ⟨tb_in (i := 711) (by decide +kernel) (by decide +kernel), tb_in (i := 6) (by decide +kernel) (by decide +kernel), by decide +kernel, by decide, by decide +kernel, by decide +kernel, by decide +kernel⟩
theorem I_Ms_define : Cond.instanceMethod M_Ms_define.1 ∈ tbG := tb_in (i := 709) (by decide +kernel) (by decide +kernel)
theorem V_Ms_define : MV M_Ms_define := ⟨I_Ms_define, tb_in (i := 710) (by decide +kernel) (by decide +kernel)⟩
def y_Mi_takeMeanings : MethodName := ⟨"RescanMill", "takeMeanings", "(Z)I"⟩
abbrev M_Mi_takeMeanings : mt_T := (y_Mi_takeMeanings, prog_1_method_23_code, 3, (some (.int)))
def L_Mi_takeMeanings : List (Nat × Instr × Nat) := [(0, .iconst 0, 1), (1, .istore_n 2, 1), (2, .iload_n 2, 1), (3, .aload_n 0, 1), (4, .getfield 37, 3), (7, .invokevirtual 273, 3), (10, .if_icmp .ge 40, 3), (13, .aload_n 0, 1), (14, .getfield 44, 3), (17, .aload_n 0, 1), (18, .getfield 37, 3), (21, .getfield 219, 3), (24, .aload_n 0, 1), (25, .getfield 37, 3), (28, .iload_n 2, 1), (29, .invokevirtual 283, 3), (32, .aload_n 0, 1), (33, .getfield 37, 3), (36, .iload_n 2, 1), (37, .invokevirtual 286, 3), (40, .iload_n 1, 1), (41, .invokevirtual 355, 3), (44, .iinc 2 1, 3), (47, .goto (-45), 3), (50, .iconst 0, 1), (51, .ireturn, 1)]
theorem D_Mi_takeMeanings : decAll prog_1_method_23_code L_Mi_takeMeanings = true := by decide +kernel
theorem K_Mi_takeMeanings : MK M_Mi_takeMeanings 1 := ⟨tb_in (i := 723) (by decide +kernel) (by decide +kernel), tb_in (i := 1) (by decide +kernel) (by decide +kernel), by decide +kernel, by decide, by decide +kernel, by decide +kernel, by decide +kernel⟩
theorem I_Mi_takeMeanings : Cond.instanceMethod M_Mi_takeMeanings.1 ∈ tbG := tb_in (i := 722) (by decide +kernel) (by decide +kernel)
theorem V_Mi_takeMeanings : MV M_Mi_takeMeanings := ⟨I_Mi_takeMeanings, ts_in (i := 23) (by decide +kernel) (by decide +kernel)⟩
def y_Ms_take : MethodName := ⟨"RescanMill$Meanings", "take", "(LRescanMill$Bytes;IIZ)V"⟩
abbrev M_Ms_take : mt_T := (y_Ms_take, prog_12_method_10_code, 10, none)
def L_Ms_take : List (Nat × Instr × Nat) := [(0, .aload_n 1, 1), (1, .iload_n 2, 1), (2, .iload_n 3, 1), (3, .invokestatic 69, 3), (6, .istore 5, 2), (8, .iload 5, 2), (10, .invokestatic 73, 3), (13, .istore 6, 2), (15, .aconst_null, 1), (16, .astore 7, 2), (18, .aload_n 0, 1), (19, .getfield 22, 3), (22, .iload 6, 2), (24, .aaload, 1), (25, .astore 8, 2), (27, .aload 8, 2), (29, .ifnull 82, 3), (32, .aload 8, 2), (34, .getfield 60, 3), (37, .astore 9, 2), (39, .aload 8, 2), (41, .getfield 76, 3), (44, .iload 5, 2), (46, .if_icmp .ne 15, 3), (49, .aload_n 0, 1), (50, .aload 8, 2), (52, .aload_n 1, 1), (53, .iload_n 2, 1), (54, .iload_n 3, 1), (55, .invokevirtual 79, 3), (58, .ifCond .ne 10, 3), (61, .aload 8, 2), (63, .astore 7, 2), (65, .goto 39, 3), (68, .aload 7, 2), (70, .ifnonnull 15, 3), (73, .aload_n 0, 1), (74, .getfield 22, 3), (77, .iload 6, 2), (79, .aload 9, 2), (81, .aastore, 1), (82, .goto 10, 3), (85, .aload 7, 2), (87, .aload 9, 2), (89, .putfield 60, 3), (92, .aload_n 0, 1), (93, .aload 8, 2), (95, .invokevirtual 125, 3), (98, .iload 4, 2), (100, .ifCond .ne 4, 3), (103, .return_, 1), (104, .aload 9, 2), (106, .astore 8, 2), (108, .goto (-81), 3), (111, .return_, 1)]
theorem D_Ms_take : decAll prog_12_method_10_code L_Ms_take = true := by decide +kernel
theorem K_Ms_take : MK M_Ms_take 4 := ⟨tb_in (i := 727) (by decide +kernel) (by decide +kernel), tb_in (i := 6) (by decide +kernel) (by decide +kernel), by decide +kernel, by decide, by decide +kernel, by decide +kernel, by decide +kernel⟩
theorem I_Ms_take : Cond.instanceMethod M_Ms_take.1 ∈ tbG := tb_in (i := 725) (by decide +kernel) (by decide +kernel)
theorem V_Ms_take : MV M_Ms_take := ⟨I_Ms_take, tb_in (i := 726) (by decide +kernel) (by decide +kernel)⟩
def y_Ms_release : MethodName := ⟨"RescanMill$Meanings", "release", "(LRescanMill$Meaning;)V"⟩
abbrev M_Ms_release : mt_T := (y_Ms_release, prog_12_method_11_code, 2, none)
def L_Ms_release : List (Nat × Instr × Nat) := [(0, .aload_n 1, 1), (1, .getfield 102, 3), (4, .ifnonnull 37, 3), (7, .aload_n 0, 1), (8, .dup, 1), (9, .getfield 37, 3), (12, .iconst 1, 1), (13, .isub, 1), (14, .putfield 37, 3), (17, .aload_n 0, 1), (18, .dup, 1), (19, .getfield 41, 3), (22, .aload_n 1, 1), (23, .getfield 48, 3), (26, .getfield 83, 3), (29, .aload_n 1, 1), (30, .getfield 57, 3), (33, .getfield 83, 3), (36, .iadd, 1), (37, .isub, 1), (38, .putfield 41, 3), (41, .aload_n 0, 1), (42, .getfield 16, 3), (45, .aload_n 1, 1), (46, .getfield 48, 3), (49, .invokevirtual 121, 3), (52, .aload_n 0, 1), (53, .getfield 16, 3), (56, .aload_n 1, 1), (57, .getfield 57, 3), (60, .invokevirtual 121, 3), (63, .aload_n 1, 1), (64, .aconst_null, 1), (65, .putfield 102, 3), (68, .aload_n 1, 1), (69, .aload_n 0, 1), (70, .getfield 44, 3), (73, .putfield 60, 3), (76, .aload_n 0, 1), (77, .aload_n 1, 1), (78, .putfield 44, 3), (81, .return_, 1)]
theorem D_Ms_release : decAll prog_12_method_11_code L_Ms_release = true := by decide +kernel
theorem K_Ms_release : MK M_Ms_release 1 := ⟨tb_in (i := 731) (by decide +kernel) (by decide +kernel), tb_in (i := 6) (by decide +kernel) (by decide +kernel), by decide +kernel, by decide, by decide +kernel, by decide +kernel, by decide +kernel⟩
theorem I_Ms_release : Cond.instanceMethod M_Ms_release.1 ∈ tbG := tb_in (i := 730) (by decide +kernel) (by decide +kernel)
theorem V_Ms_release : MV M_Ms_release := ⟨I_Ms_release, ts_in (i := 24) (by decide +kernel) (by decide +kernel)⟩
def y_Mi_chooseByMacro : MethodName := ⟨"RescanMill", "chooseByMacro", "()I"⟩
abbrev M_Mi_chooseByMacro : mt_T := (y_Mi_chooseByMacro, prog_1_method_24_code, 2, (some (.int)))
def L_Mi_chooseByMacro : List (Nat × Instr × Nat) := [(0, .aload_n 0, 1), (1, .getfield 44, 3), (4, .aload_n 0, 1), (5, .getfield 37, 3), (8, .getfield 219, 3), (11, .aload_n 0, 1), (12, .getfield 37, 3), (15, .iconst 0, 1), (16, .invokevirtual 283, 3), (19, .aload_n 0, 1), (20, .getfield 37, 3), (23, .iconst 0, 1), (24, .invokevirtual 286, 3), (27, .invokevirtual 176, 3), (30, .astore_n 1, 1), (31, .aload_n 0, 1), (32, .aload_n 1, 1), (33, .ifnull 7, 3), (36, .iconst 1, 1), (37, .goto 4, 3), (40, .iconst 2, 1), (41, .invokevirtual 270, 3), (44, .iconst 0, 1), (45, .ireturn, 1)]
theorem D_Mi_chooseByMacro : decAll prog_1_method_24_code L_Mi_chooseByMacro = true := by decide +kernel
theorem K_Mi_chooseByMacro : MK M_Mi_chooseByMacro 0 := ⟨tb_in (i := 735) (by decide +kernel) (by decide +kernel), tb_in (i := 1) (by decide +kernel) (by decide +kernel), by decide +kernel, by decide, by decide +kernel, by decide +kernel, by decide +kernel⟩
theorem I_Mi_chooseByMacro : Cond.instanceMethod M_Mi_chooseByMacro.1 ∈ tbG := tb_in (i := 734) (by decide +kernel) (by decide +kernel)
theorem V_Mi_chooseByMacro : MV M_Mi_chooseByMacro := ⟨I_Mi_chooseByMacro, ts_in (i := 25) (by decide +kernel) (by decide +kernel)⟩
def y_Mi_chooseBySameness : MethodName := ⟨"RescanMill", "chooseBySameness", "()I"⟩
abbrev M_Mi_chooseBySameness : mt_T := (y_Mi_chooseBySameness, prog_1_method_25_code, 4, (some (.int)))
def L_Mi_chooseBySameness : List (Nat × Instr × Nat) := [(0, .aload_n 0, 1), (1, .getfield 37, 3), (4, .invokevirtual 273, 3), (7, .istore_n 1, 1), (8, .iconst 0, 1), (9, .istore_n 2, 1), (10, .iload_n 2, 1), (11, .iconst 3, 1), (12, .iadd, 1), (13, .iload_n 1, 1), (14, .if_icmp .gt 54, 3), (17, .iload_n 1, 1), (18, .iload_n 2, 1), (19, .isub, 1), (20, .iconst 3, 1), (21, .isub, 1), (22, .istore_n 3, 1), (23, .aload_n 0, 1), (24, .iload_n 2, 1), (25, .iload_n 2, 1), (26, .iconst 1, 1), (27, .iadd, 1), (28, .invokevirtual 358, 3), (31, .ifCond .eq 12, 3), (34, .aload_n 0, 1), (35, .iload_n 2, 1), (36, .iconst 2, 1), (37, .iadd, 1), (38, .invokevirtual 270, 3), (41, .iconst 0, 1), (42, .ireturn, 1), (43, .iload_n 3, 1), (44, .iconst 1, 1), (45, .if_icmp .eq 8, 3), (48, .iload_n 3, 1), (49, .iconst 2, 1), (50, .if_icmp .ne 12, 3), (53, .aload_n 0, 1), (54, .iload_n 2, 1), (55, .iconst 3, 1), (56, .iadd, 1), (57, .invokevirtual 270, 3), (60, .iconst 0, 1), (61, .ireturn, 1), (62, .iinc 2 3, 3), (65, .goto (-55), 3), (68, .iconst 0, 1), (69, .ireturn, 1)]
theorem D_Mi_chooseBySameness : decAll prog_1_method_25_code L_Mi_chooseBySameness = true := by decide +kernel
theorem K_Mi_chooseBySameness : MK M_Mi_chooseBySameness 0 := ⟨tb_in (i := 739) (by decide +kernel) (by decide +kernel), tb_in (i := 1) (by decide +kernel) (by decide +kernel), by decide +kernel, by decide, by decide +kernel, by decide +kernel, by decide +kernel⟩
theorem I_Mi_chooseBySameness : Cond.instanceMethod M_Mi_chooseBySameness.1 ∈ tbG := tb_in (i := 738) (by decide +kernel) (by decide +kernel)
theorem V_Mi_chooseBySameness : MV M_Mi_chooseBySameness := ⟨I_Mi_chooseBySameness, ts_in (i := 26) (by decide +kernel) (by decide +kernel)⟩
def y_Mi_areSame : MethodName := ⟨"RescanMill", "areSame", "(II)Z"⟩
abbrev M_Mi_areSame : mt_T := (y_Mi_areSame, prog_1_method_26_code, 7, (some (.boolean)))
def L_Mi_areSame : List (Nat × Instr × Nat) := [(0, .aload_n 0, 1), (1, .getfield 37, 3), (4, .iload_n 1, 1), (5, .invokevirtual 286, 3), (8, .istore_n 3, 1), (9, .iload_n 3, 1), (10, .aload_n 0, 1), (11, .getfield 37, 3), (14, .iload_n 2, 1), (15, .invokevirtual 286, 3), (18, .if_icmp .eq 5, 3), (21, .iconst 0, 1), (22, .ireturn, 1), (23, .aload_n 0, 1), (24, .getfield 37, 3), (27, .iload_n 1, 1), (28, .invokevirtual 283, 3), (31, .istore 4, 2), (33, .aload_n 0, 1), (34, .getfield 37, 3), (37, .iload_n 2, 1), (38, .invokevirtual 283, 3), (41, .istore 5, 2), (43, .iconst 0, 1), (44, .istore 6, 2), (46, .iload 6, 2), (48, .iload_n 3, 1), (49, .if_icmp .ge 44, 3), (52, .aload_n 0, 1), (53, .getfield 37, 3), (56, .getfield 219, 3), (59, .iload 4, 2), (61, .iload 6, 2), (63, .iadd, 1), (64, .invokevirtual 119, 3), (67, .aload_n 0, 1), (68, .getfield 37, 3), (71, .getfield 219, 3), (74, .iload 5, 2), (76, .iload 6, 2), (78, .iadd, 1), (79, .invokevirtual 119, 3), (82, .if_icmp .eq 5, 3), (85, .iconst 0, 1), (86, .ireturn, 1), (87, .iinc 6 1, 3), (90, .goto (-44), 3), (93, .iconst 1, 1), (94, .ireturn, 1)]
theorem D_Mi_areSame : decAll prog_1_method_26_code L_Mi_areSame = true := by decide +kernel
theorem K_Mi_areSame : MK M_Mi_areSame 2 := ⟨tb_in (i := 743) (by decide +kernel) (by decide +kernel), tb_in (i := 1) (by decide +kernel) (by decide +kernel), by decide +kernel, by decide, by decide +kernel, by decide +kernel, by decide +kernel⟩
theorem I_Mi_areSame : Cond.instanceMethod M_Mi_areSame.1 ∈ tbG := tb_in (i := 742) (by decide +kernel) (by decide +kernel)
theorem V_Mi_areSame : MV M_Mi_areSame := ⟨I_Mi_areSame, ts_in (i := 27) (by decide +kernel) (by decide +kernel)⟩
def y_Ex_evaluate : MethodName := ⟨"RescanMill$Expression", "evaluate", "(LRescanMill$Bytes;IILRescanMill$Bytes;)I"⟩
abbrev M_Ex_evaluate : mt_T := (y_Ex_evaluate, prog_9_method_2_code, 8, (some (.int)))
def L_Ex_evaluate : List (Nat × Instr × Nat) := [(0, .aload_n 0, 1), (1, .aload_n 1, 1), (2, .iload_n 2, 1), (3, .iload_n 2, 1), (4, .iload_n 3, 1), (5, .iadd, 1), (6, .invokevirtual 30, 3), (9, .iconst 0, 1), (10, .istore 5, 2), (12, .iload 5, 2), (14, .iload_n 3, 1), (15, .if_icmp .ge 118, 3), (18, .aload_n 0, 1), (19, .getfield 34, 3), (22, .aload_n 0, 1), (23, .getfield 38, 3), (26, .if_icmp .ge 107, 3), (29, .aload_n 0, 1), (30, .getfield 14, 3), (33, .aload_n 0, 1), (34, .getfield 34, 3), (37, .invokevirtual 41, 3), (40, .istore 6, 2), (42, .iload 6, 2), (44, .invokestatic 44, 3), (47, .ifCond .eq 19, 3), (50, .aload_n 0, 1), (51, .dup, 1), (52, .getfield 34, 3), (55, .iconst 1, 1), (56, .iadd, 1), (57, .putfield 34, 3), (60, .iconst 1, 1), (61, .istore 7, 2), (63, .goto 56, 3), (66, .aload_n 0, 1), (67, .getfield 48, 3), (70, .ifCond .eq 29, 3), (73, .iload 6, 2), (75, .invokestatic 52, 3), (78, .ifCond .eq 10, 3), (81, .aload_n 0, 1), (82, .invokevirtual 55, 3), (85, .goto 9, 3), (88, .aload_n 0, 1), (89, .iload 6, 2), (91, .invokevirtual 59, 3), (94, .istore 7, 2), (96, .goto 23, 3), (99, .iload 6, 2), (101, .bipush 41, 2), (103, .if_icmp .ne 10, 3), (106, .aload_n 0, 1), (107, .invokevirtual 62, 3), (110, .goto 7, 3), (113, .aload_n 0, 1), (114, .invokevirtual 65, 3), (117, .istore 7, 2), (119, .iload 7, 2), (121, .ifCond .ne 6, 3), (124, .bipush 38, 2), (126, .ireturn, 1), (127, .iinc 5 1, 3), (130, .goto (-118), 3), (133, .aload_n 0, 1), (134, .getfield 48, 3), (137, .ifCond .eq 6, 3), (140, .bipush 38, 2), (142, .ireturn, 1), (143, .aload_n 0, 1), (144, .iconst 1, 1), (145, .invokevirtual 68, 3), (148, .aload_n 0, 1), (149, .getfield 71, 3), (152, .ifCond .gt 11, 3), (155, .aload_n 0, 1), (156, .getfield 74, 3), (159, .iconst 1, 1), (160, .if_icmp .eq 6, 3), (163, .bipush 38, 2), (165, .ireturn, 1), (166, .aload_n 0, 1), (167, .getfield 77, 3), (170, .ifCond .eq 6, 3), (173, .bipush 39, 2), (175, .ireturn, 1), (176, .aload 4, 2), (178, .aload_n 0, 1), (179, .getfield 20, 3), (182, .iconst 0, 1), (183, .iaload, 1), (184, .invokevirtual 80, 3), (187, .iconst 0, 1), (188, .ireturn, 1)]
theorem D_Ex_evaluate : decAll prog_9_method_2_code L_Ex_evaluate = true := by decide +kernel
theorem K_Ex_evaluate : MK M_Ex_evaluate 4 := ⟨tb_in (i := 747) (by decide +kernel) (by decide +kernel), tb_in (i := 11) (by decide +kernel) (by decide +kernel), by decide +kernel, by decide, by decide +kernel, by decide +kernel, by decide +kernel⟩
theorem I_Ex_evaluate : Cond.instanceMethod M_Ex_evaluate.1 ∈ tbG := tb_in (i := 745) (by decide +kernel) (by decide +kernel)
theorem V_Ex_evaluate : MV M_Ex_evaluate := ⟨I_Ex_evaluate, tb_in (i := 746) (by decide +kernel) (by decide +kernel)⟩
def y_Ex_begin : MethodName := ⟨"RescanMill$Expression", "begin", "(LRescanMill$Bytes;II)V"⟩
abbrev M_Ex_begin : mt_T := (y_Ex_begin, prog_9_method_3_code, 4, none)
def L_Ex_begin : List (Nat × Instr × Nat) := [(0, .aload_n 0, 1), (1, .aload_n 1, 1), (2, .putfield 14, 3), (5, .aload_n 0, 1), (6, .iload_n 2, 1), (7, .putfield 34, 3), (10, .aload_n 0, 1), (11, .iload_n 3, 1), (12, .putfield 38, 3), (15, .aload_n 0, 1), (16, .iconst 0, 1), (17, .putfield 74, 3), (20, .aload_n 0, 1), (21, .iconst 0, 1), (22, .putfield 71, 3), (25, .aload_n 0, 1), (26, .iconst 0, 1), (27, .putfield 83, 3), (30, .aload_n 0, 1), (31, .iconst 1, 1), (32, .putfield 48, 3), (35, .aload_n 0, 1), (36, .iconst 0, 1), (37, .putfield 77, 3), (40, .return_, 1)]
theorem D_Ex_begin : decAll prog_9_method_3_code L_Ex_begin = true := by decide +kernel
theorem K_Ex_begin : MK M_Ex_begin 3 := ⟨tb_in (i := 751) (by decide +kernel) (by decide +kernel), tb_in (i := 11) (by decide +kernel) (by decide +kernel), by decide +kernel, by decide, by decide +kernel, by decide +kernel, by decide +kernel⟩
theorem I_Ex_begin : Cond.instanceMethod M_Ex_begin.1 ∈ tbG := tb_in (i := 750) (by decide +kernel) (by decide +kernel)
theorem V_Ex_begin : MV M_Ex_begin := ⟨I_Ex_begin, ts_in (i := 28) (by decide +kernel) (by decide +kernel)⟩
def y_Ex_takeNumber : MethodName := ⟨"RescanMill$Expression", "takeNumber", "()Z"⟩
abbrev M_Ex_takeNumber : mt_T := (y_Ex_takeNumber, prog_9_method_4_code, 3, (some (.boolean)))
def L_Ex_takeNumber : List (Nat × Instr × Nat) := [(0, .iconst 0, 1), (1, .istore_n 1, 1), (2, .iconst 0, 1), (3, .istore_n 2, 1), (4, .iload_n 2, 1), (5, .bipush 9, 2), (7, .if_icmp .gt 67, 3), (10, .aload_n 0, 1), (11, .getfield 34, 3), (14, .aload_n 0, 1), (15, .getfield 38, 3), (18, .if_icmp .ge 56, 3), (21, .aload_n 0, 1), (22, .getfield 14, 3), (25, .aload_n 0, 1), (26, .getfield 34, 3), (29, .invokevirtual 41, 3), (32, .invokestatic 52, 3), (35, .ifCond .eq 39, 3), (38, .iload_n 1, 1), (39, .bipush 10, 2), (41, .imul, 1), (42, .aload_n 0, 1), (43, .getfield 14, 3), (46, .aload_n 0, 1), (47, .getfield 34, 3), (50, .invokevirtual 41, 3), (53, .bipush 48, 2), (55, .isub, 1), (56, .iadd, 1), (57, .istore_n 1, 1), (58, .iinc 2 1, 3), (61, .aload_n 0, 1), (62, .dup, 1), (63, .getfield 34, 3), (66, .iconst 1, 1), (67, .iadd, 1), (68, .putfield 34, 3), (71, .goto (-67), 3), (74, .iload_n 2, 1), (75, .bipush 9, 2), (77, .if_icmp .gt 22, 3), (80, .aload_n 0, 1), (81, .getfield 74, 3), (84, .ifCond .lt 15, 3), (87, .aload_n 0, 1), (88, .getfield 74, 3), (91, .aload_n 0, 1), (92, .getfield 20, 3), (95, .arraylength, 1), (96, .if_icmp .lt 5, 3), (99, .iconst 0, 1), (100, .ireturn, 1), (101, .aload_n 0, 1), (102, .getfield 20, 3), (105, .aload_n 0, 1), (106, .getfield 74, 3), (109, .iload_n 1, 1), (110, .iastore, 1), (111, .aload_n 0, 1), (112, .dup, 1), (113, .getfield 74, 3), (116, .iconst 1, 1), (117, .iadd, 1), (118, .putfield 74, 3), (121, .aload_n 0, 1), (122, .iconst 0, 1), (123, .putfield 48, 3), (126, .aload_n 0, 1), (127, .bipush 11, 2), (129, .invokevirtual 68, 3), (132, .iconst 1, 1), (133, .ireturn, 1)]
theorem D_Ex_takeNumber : decAll prog_9_method_4_code L_Ex_takeNumber = true := by decide +kernel
theorem K_Ex_takeNumber : MK M_Ex_takeNumber 0 := ⟨tb_in (i := 758) (by decide +kernel) (by decide +kernel), tb_in (i := 11) (by decide +kernel) (by decide +kernel), by decide +kernel, by decide, by decide +kernel, by decide +kernel, by decide +kernel⟩
theorem I_Ex_takeNumber : Cond.instanceMethod M_Ex_takeNumber.1 ∈ tbG := tb_in (i := 757) (by decide +kernel) (by decide +kernel)
theorem V_Ex_takeNumber : MV M_Ex_takeNumber := ⟨I_Ex_takeNumber, ts_in (i := 29) (by decide +kernel) (by decide +kernel)⟩
def y_Ex_reckon : MethodName := ⟨"RescanMill$Expression", "reckon", "(I)V"⟩
abbrev M_Ex_reckon : mt_T := (y_Ex_reckon, prog_9_method_12_code, 4, none)
def L_Ex_reckon : List (Nat × Instr × Nat) := [(0, .aload_n 0, 1), (1, .getfield 71, 3), (4, .ifCond .le 168, 3), (7, .aload_n 0, 1), (8, .getfield 71, 3), (11, .aload_n 0, 1), (12, .getfield 26, 3), (15, .arraylength, 1), (16, .if_icmp .gt 156, 3), (19, .aload_n 0, 1), (20, .getfield 26, 3), (23, .aload_n 0, 1), (24, .getfield 71, 3), (27, .iconst 1, 1), (28, .isub, 1), (29, .aaload, 1), (30, .astore_n 2, 1), (31, .aload_n 2, 1), (32, .ifnull 11, 3), (35, .aload_n 2, 1), (36, .getfield 114, 3), (39, .iload_n 1, 1), (40, .if_icmp .ge 4, 3), (43, .return_, 1), (44, .aload_n 0, 1), (45, .getfield 74, 3), (48, .iconst 1, 1), (49, .if_icmp .lt 15, 3), (52, .aload_n 0, 1), (53, .getfield 74, 3), (56, .aload_n 0, 1), (57, .getfield 20, 3), (60, .arraylength, 1), (61, .if_icmp .le 4, 3), (64, .return_, 1), (65, .aload_n 0, 1), (66, .dup, 1), (67, .getfield 71, 3), (70, .iconst 1, 1), (71, .isub, 1), (72, .putfield 71, 3), (75, .aload_n 0, 1), (76, .getfield 20, 3), (79, .aload_n 0, 1), (80, .getfield 74, 3), (83, .iconst 1, 1), (84, .isub, 1), (85, .iaload, 1), (86, .istore_n 3, 1), (87, .aload_n 2, 1), (88, .invokevirtual 130, 3), (91, .ifCond .ne 32, 3), (94, .aload_n 0, 1), (95, .dup, 1), (96, .getfield 83, 3), (99, .iconst 1, 1), (100, .isub, 1), (101, .putfield 83, 3), (104, .aload_n 0, 1), (105, .getfield 20, 3), (108, .aload_n 0, 1), (109, .getfield 74, 3), (112, .iconst 1, 1), (113, .isub, 1), (114, .aload_n 2, 1), (115, .iload_n 3, 1), (116, .invokestatic 141, 3), (119, .iastore, 1), (120, .goto 49, 3), (123, .aload_n 0, 1), (124, .getfield 74, 3), (127, .iconst 1, 1), (128, .if_icmp .le 41, 3), (131, .aload_n 0, 1), (132, .dup, 1), (133, .getfield 74, 3), (136, .iconst 1, 1), (137, .isub, 1), (138, .putfield 74, 3), (141, .aload_n 0, 1), (142, .getfield 20, 3), (145, .aload_n 0, 1), (146, .getfield 74, 3), (149, .iconst 1, 1), (150, .isub, 1), (151, .aload_n 0, 1), (152, .aload_n 2, 1), (153, .aload_n 0, 1), (154, .getfield 20, 3), (157, .aload_n 0, 1), (158, .getfield 74, 3), (161, .iconst 1, 1), (162, .isub, 1), (163, .iaload, 1), (164, .iload_n 3, 1), (165, .invokevirtual 145, 3), (168, .iastore, 1), (169, .goto (-169), 3), (172, .return_, 1)]
theorem D_Ex_reckon : decAll prog_9_method_12_code L_Ex_reckon = true := by decide +kernel
theorem K_Ex_reckon : MK M_Ex_reckon 1 := ⟨tb_in (i := 762) (by decide +kernel) (by decide +kernel), tb_in (i := 11) (by decide +kernel) (by decide +kernel), by decide +kernel, by decide, by decide +kernel, by decide +kernel, by decide +kernel⟩
theorem I_Ex_reckon : Cond.instanceMethod M_Ex_reckon.1 ∈ tbG := tb_in (i := 761) (by decide +kernel) (by decide +kernel)
theorem V_Ex_reckon : MV M_Ex_reckon := ⟨I_Ex_reckon, ts_in (i := 30) (by decide +kernel) (by decide +kernel)⟩
def y_Ex_ofOne : MethodName := ⟨"RescanMill$Expression", "ofOne", "(LRescanMill$Operator;I)I"⟩
abbrev M_Ex_ofOne : mt_T := (y_Ex_ofOne, prog_9_method_13_code, 2, (some (.int)))
def L_Ex_ofOne : List (Nat × Instr × Nat) := [(0, .getstatic 149, 3), (3, .aload_n 0, 1), (4, .invokevirtual 154, 3), (7, .iaload, 1), (8, .tableswitch 45 1 3 #[28, 31, 35], 28), (36, .iload_n 1, 1), (37, .ineg, 1), (38, .ireturn, 1), (39, .iload_n 1, 1), (40, .iconst (-1), 1), (41, .ixor, 1), (42, .ireturn, 1), (43, .iload_n 1, 1), (44, .ifCond .ne 7, 3), (47, .iconst 1, 1), (48, .goto 4, 3), (51, .iconst 0, 1), (52, .ireturn, 1), (53, .iload_n 1, 1), (54, .ireturn, 1)]
theorem D_Ex_ofOne : decAll prog_9_method_13_code L_Ex_ofOne = true := by decide +kernel
theorem K_Ex_ofOne : MK M_Ex_ofOne 2 := ⟨tb_in (i := 769) (by decide +kernel) (by decide +kernel), tb_in (i := 11) (by decide +kernel) (by decide +kernel), by decide +kernel, by decide, by decide +kernel, by decide +kernel, by decide +kernel⟩
theorem S_Ex_ofOne : Cond.static M_Ex_ofOne.1 ∈ tbG := tb_in (i := 768) (by decide +kernel) (by decide +kernel)
def y_Ex_ofTwo : MethodName := ⟨"RescanMill$Expression", "ofTwo", "(LRescanMill$Operator;II)I"⟩
abbrev M_Ex_ofTwo : mt_T := (y_Ex_ofTwo, prog_9_method_14_code, 4, (some (.int)))
def L_Ex_ofTwo : List (Nat × Instr × Nat) := [(0, .getstatic 149, 3), (3, .aload_n 1, 1), (4, .invokevirtual 154, 3), (7, .iaload, 1), (8, .tableswitch 280 4 21 #[88, 102, 116, 120, 124, 128, 139, 150, 161, 172, 183, 194, 201, 208, 212, 216, 220, 250], 88), (96, .iload_n 2, 1), (97, .ifCond .ne 7, 3), (100, .iload_n 3, 1), (101, .ifCond .eq 7, 3), (104, .iconst 1, 1), (105, .goto 4, 3), (108, .iconst 0, 1), (109, .ireturn, 1), (110, .iload_n 2, 1), (111, .ifCond .eq 11, 3), (114, .iload_n 3, 1), (115, .ifCond .eq 7, 3), (118, .iconst 1, 1), (119, .goto 4, 3), (122, .iconst 0, 1), (123, .ireturn, 1), (124, .iload_n 2, 1), (125, .iload_n 3, 1), (126, .ior, 1), (127, .ireturn, 1), (128, .iload_n 2, 1), (129, .iload_n 3, 1), (130, .ixor, 1), (131, .ireturn, 1), (132, .iload_n 2, 1), (133, .iload_n 3, 1), (134, .iand, 1), (135, .ireturn, 1), (136, .iload_n 2, 1), (137, .iload_n 3, 1), (138, .if_icmp .ne 7, 3), (141, .iconst 1, 1), (142, .goto 4, 3), (145, .iconst 0, 1), (146, .ireturn, 1), (147, .iload_n 2, 1), (148, .iload_n 3, 1), (149, .if_icmp .eq 7, 3), (152, .iconst 1, 1), (153, .goto 4, 3), (156, .iconst 0, 1), (157, .ireturn, 1), (158, .iload_n 2, 1), (159, .iload_n 3, 1), (160, .if_icmp .ge 7, 3), (163, .iconst 1, 1), (164, .goto 4, 3), (167, .iconst 0, 1), (168, .ireturn, 1), (169, .iload_n 2, 1), (170, .iload_n 3, 1), (171, .if_icmp .le 7, 3), (174, .iconst 1, 1), (175, .goto 4, 3), (178, .iconst 0, 1), (179, .ireturn, 1), (180, .iload_n 2, 1), (181, .iload_n 3, 1), (182, .if_icmp .gt 7, 3), (185, .iconst 1, 1), (186, .goto 4, 3), (189, .iconst 0, 1), (190, .ireturn, 1), (191, .iload_n 2, 1), (192, .iload_n 3, 1), (193, .if_icmp .lt 7, 3), (196, .iconst 1, 1), (197, .goto 4, 3), (200, .iconst 0, 1), (201, .ireturn, 1), (202, .iload_n 2, 1), (203, .iload_n 3, 1), (204, .bipush 31, 2), (206, .iand, 1), (207, .ishl, 1), (208, .ireturn, 1), (209, .iload_n 2, 1), (210, .iload_n 3, 1), (211, .bipush 31, 2), (213, .iand, 1), (214, .ishr, 1), (215, .ireturn, 1), (216, .iload_n 2, 1), (217, .iload_n 3, 1), (218, .iadd, 1), (219, .ireturn, 1), (220, .iload_n 2, 1), (221, .iload_n 3, 1), (222, .isub, 1), (223, .ireturn, 1), (224, .iload_n 2, 1), (225, .iload_n 3, 1), (226, .imul, 1), (227, .ireturn, 1), (228, .aload_n 0, 1), (229, .dup, 1), (230, .getfield 77, 3), (233, .iload_n 3, 1), (234, .ifCond .ne 7, 3), (237, .iconst 1, 1), (238, .goto 4, 3), (241, .iconst 0, 1), (242, .ior, 1), (243, .putfield 77, 3), (246, .iload_n 3, 1), (247, .ifCond .ne 7, 3), (250, .iconst 0, 1), (251, .goto 6, 3), (254, .iload_n 2, 1), (255, .iload_n 3, 1), (256, .idiv, 1), (257, .ireturn, 1), (258, .aload_n 0, 1), (259, .dup, 1), (260, .getfield 77, 3), (263, .iload_n 3, 1), (264, .ifCond .ne 7, 3), (267, .iconst 1, 1), (268, .goto 4, 3), (271, .iconst 0, 1), (272, .ior, 1), (273, .putfield 77, 3), (276, .iload_n 3, 1), (277, .ifCond .ne 7, 3), (280, .iconst 0, 1), (281, .goto 6, 3), (284, .iload_n 2, 1), (285, .iload_n 3, 1), (286, .irem, 1), (287, .ireturn, 1), (288, .iconst 0, 1), (289, .ireturn, 1)]
theorem D_Ex_ofTwo : decAll prog_9_method_14_code L_Ex_ofTwo = true := by decide +kernel
theorem K_Ex_ofTwo : MK M_Ex_ofTwo 3 := ⟨tb_in (i := 778) (by decide +kernel) (by decide +kernel), tb_in (i := 11) (by decide +kernel) (by decide +kernel), by decide +kernel, by decide, by decide +kernel, by decide +kernel, by decide +kernel⟩
theorem I_Ex_ofTwo : Cond.instanceMethod M_Ex_ofTwo.1 ∈ tbG := tb_in (i := 777) (by decide +kernel) (by decide +kernel)
theorem V_Ex_ofTwo : MV M_Ex_ofTwo := ⟨I_Ex_ofTwo, ts_in (i := 31) (by decide +kernel) (by decide +kernel)⟩
def y_Ex_takeInFront : MethodName := ⟨"RescanMill$Expression", "takeInFront", "(I)Z"⟩
abbrev M_Ex_takeInFront : mt_T := (y_Ex_takeInFront, prog_9_method_5_code, 3, (some (.boolean)))
def L_Ex_takeInFront : List (Nat × Instr × Nat) := [(0, .aload_n 0, 1), (1, .iload_n 1, 1), (2, .invokevirtual 86, 3), (5, .astore_n 2, 1), (6, .aload_n 2, 1), (7, .ifnull 12, 3), (10, .aload_n 0, 1), (11, .getfield 83, 3), (14, .bipush 30, 2), (16, .if_icmp .lt 5, 3), (19, .iconst 0, 1), (20, .ireturn, 1), (21, .aload_n 0, 1), (22, .dup, 1), (23, .getfield 83, 3), (26, .iconst 1, 1), (27, .iadd, 1), (28, .putfield 83, 3), (31, .aload_n 0, 1), (32, .dup, 1), (33, .getfield 34, 3), (36, .iconst 1, 1), (37, .iadd, 1), (38, .putfield 34, 3), (41, .aload_n 0, 1), (42, .aload_n 2, 1), (43, .invokevirtual 90, 3), (46, .ireturn, 1)]
theorem D_Ex_takeInFront : decAll prog_9_method_5_code L_Ex_takeInFront = true := by decide +kernel
theorem K_Ex_takeInFront : MK M_Ex_takeInFront 1 := ⟨tb_in (i := 782) (by decide +kernel) (by decide +kernel), tb_in (i := 11) (by decide +kernel) (by decide +kernel), by decide +kernel, by decide, by decide +kernel, by decide +kernel, by decide +kernel⟩
theorem I_Ex_takeInFront : Cond.instanceMethod M_Ex_takeInFront.1 ∈ tbG := tb_in (i := 781) (by decide +kernel) (by decide +kernel)
theorem V_Ex_takeInFront : MV M_Ex_takeInFront := ⟨I_Ex_takeInFront, ts_in (i := 32) (by decide +kernel) (by decide +kernel)⟩
def y_Ex_inFront : MethodName := ⟨"RescanMill$Expression", "inFront", "(I)LRescanMill$Operator;"⟩
abbrev M_Ex_inFront : mt_T := (y_Ex_inFront, prog_9_method_6_code, 2, (some ((.object "RescanMill$Operator"))))
def L_Ex_inFront : List (Nat × Instr × Nat) := [(0, .iload_n 1, 1), (1, .lookupswitch 106 #[(33, 67), (40, 51), (43, 55), (45, 59), (126, 63)], 51), (52, .getstatic 94, 3), (55, .areturn, 1), (56, .getstatic 98, 3), (59, .areturn, 1), (60, .getstatic 101, 3), (63, .areturn, 1), (64, .getstatic 104, 3), (67, .areturn, 1), (68, .aload_n 0, 1), (69, .getfield 34, 3), (72, .iconst 1, 1), (73, .iadd, 1), (74, .aload_n 0, 1), (75, .getfield 38, 3), (78, .if_icmp .ge 25, 3), (81, .aload_n 0, 1), (82, .getfield 14, 3), (85, .aload_n 0, 1), (86, .getfield 34, 3), (89, .iconst 1, 1), (90, .iadd, 1), (91, .invokevirtual 41, 3), (94, .bipush 61, 2), (96, .if_icmp .ne 7, 3), (99, .aconst_null, 1), (100, .goto 6, 3), (103, .getstatic 107, 3), (106, .areturn, 1), (107, .aconst_null, 1), (108, .areturn, 1)]
theorem D_Ex_inFront : decAll prog_9_method_6_code L_Ex_inFront = true := by decide +kernel
theorem K_Ex_inFront : MK M_Ex_inFront 1 := ⟨tb_in (i := 786) (by decide +kernel) (by decide +kernel), tb_in (i := 11) (by decide +kernel) (by decide +kernel), by decide +kernel, by decide, by decide +kernel, by decide +kernel, by decide +kernel⟩
theorem I_Ex_inFront : Cond.instanceMethod M_Ex_inFront.1 ∈ tbG := tb_in (i := 785) (by decide +kernel) (by decide +kernel)
theorem V_Ex_inFront : MV M_Ex_inFront := ⟨I_Ex_inFront, ts_in (i := 33) (by decide +kernel) (by decide +kernel)⟩
def y_Ex_await : MethodName := ⟨"RescanMill$Expression", "await", "(LRescanMill$Operator;)Z"⟩
abbrev M_Ex_await : mt_T := (y_Ex_await, prog_9_method_10_code, 2, (some (.boolean)))
def L_Ex_await : List (Nat × Instr × Nat) := [(0, .aload_n 0, 1), (1, .getfield 71, 3), (4, .ifCond .lt 15, 3), (7, .aload_n 0, 1), (8, .getfield 71, 3), (11, .aload_n 0, 1), (12, .getfield 26, 3), (15, .arraylength, 1), (16, .if_icmp .lt 5, 3), (19, .iconst 0, 1), (20, .ireturn, 1), (21, .aload_n 0, 1), (22, .getfield 26, 3), (25, .aload_n 0, 1), (26, .getfield 71, 3), (29, .aload_n 1, 1), (30, .aastore, 1), (31, .aload_n 0, 1), (32, .dup, 1), (33, .getfield 71, 3), (36, .iconst 1, 1), (37, .iadd, 1), (38, .putfield 71, 3), (41, .iconst 1, 1), (42, .ireturn, 1)]
theorem D_Ex_await : decAll prog_9_method_10_code L_Ex_await = true := by decide +kernel
theorem K_Ex_await : MK M_Ex_await 1 := ⟨tb_in (i := 800) (by decide +kernel) (by decide +kernel), tb_in (i := 11) (by decide +kernel) (by decide +kernel), by decide +kernel, by decide, by decide +kernel, by decide +kernel, by decide +kernel⟩
theorem I_Ex_await : Cond.instanceMethod M_Ex_await.1 ∈ tbG := tb_in (i := 799) (by decide +kernel) (by decide +kernel)
theorem V_Ex_await : MV M_Ex_await := ⟨I_Ex_await, ts_in (i := 34) (by decide +kernel) (by decide +kernel)⟩
def y_Ex_takeClosing : MethodName := ⟨"RescanMill$Expression", "takeClosing", "()Z"⟩
abbrev M_Ex_takeClosing : mt_T := (y_Ex_takeClosing, prog_9_method_11_code, 1, (some (.boolean)))
def L_Ex_takeClosing : List (Nat × Instr × Nat) := [(0, .aload_n 0, 1), (1, .iconst 1, 1), (2, .invokevirtual 68, 3), (5, .aload_n 0, 1), (6, .getfield 71, 3), (9, .ifCond .ne 5, 3), (12, .iconst 0, 1), (13, .ireturn, 1), (14, .aload_n 0, 1), (15, .dup, 1), (16, .getfield 71, 3), (19, .iconst 1, 1), (20, .isub, 1), (21, .putfield 71, 3), (24, .aload_n 0, 1), (25, .dup, 1), (26, .getfield 83, 3), (29, .iconst 1, 1), (30, .isub, 1), (31, .putfield 83, 3), (34, .aload_n 0, 1), (35, .dup, 1), (36, .getfield 34, 3), (39, .iconst 1, 1), (40, .iadd, 1), (41, .putfield 34, 3), (44, .aload_n 0, 1), (45, .bipush 11, 2), (47, .invokevirtual 68, 3), (50, .iconst 1, 1), (51, .ireturn, 1)]
theorem D_Ex_takeClosing : decAll prog_9_method_11_code L_Ex_takeClosing = true := by decide +kernel
theorem K_Ex_takeClosing : MK M_Ex_takeClosing 0 := ⟨tb_in (i := 804) (by decide +kernel) (by decide +kernel), tb_in (i := 11) (by decide +kernel) (by decide +kernel), by decide +kernel, by decide, by decide +kernel, by decide +kernel, by decide +kernel⟩
theorem I_Ex_takeClosing : Cond.instanceMethod M_Ex_takeClosing.1 ∈ tbG := tb_in (i := 803) (by decide +kernel) (by decide +kernel)
theorem V_Ex_takeClosing : MV M_Ex_takeClosing := ⟨I_Ex_takeClosing, ts_in (i := 35) (by decide +kernel) (by decide +kernel)⟩
def y_Ex_takeBetween : MethodName := ⟨"RescanMill$Expression", "takeBetween", "()Z"⟩
abbrev M_Ex_takeBetween : mt_T := (y_Ex_takeBetween, prog_9_method_7_code, 2, (some (.boolean)))
def L_Ex_takeBetween : List (Nat × Instr × Nat) := [(0, .aload_n 0, 1), (1, .invokevirtual 110, 3), (4, .astore_n 1, 1), (5, .aload_n 1, 1), (6, .ifnonnull 5, 3), (9, .iconst 0, 1), (10, .ireturn, 1), (11, .aload_n 0, 1), (12, .aload_n 1, 1), (13, .getfield 114, 3), (16, .invokevirtual 68, 3), (19, .aload_n 0, 1), (20, .dup, 1), (21, .getfield 34, 3), (24, .aload_n 1, 1), (25, .getfield 117, 3), (28, .invokevirtual 121, 3), (31, .iadd, 1), (32, .putfield 34, 3), (35, .aload_n 0, 1), (36, .iconst 1, 1), (37, .putfield 48, 3), (40, .aload_n 0, 1), (41, .aload_n 1, 1), (42, .invokevirtual 90, 3), (45, .ireturn, 1)]
theorem D_Ex_takeBetween : decAll prog_9_method_7_code L_Ex_takeBetween = true := by decide +kernel
theorem K_Ex_takeBetween : MK M_Ex_takeBetween 0 := ⟨tb_in (i := 808) (by decide +kernel) (by decide +kernel), tb_in (i := 11) (by decide +kernel) (by decide +kernel), by decide +kernel, by decide, by decide +kernel, by decide +kernel, by decide +kernel⟩
theorem I_Ex_takeBetween : Cond.instanceMethod M_Ex_takeBetween.1 ∈ tbG := tb_in (i := 807) (by decide +kernel) (by decide +kernel)
theorem V_Ex_takeBetween : MV M_Ex_takeBetween := ⟨I_Ex_takeBetween, ts_in (i := 36) (by decide +kernel) (by decide +kernel)⟩
def y_Ex_between : MethodName := ⟨"RescanMill$Expression", "between", "()LRescanMill$Operator;"⟩
abbrev M_Ex_between : mt_T := (y_Ex_between, prog_9_method_8_code, 3, (some ((.object "RescanMill$Operator"))))
def L_Ex_between : List (Nat × Instr × Nat) := [(0, .iconst 0, 1), (1, .istore_n 1, 1), (2, .iload_n 1, 1), (3, .getstatic 127, 3), (6, .arraylength, 1), (7, .if_icmp .ge 35, 3), (10, .getstatic 127, 3), (13, .iload_n 1, 1), (14, .aaload, 1), (15, .astore_n 2, 1), (16, .aload_n 2, 1), (17, .invokevirtual 130, 3), (20, .ifCond .eq 16, 3), (23, .aload_n 0, 1), (24, .aload_n 2, 1), (25, .getfield 117, 3), (28, .invokevirtual 133, 3), (31, .ifCond .eq 5, 3), (34, .aload_n 2, 1), (35, .areturn, 1), (36, .iinc 1 1, 3), (39, .goto (-37), 3), (42, .aconst_null, 1), (43, .areturn, 1)]
theorem D_Ex_between : decAll prog_9_method_8_code L_Ex_between = true := by decide +kernel
theorem K_Ex_between : MK M_Ex_between 0 := ⟨tb_in (i := 812) (by decide +kernel) (by decide +kernel), tb_in (i := 11) (by decide +kernel) (by decide +kernel), by decide +kernel, by decide, by decide +kernel, by decide +kernel, by decide +kernel⟩
theorem I_Ex_between : Cond.instanceMethod M_Ex_between.1 ∈ tbG := tb_in (i := 811) (by decide +kernel) (by decide +kernel)
theorem V_Ex_between : MV M_Ex_between := ⟨I_Ex_between, ts_in (i := 37) (by decide +kernel) (by decide +kernel)⟩
def y_Ex_isNext : MethodName := ⟨"RescanMill$Expression", "isNext", "(Ljava/lang/String;)Z"⟩
abbrev M_Ex_isNext : mt_T := (y_Ex_isNext, prog_9_method_9_code, 3, (some (.boolean)))
def L_Ex_isNext : List (Nat × Instr × Nat) := [(0, .aload_n 1, 1), (1, .invokevirtual 121, 3), (4, .aload_n 0, 1), (5, .getfield 38, 3), (8, .aload_n 0, 1), (9, .getfield 34, 3), (12, .isub, 1), (13, .if_icmp .le 5, 3), (16, .iconst 0, 1), (17, .ireturn, 1), (18, .iconst 0, 1), (19, .istore_n 2, 1), (20, .iload_n 2, 1), (21, .aload_n 1, 1), (22, .invokevirtual 121, 3), (25, .if_icmp .ge 32, 3), (28, .aload_n 0, 1), (29, .getfield 14, 3), (32, .aload_n 0, 1), (33, .getfield 34, 3), (36, .iload_n 2, 1), (37, .iadd, 1), (38, .invokevirtual 41, 3), (41, .aload_n 1, 1), (42, .iload_n 2, 1), (43, .invokevirtual 137, 3), (46, .if_icmp .eq 5, 3), (49, .iconst 0, 1), (50, .ireturn, 1), (51, .iinc 2 1, 3), (54, .goto (-34), 3), (57, .iconst 1, 1), (58, .ireturn, 1)]
theorem D_Ex_isNext : decAll prog_9_method_9_code L_Ex_isNext = true := by decide +kernel
theorem K_Ex_isNext : MK M_Ex_isNext 1 := ⟨tb_in (i := 818) (by decide +kernel) (by decide +kernel), tb_in (i := 11) (by decide +kernel) (by decide +kernel), by decide +kernel, by decide, by decide +kernel, by decide +kernel, by decide +kernel⟩
theorem I_Ex_isNext : Cond.instanceMethod M_Ex_isNext.1 ∈ tbG := tb_in (i := 817) (by decide +kernel) (by decide +kernel)
theorem V_Ex_isNext : MV M_Ex_isNext := ⟨I_Ex_isNext, ts_in (i := 38) (by decide +kernel) (by decide +kernel)⟩
def y_Mi_addTo : MethodName := ⟨"RescanMill", "addTo", "(I)I"⟩
abbrev M_Mi_addTo : mt_T := (y_Mi_addTo, prog_1_method_27_code, 3, (some (.int)))
def L_Mi_addTo : List (Nat × Instr × Nat) := [(0, .aload_n 0, 1), (1, .iconst 0, 1), (2, .invokevirtual 361, 3), (5, .istore_n 2, 1), (6, .iload_n 2, 1), (7, .ldc_w 364, 3), (10, .if_icmp .ne 6, 3), (13, .bipush 36, 2), (15, .ireturn, 1), (16, .aload_n 0, 1), (17, .getfield 24, 3), (20, .iload_n 2, 1), (21, .iload_n 1, 1), (22, .iadd, 1), (23, .invokevirtual 276, 3), (26, .iconst 0, 1), (27, .ireturn, 1)]
theorem D_Mi_addTo : decAll prog_1_method_27_code L_Mi_addTo = true := by decide +kernel
theorem K_Mi_addTo : MK M_Mi_addTo 1 := ⟨tb_in (i := 825) (by decide +kernel) (by decide +kernel), tb_in (i := 1) (by decide +kernel) (by decide +kernel), by decide +kernel, by decide, by decide +kernel, by decide +kernel, by decide +kernel⟩
theorem I_Mi_addTo : Cond.instanceMethod M_Mi_addTo.1 ∈ tbG := tb_in (i := 824) (by decide +kernel) (by decide +kernel)
theorem V_Mi_addTo : MV M_Mi_addTo := ⟨I_Mi_addTo, ts_in (i := 39) (by decide +kernel) (by decide +kernel)⟩
def y_Mi_number : MethodName := ⟨"RescanMill", "number", "(I)I"⟩
abbrev M_Mi_number : mt_T := (y_Mi_number, prog_1_method_28_code, 7, (some (.int)))
def L_Mi_number : List (Nat × Instr × Nat) := [(0, .aload_n 0, 1), (1, .getfield 37, 3), (4, .iload_n 1, 1), (5, .invokevirtual 283, 3), (8, .istore_n 2, 1), (9, .iload_n 2, 1), (10, .aload_n 0, 1), (11, .getfield 37, 3), (14, .iload_n 1, 1), (15, .invokevirtual 286, 3), (18, .iadd, 1), (19, .istore_n 3, 1), (20, .iload_n 2, 1), (21, .iload_n 3, 1), (22, .if_icmp .ne 5, 3), (25, .iconst 0, 1), (26, .ireturn, 1), (27, .aload_n 0, 1), (28, .getfield 37, 3), (31, .getfield 219, 3), (34, .iload_n 2, 1), (35, .invokevirtual 119, 3), (38, .bipush 45, 2), (40, .if_icmp .ne 7, 3), (43, .iconst 1, 1), (44, .goto 4, 3), (47, .iconst 0, 1), (48, .istore 4, 2), (50, .iload 4, 2), (52, .ifCond .eq 6, 3), (55, .iinc 2 1, 3), (58, .iload_n 2, 1), (59, .iload_n 3, 1), (60, .if_icmp .eq 11, 3), (63, .iload_n 3, 1), (64, .iload_n 2, 1), (65, .isub, 1), (66, .bipush 9, 2), (68, .if_icmp .le 7, 3), (71, .ldc_w 364, 3), (74, .ireturn, 1), (75, .iconst 0, 1), (76, .istore 5, 2), (78, .iload_n 2, 1), (79, .iload_n 3, 1), (80, .if_icmp .ge 47, 3), (83, .aload_n 0, 1), (84, .getfield 37, 3), (87, .getfield 219, 3), (90, .iload_n 2, 1), (91, .invokevirtual 119, 3), (94, .istore 6, 2), (96, .iload 6, 2), (98, .invokestatic 267, 3), (101, .ifCond .ne 7, 3), (104, .ldc_w 364, 3), (107, .ireturn, 1), (108, .iload 5, 2), (110, .bipush 10, 2), (112, .imul, 1), (113, .iload 6, 2), (115, .bipush 48, 2), (117, .isub, 1), (118, .iadd, 1), (119, .istore 5, 2), (121, .iinc 2 1, 3), (124, .goto (-46), 3), (127, .iload 4, 2), (129, .ifCond .eq 9, 3), (132, .iload 5, 2), (134, .ineg, 1), (135, .goto 5, 3), (138, .iload 5, 2), (140, .ireturn, 1)]
theorem D_Mi_number : decAll prog_1_method_28_code L_Mi_number = true := by decide +kernel
theorem K_Mi_number : MK M_Mi_number 1 := ⟨tb_in (i := 829) (by decide +kernel) (by decide +kernel), tb_in (i := 1) (by decide +kernel) (by decide +kernel), by decide +kernel, by decide, by decide +kernel, by decide +kernel, by decide +kernel⟩
theorem I_Mi_number : Cond.instanceMethod M_Mi_number.1 ∈ tbG := tb_in (i := 828) (by decide +kernel) (by decide +kernel)
theorem V_Mi_number : MV M_Mi_number := ⟨I_Mi_number, ts_in (i := 40) (by decide +kernel) (by decide +kernel)⟩
def y_Mi_findPlace : MethodName := ⟨"RescanMill", "findPlace", "(IIII)I"⟩
abbrev M_Mi_findPlace : mt_T := (y_Mi_findPlace, prog_1_method_29_code, 7, (some (.int)))
def L_Mi_findPlace : List (Nat × Instr × Nat) := [(0, .iload 4, 2), (2, .ifCond .ne 5, 3), (5, .iconst 0, 1), (6, .ireturn, 1), (7, .iload 4, 2), (9, .iload_n 2, 1), (10, .if_icmp .gt 13, 3), (13, .iload 4, 2), (15, .aload_n 0, 1), (16, .getfield 62, 3), (19, .arraylength, 1), (20, .if_icmp .le 5, 3), (23, .iconst (-1), 1), (24, .ireturn, 1), (25, .aload_n 0, 1), (26, .iload_n 3, 1), (27, .iload 4, 2), (29, .invokevirtual 365, 3), (32, .iconst 0, 1), (33, .istore 5, 2), (35, .iconst 0, 1), (36, .istore 6, 2), (38, .iload 6, 2), (40, .iload_n 2, 1), (41, .if_icmp .ge 47, 3), (44, .aload_n 0, 1), (45, .iload_n 3, 1), (46, .iload 5, 2), (48, .aload_n 0, 1), (49, .getfield 37, 3), (52, .getfield 219, 3), (55, .iload_n 1, 1), (56, .iload 6, 2), (58, .iadd, 1), (59, .invokevirtual 119, 3), (62, .invokevirtual 369, 3), (65, .istore 5, 2), (67, .iload 5, 2), (69, .iload 4, 2), (71, .if_icmp .ne 11, 3), (74, .iload 6, 2), (76, .iconst 1, 1), (77, .iadd, 1), (78, .iload 4, 2), (80, .isub, 1), (81, .ireturn, 1), (82, .iinc 6 1, 3), (85, .goto (-47), 3), (88, .iconst (-1), 1), (89, .ireturn, 1)]
theorem D_Mi_findPlace : decAll prog_1_method_29_code L_Mi_findPlace = true := by decide +kernel
theorem K_Mi_findPlace : MK M_Mi_findPlace 4 := ⟨tb_in (i := 834) (by decide +kernel) (by decide +kernel), tb_in (i := 1) (by decide +kernel) (by decide +kernel), by decide +kernel, by decide, by decide +kernel, by decide +kernel, by decide +kernel⟩
theorem I_Mi_findPlace : Cond.instanceMethod M_Mi_findPlace.1 ∈ tbG := tb_in (i := 833) (by decide +kernel) (by decide +kernel)
theorem V_Mi_findPlace : MV M_Mi_findPlace := ⟨I_Mi_findPlace, ts_in (i := 41) (by decide +kernel) (by decide +kernel)⟩
def y_Mi_fillFallBack : MethodName := ⟨"RescanMill", "fillFallBack", "(II)V"⟩
abbrev M_Mi_fillFallBack : mt_T := (y_Mi_fillFallBack, prog_1_method_30_code, 5, none)
def L_Mi_fillFallBack : List (Nat × Instr × Nat) := [(0, .aload_n 0, 1), (1, .getfield 62, 3), (4, .iconst 0, 1), (5, .iconst 0, 1), (6, .iastore, 1), (7, .iconst 0, 1), (8, .istore_n 3, 1), (9, .iconst 1, 1), (10, .istore 4, 2), (12, .iload 4, 2), (14, .iload_n 2, 1), (15, .if_icmp .ge 48, 3), (18, .iload 4, 2), (20, .aload_n 0, 1), (21, .getfield 62, 3), (24, .arraylength, 1), (25, .if_icmp .ge 38, 3), (28, .aload_n 0, 1), (29, .iload_n 1, 1), (30, .iload_n 3, 1), (31, .aload_n 0, 1), (32, .getfield 37, 3), (35, .getfield 219, 3), (38, .iload_n 1, 1), (39, .iload 4, 2), (41, .iadd, 1), (42, .invokevirtual 119, 3), (45, .invokevirtual 369, 3), (48, .istore_n 3, 1), (49, .aload_n 0, 1), (50, .getfield 62, 3), (53, .iload 4, 2), (55, .iload_n 3, 1), (56, .iastore, 1), (57, .iinc 4 1, 3), (60, .goto (-48), 3), (63, .return_, 1)]
theorem D_Mi_fillFallBack : decAll prog_1_method_30_code L_Mi_fillFallBack = true := by decide +kernel
theorem K_Mi_fillFallBack : MK M_Mi_fillFallBack 2 := ⟨tb_in (i := 838) (by decide +kernel) (by decide +kernel), tb_in (i := 1) (by decide +kernel) (by decide +kernel), by decide +kernel, by decide, by decide +kernel, by decide +kernel, by decide +kernel⟩
theorem I_Mi_fillFallBack : Cond.instanceMethod M_Mi_fillFallBack.1 ∈ tbG := tb_in (i := 837) (by decide +kernel) (by decide +kernel)
theorem V_Mi_fillFallBack : MV M_Mi_fillFallBack := ⟨I_Mi_fillFallBack, ts_in (i := 42) (by decide +kernel) (by decide +kernel)⟩
def y_Mi_extend : MethodName := ⟨"RescanMill", "extend", "(III)I"⟩
abbrev M_Mi_extend : mt_T := (y_Mi_extend, prog_1_method_31_code, 5, (some (.int)))
def L_Mi_extend : List (Nat × Instr × Nat) := [(0, .iload_n 2, 1), (1, .istore 4, 2), (3, .iload 4, 2), (5, .ifCond .le 52, 3), (8, .iload 4, 2), (10, .aload_n 0, 1), (11, .getfield 62, 3), (14, .arraylength, 1), (15, .if_icmp .gt 42, 3), (18, .aload_n 0, 1), (19, .getfield 37, 3), (22, .getfield 219, 3), (25, .iload_n 1, 1), (26, .iload 4, 2), (28, .iadd, 1), (29, .invokevirtual 119, 3), (32, .iload_n 3, 1), (33, .if_icmp .eq 24, 3), (36, .aload_n 0, 1), (37, .getfield 62, 3), (40, .iload 4, 2), (42, .iconst 1, 1), (43, .isub, 1), (44, .iaload, 1), (45, .iload 4, 2), (47, .iconst 1, 1), (48, .isub, 1), (49, .invokestatic 373, 3), (52, .istore 4, 2), (54, .goto (-51), 3), (57, .aload_n 0, 1), (58, .getfield 37, 3), (61, .getfield 219, 3), (64, .iload_n 1, 1), (65, .iload 4, 2), (67, .iadd, 1), (68, .invokevirtual 119, 3), (71, .iload_n 3, 1), (72, .if_icmp .ne 10, 3), (75, .iload 4, 2), (77, .iconst 1, 1), (78, .iadd, 1), (79, .goto 5, 3), (82, .iload 4, 2), (84, .ireturn, 1)]
theorem D_Mi_extend : decAll prog_1_method_31_code L_Mi_extend = true := by decide +kernel
theorem K_Mi_extend : MK M_Mi_extend 3 := ⟨tb_in (i := 842) (by decide +kernel) (by decide +kernel), tb_in (i := 1) (by decide +kernel) (by decide +kernel), by decide +kernel, by decide, by decide +kernel, by decide +kernel, by decide +kernel⟩
theorem I_Mi_extend : Cond.instanceMethod M_Mi_extend.1 ∈ tbG := tb_in (i := 841) (by decide +kernel) (by decide +kernel)
theorem V_Mi_extend : MV M_Mi_extend := ⟨I_Mi_extend, ts_in (i := 43) (by decide +kernel) (by decide +kernel)⟩
def y_Mi_cutOut : MethodName := ⟨"RescanMill", "cutOut", "()I"⟩
abbrev M_Mi_cutOut : mt_T := (y_Mi_cutOut, prog_1_method_32_code, 4, (some (.int)))
def L_Mi_cutOut : List (Nat × Instr × Nat) := [(0, .aload_n 0, 1), (1, .iconst 1, 1), (2, .invokevirtual 361, 3), (5, .istore_n 1, 1), (6, .aload_n 0, 1), (7, .getfield 37, 3), (10, .invokevirtual 273, 3), (13, .iconst 2, 1), (14, .if_icmp .le 11, 3), (17, .aload_n 0, 1), (18, .iconst 2, 1), (19, .invokevirtual 361, 3), (22, .goto 6, 3), (25, .sipush 16384, 3), (28, .istore_n 2, 1), (29, .iload_n 1, 1), (30, .ldc_w 364, 3), (33, .if_icmp .eq 10, 3), (36, .iload_n 2, 1), (37, .ldc_w 364, 3), (40, .if_icmp .ne 6, 3), (43, .bipush 36, 2), (45, .ireturn, 1), (46, .aload_n 0, 1), (47, .getfield 37, 3), (50, .iconst 0, 1), (51, .invokevirtual 286, 3), (54, .istore_n 3, 1), (55, .iload_n 1, 1), (56, .ifCond .lt 43, 3), (59, .iload_n 1, 1), (60, .iload_n 3, 1), (61, .if_icmp .ge 38, 3), (64, .iload_n 2, 1), (65, .ifCond .le 34, 3), (68, .aload_n 0, 1), (69, .getfield 24, 3), (72, .aload_n 0, 1), (73, .getfield 37, 3), (76, .getfield 219, 3), (79, .aload_n 0, 1), (80, .getfield 37, 3), (83, .iconst 0, 1), (84, .invokevirtual 283, 3), (87, .iload_n 1, 1), (88, .iadd, 1), (89, .iload_n 2, 1), (90, .iload_n 3, 1), (91, .iload_n 1, 1), (92, .isub, 1), (93, .invokestatic 373, 3), (96, .invokevirtual 73, 3), (99, .iconst 0, 1), (100, .ireturn, 1)]
theorem D_Mi_cutOut : decAll prog_1_method_32_code L_Mi_cutOut = true := by decide +kernel
theorem K_Mi_cutOut : MK M_Mi_cutOut 0 := ⟨tb_in (i := 849) (by decide +kernel) (by decide +kernel), tb_in (i := 1) (by decide +kernel) (by decide +kernel), by decide +kernel, by decide, by decide +kernel, by decide +kernel, by decide +kernel⟩
theorem I_Mi_cutOut : Cond.instanceMethod M_Mi_cutOut.1 ∈ tbG := tb_in (i := 848) (by decide +kernel) (by decide +kernel)
theorem V_Mi_cutOut : MV M_Mi_cutOut := ⟨I_Mi_cutOut, ts_in (i := 44) (by decide +kernel) (by decide +kernel)⟩
def y_Mi_divert : MethodName := ⟨"RescanMill", "divert", "()I"⟩
abbrev M_Mi_divert : mt_T := (y_Mi_divert, prog_1_method_33_code, 2, (some (.int)))
def L_Mi_divert : List (Nat × Instr × Nat) := [(0, .aload_n 0, 1), (1, .iconst 0, 1), (2, .invokevirtual 361, 3), (5, .istore_n 1, 1), (6, .iload_n 1, 1), (7, .ldc_w 364, 3), (10, .if_icmp .eq 9, 3), (13, .iload_n 1, 1), (14, .bipush 10, 2), (16, .if_icmp .lt 6, 3), (19, .bipush 36, 2), (21, .ireturn, 1), (22, .aload_n 0, 1), (23, .getfield 51, 3), (26, .iload_n 1, 1), (27, .ifCond .ge 7, 3), (30, .iconst (-1), 1), (31, .goto 4, 3), (34, .iload_n 1, 1), (35, .putfield 379, 3), (38, .iconst 0, 1), (39, .ireturn, 1)]
theorem D_Mi_divert : decAll prog_1_method_33_code L_Mi_divert = true := by decide +kernel
theorem K_Mi_divert : MK M_Mi_divert 0 := ⟨tb_in (i := 857) (by decide +kernel) (by decide +kernel), tb_in (i := 1) (by decide +kernel) (by decide +kernel), by decide +kernel, by decide, by decide +kernel, by decide +kernel, by decide +kernel⟩
theorem I_Mi_divert : Cond.instanceMethod M_Mi_divert.1 ∈ tbG := tb_in (i := 856) (by decide +kernel) (by decide +kernel)
theorem V_Mi_divert : MV M_Mi_divert := ⟨I_Mi_divert, ts_in (i := 45) (by decide +kernel) (by decide +kernel)⟩
def y_Mi_undivert : MethodName := ⟨"RescanMill", "undivert", "()I"⟩
abbrev M_Mi_undivert : mt_T := (y_Mi_undivert, prog_1_method_34_code, 4, (some (.int)))
def L_Mi_undivert : List (Nat × Instr × Nat) := [(0, .aload_n 0, 1), (1, .getfield 37, 3), (4, .invokevirtual 273, 3), (7, .istore_n 1, 1), (8, .iload_n 1, 1), (9, .ifCond .eq 19, 3), (12, .iload_n 1, 1), (13, .iconst 1, 1), (14, .if_icmp .ne 38, 3), (17, .aload_n 0, 1), (18, .getfield 37, 3), (21, .iconst 0, 1), (22, .invokevirtual 286, 3), (25, .ifCond .ne 27, 3), (28, .iconst 1, 1), (29, .istore_n 2, 1), (30, .iload_n 2, 1), (31, .bipush 10, 2), (33, .if_icmp .ge 17, 3), (36, .aload_n 0, 1), (37, .getfield 51, 3), (40, .iload_n 2, 1), (41, .invokevirtual 382, 3), (44, .iinc 2 1, 3), (47, .goto (-17), 3), (50, .iconst 0, 1), (51, .ireturn, 1), (52, .iconst 0, 1), (53, .istore_n 2, 1), (54, .iload_n 2, 1), (55, .iload_n 1, 1), (56, .if_icmp .ge 33, 3), (59, .aload_n 0, 1), (60, .iload_n 2, 1), (61, .invokevirtual 361, 3), (64, .istore_n 3, 1), (65, .iload_n 3, 1), (66, .ldc_w 364, 3), (69, .if_icmp .ne 6, 3), (72, .bipush 36, 2), (74, .ireturn, 1), (75, .aload_n 0, 1), (76, .getfield 51, 3), (79, .iload_n 3, 1), (80, .invokevirtual 382, 3), (83, .iinc 2 1, 3), (86, .goto (-32), 3), (89, .iconst 0, 1), (90, .ireturn, 1)]
theorem D_Mi_undivert : decAll prog_1_method_34_code L_Mi_undivert = true := by decide +kernel
theorem K_Mi_undivert : MK M_Mi_undivert 0 := ⟨tb_in (i := 861) (by decide +kernel) (by decide +kernel), tb_in (i := 1) (by decide +kernel) (by decide +kernel), by decide +kernel, by decide, by decide +kernel, by decide +kernel, by decide +kernel⟩
theorem I_Mi_undivert : Cond.instanceMethod M_Mi_undivert.1 ∈ tbG := tb_in (i := 860) (by decide +kernel) (by decide +kernel)
theorem V_Mi_undivert : MV M_Mi_undivert := ⟨I_Mi_undivert, ts_in (i := 46) (by decide +kernel) (by decide +kernel)⟩
def y_Di_bring : MethodName := ⟨"RescanMill$Diversions", "bring", "(I)V"⟩
abbrev M_Di_bring : mt_T := (y_Di_bring, prog_8_method_4_code, 2, none)
def L_Di_bring : List (Nat × Instr × Nat) := [(0, .iload_n 1, 1), (1, .iconst 1, 1), (2, .if_icmp .lt 20, 3), (5, .iload_n 1, 1), (6, .aload_n 0, 1), (7, .getfield 23, 3), (10, .arraylength, 1), (11, .if_icmp .ge 11, 3), (14, .iload_n 1, 1), (15, .aload_n 0, 1), (16, .getfield 34, 3), (19, .if_icmp .ne 4, 3), (22, .return_, 1), (23, .aload_n 0, 1), (24, .getfield 34, 3), (27, .ifCond .lt 15, 3), (30, .aload_n 0, 1), (31, .getfield 34, 3), (34, .aload_n 0, 1), (35, .getfield 23, 3), (38, .arraylength, 1), (39, .if_icmp .lt 19, 3), (42, .aload_n 0, 1), (43, .getfield 15, 3), (46, .aload_n 0, 1), (47, .getfield 23, 3), (50, .iload_n 1, 1), (51, .aaload, 1), (52, .invokevirtual 47, 3), (55, .goto 25, 3), (58, .aload_n 0, 1), (59, .getfield 15, 3), (62, .aload_n 0, 1), (63, .getfield 23, 3), (66, .aload_n 0, 1), (67, .getfield 34, 3), (70, .aaload, 1), (71, .aload_n 0, 1), (72, .getfield 23, 3), (75, .iload_n 1, 1), (76, .aaload, 1), (77, .invokevirtual 51, 3), (80, .return_, 1)]
theorem D_Di_bring : decAll prog_8_method_4_code L_Di_bring = true := by decide +kernel
theorem K_Di_bring : MK M_Di_bring 1 := ⟨tb_in (i := 865) (by decide +kernel) (by decide +kernel), tb_in (i := 10) (by decide +kernel) (by decide +kernel), by decide +kernel, by decide, by decide +kernel, by decide +kernel, by decide +kernel⟩
theorem I_Di_bring : Cond.instanceMethod M_Di_bring.1 ∈ tbG := tb_in (i := 863) (by decide +kernel) (by decide +kernel)
theorem V_Di_bring : MV M_Di_bring := ⟨I_Di_bring, tb_in (i := 864) (by decide +kernel) (by decide +kernel)⟩
def y_Mi_changeQuotes : MethodName := ⟨"RescanMill", "changeQuotes", "()I"⟩
abbrev M_Mi_changeQuotes : mt_T := (y_Mi_changeQuotes, prog_1_method_35_code, 1, (some (.int)))
def L_Mi_changeQuotes : List (Nat × Instr × Nat) := [(0, .aload_n 0, 1), (1, .getfield 37, 3), (4, .invokevirtual 273, 3), (7, .ifCond .ne 12, 3), (10, .aload_n 0, 1), (11, .getfield 30, 3), (14, .invokevirtual 385, 3), (17, .iconst 0, 1), (18, .ireturn, 1), (19, .aload_n 0, 1), (20, .aload_n 0, 1), (21, .getfield 37, 3), (24, .iconst 0, 1), (25, .invokevirtual 283, 3), (28, .aload_n 0, 1), (29, .getfield 37, 3), (32, .iconst 0, 1), (33, .invokevirtual 286, 3), (36, .invokevirtual 388, 3), (39, .ifCond .eq 26, 3), (42, .aload_n 0, 1), (43, .aload_n 0, 1), (44, .getfield 37, 3), (47, .iconst 1, 1), (48, .invokevirtual 283, 3), (51, .aload_n 0, 1), (52, .getfield 37, 3), (55, .iconst 1, 1), (56, .invokevirtual 286, 3), (59, .invokevirtual 388, 3), (62, .ifCond .ne 6, 3), (65, .bipush 37, 2), (67, .ireturn, 1), (68, .aload_n 0, 1), (69, .getfield 30, 3), (72, .getfield 289, 3), (75, .iconst 0, 1), (76, .invokevirtual 77, 3), (79, .aload_n 0, 1), (80, .getfield 30, 3), (83, .getfield 289, 3), (86, .aload_n 0, 1), (87, .getfield 37, 3), (90, .getfield 219, 3), (93, .aload_n 0, 1), (94, .getfield 37, 3), (97, .iconst 0, 1), (98, .invokevirtual 283, 3), (101, .aload_n 0, 1), (102, .getfield 37, 3), (105, .iconst 0, 1), (106, .invokevirtual 286, 3), (109, .invokevirtual 73, 3), (112, .aload_n 0, 1), (113, .getfield 30, 3), (116, .getfield 292, 3), (119, .iconst 0, 1), (120, .invokevirtual 77, 3), (123, .aload_n 0, 1), (124, .getfield 30, 3), (127, .getfield 292, 3), (130, .aload_n 0, 1), (131, .getfield 37, 3), (134, .getfield 219, 3), (137, .aload_n 0, 1), (138, .getfield 37, 3), (141, .iconst 1, 1), (142, .invokevirtual 283, 3), (145, .aload_n 0, 1), (146, .getfield 37, 3), (149, .iconst 1, 1), (150, .invokevirtual 286, 3), (153, .invokevirtual 73, 3), (156, .iconst 0, 1), (157, .ireturn, 1)]
theorem D_Mi_changeQuotes : decAll prog_1_method_35_code L_Mi_changeQuotes = true := by decide +kernel
theorem K_Mi_changeQuotes : MK M_Mi_changeQuotes 0 := ⟨tb_in (i := 874) (by decide +kernel) (by decide +kernel), tb_in (i := 1) (by decide +kernel) (by decide +kernel), by decide +kernel, by decide, by decide +kernel, by decide +kernel, by decide +kernel⟩
theorem I_Mi_changeQuotes : Cond.instanceMethod M_Mi_changeQuotes.1 ∈ tbG := tb_in (i := 873) (by decide +kernel) (by decide +kernel)
theorem V_Mi_changeQuotes : MV M_Mi_changeQuotes := ⟨I_Mi_changeQuotes, ts_in (i := 47) (by decide +kernel) (by decide +kernel)⟩
def y_Mi_isQuote : MethodName := ⟨"RescanMill", "isQuote", "(II)Z"⟩
abbrev M_Mi_isQuote : mt_T := (y_Mi_isQuote, prog_1_method_36_code, 5, (some (.boolean)))
def L_Mi_isQuote : List (Nat × Instr × Nat) := [(0, .iload_n 2, 1), (1, .iconst 1, 1), (2, .if_icmp .lt 8, 3), (5, .iload_n 2, 1), (6, .iconst 4, 1), (7, .if_icmp .le 5, 3), (10, .iconst 0, 1), (11, .ireturn, 1), (12, .iconst 0, 1), (13, .istore_n 3, 1), (14, .iload_n 3, 1), (15, .iload_n 2, 1), (16, .if_icmp .ge 70, 3), (19, .aload_n 0, 1), (20, .getfield 37, 3), (23, .getfield 219, 3), (26, .iload_n 1, 1), (27, .iload_n 3, 1), (28, .iadd, 1), (29, .invokevirtual 119, 3), (32, .istore 4, 2), (34, .iload 4, 2), (36, .invokestatic 352, 3), (39, .ifCond .ne 39, 3), (42, .iload 4, 2), (44, .invokestatic 203, 3), (47, .ifCond .ne 31, 3), (50, .iload 4, 2), (52, .bipush 35, 2), (54, .if_icmp .eq 24, 3), (57, .iload 4, 2), (59, .bipush 40, 2), (61, .if_icmp .eq 17, 3), (64, .iload 4, 2), (66, .bipush 41, 2), (68, .if_icmp .eq 10, 3), (71, .iload 4, 2), (73, .bipush 44, 2), (75, .if_icmp .ne 5, 3), (78, .iconst 0, 1), (79, .ireturn, 1), (80, .iinc 3 1, 3), (83, .goto (-69), 3), (86, .iconst 1, 1), (87, .ireturn, 1)]
theorem D_Mi_isQuote : decAll prog_1_method_36_code L_Mi_isQuote = true := by decide +kernel
theorem K_Mi_isQuote : MK M_Mi_isQuote 2 := ⟨tb_in (i := 879) (by decide +kernel) (by decide +kernel), tb_in (i := 1) (by decide +kernel) (by decide +kernel), by decide +kernel, by decide, by decide +kernel, by decide +kernel, by decide +kernel⟩
theorem I_Mi_isQuote : Cond.instanceMethod M_Mi_isQuote.1 ∈ tbG := tb_in (i := 878) (by decide +kernel) (by decide +kernel)
theorem V_Mi_isQuote : MV M_Mi_isQuote := ⟨I_Mi_isQuote, ts_in (i := 48) (by decide +kernel) (by decide +kernel)⟩
def y_Mi_finish : MethodName := ⟨"RescanMill", "finish", "(I)V"⟩
abbrev M_Mi_finish : mt_T := (y_Mi_finish, prog_1_method_10_code, 2, none)
def L_Mi_finish : List (Nat × Instr × Nat) := [(0, .iload_n 1, 1), (1, .ifCond .ne 22, 3), (4, .aload_n 0, 1), (5, .iconst 0, 1), (6, .putfield 107, 3), (9, .aload_n 0, 1), (10, .getfield 51, 3), (13, .aload_n 0, 1), (14, .getfield 21, 3), (17, .invokevirtual 150, 3), (20, .goto 30, 3), (23, .aload_n 0, 1), (24, .iload_n 1, 1), (25, .bipush 32, 2), (27, .if_icmp .ne 13, 3), (30, .aload_n 0, 1), (31, .getfield 30, 3), (34, .getfield 154, 3), (37, .goto 10, 3), (40, .aload_n 0, 1), (41, .getfield 30, 3), (44, .invokevirtual 157, 3), (47, .putfield 107, 3), (50, .return_, 1)]
theorem D_Mi_finish : decAll prog_1_method_10_code L_Mi_finish = true := by decide +kernel
theorem K_Mi_finish : MK M_Mi_finish 1 := ⟨tb_in (i := 892) (by decide +kernel) (by decide +kernel), tb_in (i := 1) (by decide +kernel) (by decide +kernel), by decide +kernel, by decide, by decide +kernel, by decide +kernel, by decide +kernel⟩
theorem I_Mi_finish : Cond.instanceMethod M_Mi_finish.1 ∈ tbG := tb_in (i := 891) (by decide +kernel) (by decide +kernel)
theorem V_Mi_finish : MV M_Mi_finish := ⟨I_Mi_finish, ts_in (i := 49) (by decide +kernel) (by decide +kernel)⟩
def y_Di_gather : MethodName := ⟨"RescanMill$Diversions", "gather", "(LRescanMill$Bytes;)V"⟩
abbrev M_Di_gather : mt_T := (y_Di_gather, prog_8_method_5_code, 5, none)
def L_Di_gather : List (Nat × Instr × Nat) := [(0, .iconst 0, 1), (1, .istore_n 2, 1), (2, .iload_n 2, 1), (3, .aload_n 0, 1), (4, .getfield 23, 3), (7, .arraylength, 1), (8, .if_icmp .ge 63, 3), (11, .aload_n 0, 1), (12, .getfield 23, 3), (15, .iload_n 2, 1), (16, .aaload, 1), (17, .getfield 55, 3), (20, .istore_n 3, 1), (21, .iconst 0, 1), (22, .istore 4, 2), (24, .iload 4, 2), (26, .aload_n 0, 1), (27, .getfield 23, 3), (30, .iload_n 2, 1), (31, .aaload, 1), (32, .getfield 58, 3), (35, .if_icmp .ge 30, 3), (38, .aload_n 1, 1), (39, .aload_n 0, 1), (40, .getfield 15, 3), (43, .iload_n 3, 1), (44, .invokevirtual 59, 3), (47, .invokevirtual 63, 3), (50, .aload_n 0, 1), (51, .getfield 15, 3), (54, .iload_n 3, 1), (55, .invokevirtual 65, 3), (58, .istore_n 3, 1), (59, .iinc 4 1, 3), (62, .goto (-38), 3), (65, .iinc 2 1, 3), (68, .goto (-66), 3), (71, .return_, 1)]
theorem D_Di_gather : decAll prog_8_method_5_code L_Di_gather = true := by decide +kernel
theorem K_Di_gather : MK M_Di_gather 1 := ⟨tb_in (i := 896) (by decide +kernel) (by decide +kernel), tb_in (i := 10) (by decide +kernel) (by decide +kernel), by decide +kernel, by decide, by decide +kernel, by decide +kernel, by decide +kernel⟩
theorem I_Di_gather : Cond.instanceMethod M_Di_gather.1 ∈ tbG := tb_in (i := 894) (by decide +kernel) (by decide +kernel)
theorem V_Di_gather : MV M_Di_gather := ⟨I_Di_gather, tb_in (i := 895) (by decide +kernel) (by decide +kernel)⟩
def y_Mi_told : MethodName := ⟨"RescanMill", "told", "(I)I"⟩
abbrev M_Mi_told : mt_T := (y_Mi_told, prog_1_method_6_code, 2, (some (.int)))
def L_Mi_told : List (Nat × Instr × Nat) := [(0, .iload_n 1, 1), (1, .tableswitch 60 0 3 #[31, 36, 44, 52], 31), (32, .aload_n 0, 1), (33, .getfield 107, 3), (36, .ireturn, 1), (37, .aload_n 0, 1), (38, .getfield 30, 3), (41, .getfield 110, 3), (44, .ireturn, 1), (45, .aload_n 0, 1), (46, .getfield 44, 3), (49, .getfield 113, 3), (52, .ireturn, 1), (53, .aload_n 0, 1), (54, .getfield 44, 3), (57, .getfield 116, 3), (60, .ireturn, 1), (61, .iconst (-1), 1), (62, .ireturn, 1)]
theorem D_Mi_told : decAll prog_1_method_6_code L_Mi_told = true := by decide +kernel
theorem K_Mi_told : MK M_Mi_told 1 := ⟨tb_in (i := 904) (by decide +kernel) (by decide +kernel), tb_in (i := 1) (by decide +kernel) (by decide +kernel), by decide +kernel, by decide, by decide +kernel, by decide +kernel, by decide +kernel⟩
theorem I_Mi_told : Cond.instanceMethod M_Mi_told.1 ∈ tbG := tb_in (i := 902) (by decide +kernel) (by decide +kernel)
theorem V_Mi_told : MV M_Mi_told := ⟨I_Mi_told, tb_in (i := 903) (by decide +kernel) (by decide +kernel)⟩
def y_Mi_size : MethodName := ⟨"RescanMill", "size", "()I"⟩
abbrev M_Mi_size : mt_T := (y_Mi_size, prog_1_method_7_code, 1, (some (.int)))
def L_Mi_size : List (Nat × Instr × Nat) := [(0, .aload_n 0, 1), (1, .getfield 21, 3), (4, .getfield 66, 3), (7, .ireturn, 1)]
theorem D_Mi_size : decAll prog_1_method_7_code L_Mi_size = true := by decide +kernel
theorem K_Mi_size : MK M_Mi_size 0 := ⟨tb_in (i := 908) (by decide +kernel) (by decide +kernel), tb_in (i := 1) (by decide +kernel) (by decide +kernel), by decide +kernel, by decide, by decide +kernel, by decide +kernel, by decide +kernel⟩
theorem I_Mi_size : Cond.instanceMethod M_Mi_size.1 ∈ tbG := tb_in (i := 906) (by decide +kernel) (by decide +kernel)
theorem V_Mi_size : MV M_Mi_size := ⟨I_Mi_size, tb_in (i := 907) (by decide +kernel) (by decide +kernel)⟩
def y_Mi_word : MethodName := ⟨"RescanMill", "word", "(I)J"⟩
abbrev M_Mi_word : mt_T := (y_Mi_word, prog_1_method_8_code, 6, (some (.long)))
def L_Mi_word : List (Nat × Instr × Nat) := [(0, .iload_n 1, 1), (1, .ifCond .lt 10, 3), (4, .iload_n 1, 1), (5, .sipush 4096, 3), (8, .if_icmp .le 5, 3), (11, .lconst 0, 1), (12, .lreturn, 1), (13, .lconst 0, 1), (14, .lstore_n 2, 1), (15, .iconst 0, 1), (16, .istore 4, 2), (18, .iload 4, 2), (20, .bipush 8, 2), (22, .if_icmp .ge 42, 3), (25, .aload_n 0, 1), (26, .getfield 21, 3), (29, .bipush 8, 2), (31, .iload_n 1, 1), (32, .imul, 1), (33, .iload 4, 2), (35, .iadd, 1), (36, .invokevirtual 119, 3), (39, .istore 5, 2), (41, .iload 5, 2), (43, .ifCond .le 15, 3), (46, .lload_n 2, 1), (47, .iload 5, 2), (49, .i2l, 1), (50, .bipush 8, 2), (52, .iload 4, 2), (54, .imul, 1), (55, .lshl, 1), (56, .lor, 1), (57, .lstore_n 2, 1), (58, .iinc 4 1, 3), (61, .goto (-43), 3), (64, .lload_n 2, 1), (65, .lreturn, 1)]
theorem D_Mi_word : decAll prog_1_method_8_code L_Mi_word = true := by decide +kernel
theorem K_Mi_word : MK M_Mi_word 1 := ⟨tb_in (i := 912) (by decide +kernel) (by decide +kernel), tb_in (i := 1) (by decide +kernel) (by decide +kernel), by decide +kernel, by decide, by decide +kernel, by decide +kernel, by decide +kernel⟩
theorem I_Mi_word : Cond.instanceMethod M_Mi_word.1 ∈ tbG := tb_in (i := 910) (by decide +kernel) (by decide +kernel)
theorem V_Mi_word : MV M_Mi_word := ⟨I_Mi_word, tb_in (i := 911) (by decide +kernel) (by decide +kernel)⟩
end
section
def y_Rf_init : MethodName := ⟨"RescanMillModel", "<init>", "()V"⟩
abbrev M_Rf_init : mt_T := (y_Rf_init, prog_15_method_1_code, 1, none)
def L_Rf_init : List (Nat × Instr × Nat) := [(0, .aload_n 0, 1), (1, .invokespecial 1, 3), (4, .aload_n 0, 1), (5, .ldc 9, 2), (7, .newarray .byte, 2), (9, .putfield 10, 3), (12, .aload_n 0, 1), (13, .ldc 9, 2), (15, .newarray .byte, 2), (17, .putfield 14, 3), (20, .aload_n 0, 1), (21, .ldc 9, 2), (23, .newarray .byte, 2), (25, .putfield 17, 3), (28, .aload_n 0, 1), (29, .iconst 4, 1), (30, .newarray .int, 2), (32, .putfield 20, 3), (35, .aload_n 0, 1), (36, .iconst 4, 1), (37, .newarray .int, 2), (39, .putfield 24, 3), (42, .aload_n 0, 1), (43, .ldc 9, 2), (45, .newarray .byte, 2), (47, .putfield 27, 3), (50, .aload_n 0, 1), (51, .ldc 30, 2), (53, .newarray .byte, 2), (55, .putfield 31, 3), (58, .aload_n 0, 1), (59, .sipush 340, 3), (62, .newarray .int, 2), (64, .putfield 34, 3), (67, .aload_n 0, 1), (68, .sipush 340, 3), (71, .newarray .int, 2), (73, .putfield 37, 3), (76, .aload_n 0, 1), (77, .sipush 340, 3), (80, .newarray .int, 2), (82, .putfield 40, 3), (85, .aload_n 0, 1), (86, .sipush 340, 3), (89, .newarray .int, 2), (91, .putfield 43, 3), (94, .aload_n 0, 1), (95, .sipush 16684, 3), (98, .newarray .byte, 2), (100, .putfield 46, 3), (103, .aload_n 0, 1), (104, .ldc 49, 2), (106, .newarray .byte, 2), (108, .putfield 50, 3), (111, .aload_n 0, 1), (112, .bipush 10, 2), (114, .newarray .int, 2), (116, .putfield 53, 3), (119, .aload_n 0, 1), (120, .sipush 16385, 3), (123, .newarray .byte, 2), (125, .putfield 56, 3), (128, .aload_n 0, 1), (129, .sipush 8300, 3), (132, .newarray .int, 2), (134, .putfield 59, 3), (137, .aload_n 0, 1), (138, .sipush 400, 3), (141, .newarray .int, 2), (143, .putfield 62, 3), (146, .aload_n 0, 1), (147, .sipush 400, 3), (150, .newarray .int, 2), (152, .putfield 65, 3), (155, .return_, 1)]
theorem D_Rf_init : decAll prog_15_method_1_code L_Rf_init = true := by decide +kernel
theorem K_Rf_init : MK M_Rf_init 0 := ⟨tb_in (i := 917) (by decide +kernel) (by decide +kernel), tb_in (i := 12) (by decide +kernel) (by decide +kernel), by decide +kernel, by decide, by decide +kernel, by decide +kernel, by decide +kernel⟩
theorem I_Rf_init : Cond.instanceMethod M_Rf_init.1 ∈ tbG := tb_in (i := 916) (by decide +kernel) (by decide +kernel)
def y_Rf_feed : MethodName := ⟨"RescanMillModel", "feed", "(JI)I"⟩
abbrev M_Rf_feed : mt_T := (y_Rf_feed, prog_15_method_2_code, 5, (some (.int)))
def L_Rf_feed : List (Nat × Instr × Nat) := [(0, .iload_n 3, 1), (1, .iconst 1, 1), (2, .if_icmp .lt 9, 3), (5, .iload_n 3, 1), (6, .bipush 8, 2), (8, .if_icmp .le 5, 3), (11, .iconst (-1), 1), (12, .ireturn, 1), (13, .aload_n 0, 1), (14, .getfield 68, 3), (17, .iload_n 3, 1), (18, .iadd, 1), (19, .ldc 9, 2), (21, .if_icmp .le 6, 3), (24, .bipush (-3), 2), (26, .ireturn, 1), (27, .iconst 0, 1), (28, .istore 4, 2), (30, .iload 4, 2), (32, .iload_n 3, 1), (33, .if_icmp .ge 37, 3), (36, .aload_n 0, 1), (37, .getfield 10, 3), (40, .aload_n 0, 1), (41, .getfield 68, 3), (44, .lload_n 1, 1), (45, .bipush 8, 2), (47, .iload 4, 2), (49, .imul, 1), (50, .lshr, 1), (51, .l2i, 1), (52, .i2b, 1), (53, .bastore, 1), (54, .aload_n 0, 1), (55, .dup, 1), (56, .getfield 68, 3), (59, .iconst 1, 1), (60, .iadd, 1), (61, .putfield 68, 3), (64, .iinc 4 1, 3), (67, .goto (-37), 3), (70, .aload_n 0, 1), (71, .getfield 68, 3), (74, .ireturn, 1)]
theorem D_Rf_feed : decAll prog_15_method_2_code L_Rf_feed = true := by decide +kernel
theorem K_Rf_feed : MK M_Rf_feed 2 := ⟨tb_in (i := 1067) (by decide +kernel) (by decide +kernel), tb_in (i := 12) (by decide +kernel) (by decide +kernel), by decide +kernel, by decide, by decide +kernel, by decide +kernel, by decide +kernel⟩
theorem I_Rf_feed : Cond.instanceMethod M_Rf_feed.1 ∈ tbG := tb_in (i := 1065) (by decide +kernel) (by decide +kernel)
theorem V_Rf_feed : MV M_Rf_feed := ⟨I_Rf_feed, tb_in (i := 1066) (by decide +kernel) (by decide +kernel)⟩
def y_Rf_again : MethodName := ⟨"RescanMillModel", "again", "(II)I"⟩
abbrev M_Rf_again : mt_T := (y_Rf_again, prog_15_method_3_code, 4, (some (.int)))
def L_Rf_again : List (Nat × Instr × Nat) := [(0, .iload_n 1, 1), (1, .ifCond .lt 18, 3), (4, .iload_n 2, 1), (5, .iconst 1, 1), (6, .if_icmp .lt 13, 3), (9, .iload_n 2, 1), (10, .aload_n 0, 1), (11, .getfield 68, 3), (14, .iload_n 1, 1), (15, .isub, 1), (16, .if_icmp .le 5, 3), (19, .iconst (-1), 1), (20, .ireturn, 1), (21, .aload_n 0, 1), (22, .getfield 68, 3), (25, .iload_n 2, 1), (26, .iadd, 1), (27, .ldc 9, 2), (29, .if_icmp .le 6, 3), (32, .bipush (-3), 2), (34, .ireturn, 1), (35, .iconst 0, 1), (36, .istore_n 3, 1), (37, .iload_n 3, 1), (38, .iload_n 2, 1), (39, .if_icmp .ge 28, 3), (42, .aload_n 0, 1), (43, .getfield 10, 3), (46, .aload_n 0, 1), (47, .getfield 68, 3), (50, .iload_n 3, 1), (51, .iadd, 1), (52, .aload_n 0, 1), (53, .getfield 10, 3), (56, .iload_n 1, 1), (57, .iload_n 3, 1), (58, .iadd, 1), (59, .baload, 1), (60, .bastore, 1), (61, .iinc 3 1, 3), (64, .goto (-27), 3), (67, .aload_n 0, 1), (68, .aload_n 0, 1), (69, .getfield 68, 3), (72, .iload_n 2, 1), (73, .iadd, 1), (74, .putfield 68, 3), (77, .aload_n 0, 1), (78, .getfield 68, 3), (81, .ireturn, 1)]
theorem D_Rf_again : decAll prog_15_method_3_code L_Rf_again = true := by decide +kernel
theorem K_Rf_again : MK M_Rf_again 2 := ⟨tb_in (i := 1071) (by decide +kernel) (by decide +kernel), tb_in (i := 12) (by decide +kernel) (by decide +kernel), by decide +kernel, by decide, by decide +kernel, by decide +kernel, by decide +kernel⟩
theorem I_Rf_again : Cond.instanceMethod M_Rf_again.1 ∈ tbG := tb_in (i := 1069) (by decide +kernel) (by decide +kernel)
theorem V_Rf_again : MV M_Rf_again := ⟨I_Rf_again, tb_in (i := 1070) (by decide +kernel) (by decide +kernel)⟩
def y_Rf_clear : MethodName := ⟨"RescanMillModel", "clear", "()I"⟩
abbrev M_Rf_clear : mt_T := (y_Rf_clear, prog_15_method_4_code, 2, (some (.int)))
def L_Rf_clear : List (Nat × Instr × Nat) := [(0, .aload_n 0, 1), (1, .getfield 68, 3), (4, .istore_n 1, 1), (5, .aload_n 0, 1), (6, .iconst 0, 1), (7, .putfield 68, 3), (10, .iload_n 1, 1), (11, .ireturn, 1)]
theorem D_Rf_clear : decAll prog_15_method_4_code L_Rf_clear = true := by decide +kernel
theorem K_Rf_clear : MK M_Rf_clear 0 := ⟨tb_in (i := 1075) (by decide +kernel) (by decide +kernel), tb_in (i := 12) (by decide +kernel) (by decide +kernel), by decide +kernel, by decide, by decide +kernel, by decide +kernel, by decide +kernel⟩
theorem I_Rf_clear : Cond.instanceMethod M_Rf_clear.1 ∈ tbG := tb_in (i := 1073) (by decide +kernel) (by decide +kernel)
theorem V_Rf_clear : MV M_Rf_clear := ⟨I_Rf_clear, tb_in (i := 1074) (by decide +kernel) (by decide +kernel)⟩
def y_Rf_run : MethodName := ⟨"RescanMillModel", "run", "(I)I"⟩
abbrev M_Rf_run : mt_T := (y_Rf_run, prog_15_method_60_code, 4, (some (.int)))
def L_Rf_run : List (Nat × Instr × Nat) := [(0, .iload_n 1, 1), (1, .iconst 1, 1), (2, .if_icmp .lt 10, 3), (5, .iload_n 1, 1), (6, .ldc_w 381, 3), (9, .if_icmp .le 5, 3), (12, .iconst (-1), 1), (13, .ireturn, 1), (14, .aload_n 0, 1), (15, .iconst 0, 1), (16, .putfield 72, 3), (19, .aload_n 0, 1), (20, .iconst 0, 1), (21, .putfield 75, 3), (24, .aload_n 0, 1), (25, .iconst 0, 1), (26, .putfield 88, 3), (29, .aload_n 0, 1), (30, .iconst 0, 1), (31, .putfield 382, 3), (34, .aload_n 0, 1), (35, .iconst 1, 1), (36, .putfield 94, 3), (39, .aload_n 0, 1), (40, .iload_n 1, 1), (41, .putfield 81, 3), (44, .aload_n 0, 1), (45, .aload_n 0, 1), (46, .getfield 68, 3), (49, .putfield 91, 3), (52, .aload_n 0, 1), (53, .ldc 9, 2), (55, .aload_n 0, 1), (56, .getfield 91, 3), (59, .isub, 1), (60, .putfield 78, 3), (63, .iconst 0, 1), (64, .istore_n 2, 1), (65, .iload_n 2, 1), (66, .aload_n 0, 1), (67, .getfield 91, 3), (70, .if_icmp .ge 26, 3), (73, .aload_n 0, 1), (74, .getfield 17, 3), (77, .aload_n 0, 1), (78, .getfield 78, 3), (81, .iload_n 2, 1), (82, .iadd, 1), (83, .aload_n 0, 1), (84, .getfield 10, 3), (87, .iload_n 2, 1), (88, .baload, 1), (89, .bastore, 1), (90, .iinc 2 1, 3), (93, .goto (-28), 3), (96, .aload_n 0, 1), (97, .iconst 1, 1), (98, .putfield 112, 3), (101, .aload_n 0, 1), (102, .getfield 20, 3), (105, .iconst 0, 1), (106, .bipush 96, 2), (108, .iastore, 1), (109, .aload_n 0, 1), (110, .iconst 1, 1), (111, .putfield 119, 3), (114, .aload_n 0, 1), (115, .getfield 24, 3), (118, .iconst 0, 1), (119, .bipush 39, 2), (121, .iastore, 1), (122, .aload_n 0, 1), (123, .invokevirtual 385, 3), (126, .aload_n 0, 1), (127, .iconst 0, 1), (128, .putfield 220, 3), (131, .aload_n 0, 1), (132, .iconst 0, 1), (133, .putfield 217, 3), (136, .iconst 0, 1), (137, .istore_n 2, 1), (138, .iload_n 2, 1), (139, .bipush 10, 2), (141, .if_icmp .ge 16, 3), (144, .aload_n 0, 1), (145, .getfield 53, 3), (148, .iload_n 2, 1), (149, .iconst 0, 1), (150, .iastore, 1), (151, .iinc 2 1, 3), (154, .goto (-16), 3), (157, .aload_n 0, 1), (158, .iconst 0, 1), (159, .putfield 240, 3), (162, .aload_n 0, 1), (163, .iconst 0, 1), (164, .putfield 226, 3), (167, .aload_n 0, 1), (168, .iconst 0, 1), (169, .putfield 243, 3), (172, .aload_n 0, 1), (173, .iconst 0, 1), (174, .putfield 139, 3), (177, .aload_n 0, 1), (178, .invokevirtual 256, 3), (181, .aload_n 0, 1), (182, .getfield 126, 3), (185, .ifCond .le 29, 3), (188, .aload_n 0, 1), (189, .getfield 72, 3), (192, .ifCond .ne 22, 3), (195, .aload_n 0, 1), (196, .iconst 0, 1), (197, .invokevirtual 265, 3), (200, .aload_n 0, 1), (201, .getfield 72, 3), (204, .ifCond .ne (-23), 3), (207, .aload_n 0, 1), (208, .invokevirtual 256, 3), (211, .goto (-30), 3), (214, .iconst 0, 1), (215, .istore_n 2, 1), (216, .iload_n 2, 1), (217, .bipush 10, 2), (219, .if_icmp .ge 64, 3), (222, .aload_n 0, 1), (223, .getfield 72, 3), (226, .ifCond .ne 57, 3), (229, .iconst 0, 1), (230, .istore_n 3, 1), (231, .iload_n 3, 1), (232, .aload_n 0, 1), (233, .getfield 53, 3), (236, .iload_n 2, 1), (237, .iaload, 1), (238, .if_icmp .ge 39, 3), (241, .aload_n 0, 1), (242, .getfield 14, 3), (245, .aload_n 0, 1), (246, .getfield 382, 3), (249, .aload_n 0, 1), (250, .getfield 50, 3), (253, .ldc 9, 2), (255, .iload_n 2, 1), (256, .imul, 1), (257, .iload_n 3, 1), (258, .iadd, 1), (259, .baload, 1), (260, .bastore, 1), (261, .aload_n 0, 1), (262, .dup, 1), (263, .getfield 382, 3), (266, .iconst 1, 1), (267, .iadd, 1), (268, .putfield 382, 3), (271, .iinc 3 1, 3), (274, .goto (-43), 3), (277, .iinc 2 1, 3), (280, .goto (-64), 3), (283, .aload_n 0, 1), (284, .getfield 72, 3), (287, .ireturn, 1)]
theorem D_Rf_run : decAll prog_15_method_60_code L_Rf_run = true := by decide +kernel
theorem K_Rf_run : MK M_Rf_run 1 := ⟨tb_in (i := 1079) (by decide +kernel) (by decide +kernel), tb_in (i := 12) (by decide +kernel) (by decide +kernel), by decide +kernel, by decide, by decide +kernel, by decide +kernel, by decide +kernel⟩
theorem I_Rf_run : Cond.instanceMethod M_Rf_run.1 ∈ tbG := tb_in (i := 1077) (by decide +kernel) (by decide +kernel)
theorem V_Rf_run : MV M_Rf_run := ⟨I_Rf_run, tb_in (i := 1078) (by decide +kernel) (by decide +kernel)⟩
def y_Rf_beginMeanings : MethodName := ⟨"RescanMillModel", "beginMeanings", "()V"⟩
abbrev M_Rf_beginMeanings : mt_T := (y_Rf_beginMeanings, prog_15_method_21_code, 4, none)
def L_Rf_beginMeanings : List (Nat × Instr × Nat) := [(0, .aload_n 0, 1), (1, .iconst 0, 1), (2, .putfield 188, 3), (5, .aload_n 0, 1), (6, .iconst 0, 1), (7, .putfield 191, 3), (10, .aload_n 0, 1), (11, .iconst 0, 1), (12, .putfield 194, 3), (15, .aload_n 0, 1), (16, .iconst 0, 1), (17, .putfield 197, 3), (20, .iconst 1, 1), (21, .istore_n 1, 1), (22, .iload_n 1, 1), (23, .bipush 17, 2), (25, .if_icmp .gt 111, 3), (28, .iload_n 1, 1), (29, .invokestatic 200, 3), (32, .astore_n 2, 1), (33, .aload_n 0, 1), (34, .getfield 34, 3), (37, .aload_n 0, 1), (38, .getfield 188, 3), (41, .aload_n 0, 1), (42, .getfield 191, 3), (45, .iastore, 1), (46, .aload_n 0, 1), (47, .getfield 37, 3), (50, .aload_n 0, 1), (51, .getfield 188, 3), (54, .aload_n 2, 1), (55, .invokevirtual 204, 3), (58, .iastore, 1), (59, .aload_n 0, 1), (60, .getfield 40, 3), (63, .aload_n 0, 1), (64, .getfield 188, 3), (67, .iconst 0, 1), (68, .iastore, 1), (69, .aload_n 0, 1), (70, .getfield 43, 3), (73, .aload_n 0, 1), (74, .getfield 188, 3), (77, .iload_n 1, 1), (78, .iastore, 1), (79, .iconst 0, 1), (80, .istore_n 3, 1), (81, .iload_n 3, 1), (82, .aload_n 2, 1), (83, .invokevirtual 204, 3), (86, .if_icmp .ge 34, 3), (89, .aload_n 0, 1), (90, .getfield 46, 3), (93, .aload_n 0, 1), (94, .getfield 191, 3), (97, .aload_n 2, 1), (98, .iload_n 3, 1), (99, .invokevirtual 209, 3), (102, .i2b, 1), (103, .bastore, 1), (104, .aload_n 0, 1), (105, .dup, 1), (106, .getfield 191, 3), (109, .iconst 1, 1), (110, .iadd, 1), (111, .putfield 191, 3), (114, .iinc 3 1, 3), (117, .goto (-36), 3), (120, .aload_n 0, 1), (121, .dup, 1), (122, .getfield 188, 3), (125, .iconst 1, 1), (126, .iadd, 1), (127, .putfield 188, 3), (130, .iinc 1 1, 3), (133, .goto (-111), 3), (136, .return_, 1)]
theorem D_Rf_beginMeanings : decAll prog_15_method_21_code L_Rf_beginMeanings = true := by decide +kernel
theorem K_Rf_beginMeanings : MK M_Rf_beginMeanings 0 := ⟨tb_in (i := 1084) (by decide +kernel) (by decide +kernel), tb_in (i := 12) (by decide +kernel) (by decide +kernel), by decide +kernel, by decide, by decide +kernel, by decide +kernel, by decide +kernel⟩
theorem I_Rf_beginMeanings : Cond.instanceMethod M_Rf_beginMeanings.1 ∈ tbG := tb_in (i := 1083) (by decide +kernel) (by decide +kernel)
theorem V_Rf_beginMeanings : MV M_Rf_beginMeanings := ⟨I_Rf_beginMeanings, ts_in (i := 50) (by decide +kernel) (by decide +kernel)⟩
def y_Rf_nameOf : MethodName := ⟨"RescanMillModel", "nameOf", "(I)Ljava/lang/String;"⟩
abbrev M_Rf_nameOf : mt_T := (y_Rf_nameOf, prog_15_method_20_code, 1, (some ((.object "java/lang/String"))))
def L_Rf_nameOf : List (Nat × Instr × Nat) := [(0, .iload_n 0, 1), (1, .tableswitch 127 1 16 #[79, 82, 85, 88, 91, 94, 97, 100, 103, 106, 109, 112, 115, 118, 121, 124], 79), (80, .ldc 154, 2), (82, .areturn, 1), (83, .ldc 156, 2), (85, .areturn, 1), (86, .ldc 158, 2), (88, .areturn, 1), (89, .ldc 160, 2), (91, .areturn, 1), (92, .ldc 162, 2), (94, .areturn, 1), (95, .ldc 164, 2), (97, .areturn, 1), (98, .ldc 166, 2), (100, .areturn, 1), (101, .ldc 168, 2), (103, .areturn, 1), (104, .ldc 170, 2), (106, .areturn, 1), (107, .ldc 172, 2), (109, .areturn, 1), (110, .ldc 174, 2), (112, .areturn, 1), (113, .ldc 176, 2), (115, .areturn, 1), (116, .ldc 178, 2), (118, .areturn, 1), (119, .ldc 180, 2), (121, .areturn, 1), (122, .ldc 182, 2), (124, .areturn, 1), (125, .ldc 184, 2), (127, .areturn, 1), (128, .ldc 186, 2), (130, .areturn, 1)]
theorem D_Rf_nameOf : decAll prog_15_method_20_code L_Rf_nameOf = true := by decide +kernel
theorem K_Rf_nameOf : MK M_Rf_nameOf 1 := ⟨tb_in (i := 1087) (by decide +kernel) (by decide +kernel), tb_in (i := 12) (by decide +kernel) (by decide +kernel), by decide +kernel, by decide, by decide +kernel, by decide +kernel, by decide +kernel⟩
theorem S_Rf_nameOf : Cond.static M_Rf_nameOf.1 ∈ tbG := tb_in (i := 1086) (by decide +kernel) (by decide +kernel)
def y_Rf_readToken : MethodName := ⟨"RescanMillModel", "readToken", "()V"⟩
abbrev M_Rf_readToken : mt_T := (y_Rf_readToken, prog_15_method_16_code, 2, none)
def L_Rf_readToken : List (Nat × Instr × Nat) := [(0, .aload_n 0, 1), (1, .iconst 0, 1), (2, .putfield 109, 3), (5, .aload_n 0, 1), (6, .iconst 0, 1), (7, .putfield 126, 3), (10, .aload_n 0, 1), (11, .iconst 0, 1), (12, .invokevirtual 101, 3), (15, .ifCond .ge 4, 3), (18, .return_, 1), (19, .aload_n 0, 1), (20, .aload_n 0, 1), (21, .getfield 20, 3), (24, .aload_n 0, 1), (25, .getfield 112, 3), (28, .invokevirtual 122, 3), (31, .ifCond .eq 15, 3), (34, .aload_n 0, 1), (35, .iconst 1, 1), (36, .putfield 126, 3), (39, .aload_n 0, 1), (40, .invokevirtual 129, 3), (43, .goto 132, 3), (46, .aload_n 0, 1), (47, .iconst 0, 1), (48, .invokevirtual 101, 3), (51, .bipush 35, 2), (53, .if_icmp .ne 57, 3), (56, .aload_n 0, 1), (57, .iconst 2, 1), (58, .putfield 126, 3), (61, .iconst 1, 1), (62, .istore_n 1, 1), (63, .iload_n 1, 1), (64, .ifCond .eq 43, 3), (67, .aload_n 0, 1), (68, .iconst 0, 1), (69, .invokevirtual 101, 3), (72, .ifCond .lt 35, 3), (75, .aload_n 0, 1), (76, .getfield 72, 3), (79, .ifCond .ne 28, 3), (82, .aload_n 0, 1), (83, .iconst 0, 1), (84, .invokevirtual 101, 3), (87, .bipush 10, 2), (89, .if_icmp .eq 7, 3), (92, .iconst 1, 1), (93, .goto 4, 3), (96, .iconst 0, 1), (97, .istore_n 1, 1), (98, .aload_n 0, 1), (99, .iconst 1, 1), (100, .iconst 1, 1), (101, .invokevirtual 115, 3), (104, .goto (-41), 3), (107, .goto 68, 3), (110, .aload_n 0, 1), (111, .iconst 0, 1), (112, .invokevirtual 101, 3), (115, .invokestatic 132, 3), (118, .ifCond .eq 46, 3), (121, .aload_n 0, 1), (122, .iconst 3, 1), (123, .putfield 126, 3), (126, .aload_n 0, 1), (127, .iconst 0, 1), (128, .invokevirtual 101, 3), (131, .invokestatic 132, 3), (134, .ifCond .ne 14, 3), (137, .aload_n 0, 1), (138, .iconst 0, 1), (139, .invokevirtual 101, 3), (142, .invokestatic 136, 3), (145, .ifCond .eq 30, 3), (148, .aload_n 0, 1), (149, .getfield 72, 3), (152, .ifCond .ne 23, 3), (155, .aload_n 0, 1), (156, .iconst 1, 1), (157, .iconst 1, 1), (158, .invokevirtual 115, 3), (161, .goto (-35), 3), (164, .aload_n 0, 1), (165, .iconst 4, 1), (166, .putfield 126, 3), (169, .aload_n 0, 1), (170, .iconst 1, 1), (171, .iconst 1, 1), (172, .invokevirtual 115, 3), (175, .return_, 1)]
theorem D_Rf_readToken : decAll prog_15_method_16_code L_Rf_readToken = true := by decide +kernel
theorem K_Rf_readToken : MK M_Rf_readToken 0 := ⟨tb_in (i := 1110) (by decide +kernel) (by decide +kernel), tb_in (i := 12) (by decide +kernel) (by decide +kernel), by decide +kernel, by decide, by decide +kernel, by decide +kernel, by decide +kernel⟩
theorem I_Rf_readToken : Cond.instanceMethod M_Rf_readToken.1 ∈ tbG := tb_in (i := 1109) (by decide +kernel) (by decide +kernel)
theorem V_Rf_readToken : MV M_Rf_readToken := ⟨I_Rf_readToken, ts_in (i := 51) (by decide +kernel) (by decide +kernel)⟩
def y_Rf_peek : MethodName := ⟨"RescanMillModel", "peek", "(I)I"⟩
abbrev M_Rf_peek : mt_T := (y_Rf_peek, prog_15_method_10_code, 2, (some (.int)))
def L_Rf_peek : List (Nat × Instr × Nat) := [(0, .aload_n 0, 1), (1, .getfield 78, 3), (4, .iload_n 1, 1), (5, .iadd, 1), (6, .ldc 9, 2), (8, .if_icmp .ge 21, 3), (11, .aload_n 0, 1), (12, .getfield 17, 3), (15, .aload_n 0, 1), (16, .getfield 78, 3), (19, .iload_n 1, 1), (20, .iadd, 1), (21, .baload, 1), (22, .sipush 255, 3), (25, .iand, 1), (26, .goto 4, 3), (29, .iconst (-1), 1), (30, .ireturn, 1)]
theorem D_Rf_peek : decAll prog_15_method_10_code L_Rf_peek = true := by decide +kernel
theorem K_Rf_peek : MK M_Rf_peek 1 := ⟨tb_in (i := 1114) (by decide +kernel) (by decide +kernel), tb_in (i := 12) (by decide +kernel) (by decide +kernel), by decide +kernel, by decide, by decide +kernel, by decide +kernel, by decide +kernel⟩
theorem I_Rf_peek : Cond.instanceMethod M_Rf_peek.1 ∈ tbG := tb_in (i := 1113) (by decide +kernel) (by decide +kernel)
theorem V_Rf_peek : MV M_Rf_peek := ⟨I_Rf_peek, ts_in (i := 52) (by decide +kernel) (by decide +kernel)⟩
def y_Rf_isAhead : MethodName := ⟨"RescanMillModel", "isAhead", "([II)Z"⟩
abbrev M_Rf_isAhead : mt_T := (y_Rf_isAhead, prog_15_method_13_code, 5, (some (.boolean)))
def L_Rf_isAhead : List (Nat × Instr × Nat) := [(0, .iload_n 2, 1), (1, .ifCond .le 7, 3), (4, .iconst 1, 1), (5, .goto 4, 3), (8, .iconst 0, 1), (9, .istore_n 3, 1), (10, .iconst 0, 1), (11, .istore 4, 2), (13, .iload 4, 2), (15, .iload_n 2, 1), (16, .if_icmp .ge 32, 3), (19, .iload_n 3, 1), (20, .ifCond .eq 28, 3), (23, .aload_n 0, 1), (24, .iload 4, 2), (26, .invokevirtual 101, 3), (29, .aload_n 1, 1), (30, .iload 4, 2), (32, .iaload, 1), (33, .if_icmp .ne 7, 3), (36, .iconst 1, 1), (37, .goto 4, 3), (40, .iconst 0, 1), (41, .istore_n 3, 1), (42, .iinc 4 1, 3), (45, .goto (-32), 3), (48, .iload_n 3, 1), (49, .ireturn, 1)]
theorem D_Rf_isAhead : decAll prog_15_method_13_code L_Rf_isAhead = true := by decide +kernel
theorem K_Rf_isAhead : MK M_Rf_isAhead 2 := ⟨tb_in (i := 1118) (by decide +kernel) (by decide +kernel), tb_in (i := 12) (by decide +kernel) (by decide +kernel), by decide +kernel, by decide, by decide +kernel, by decide +kernel, by decide +kernel⟩
theorem I_Rf_isAhead : Cond.instanceMethod M_Rf_isAhead.1 ∈ tbG := tb_in (i := 1117) (by decide +kernel) (by decide +kernel)
theorem V_Rf_isAhead : MV M_Rf_isAhead := ⟨I_Rf_isAhead, ts_in (i := 53) (by decide +kernel) (by decide +kernel)⟩
def y_Rf_readQuoted : MethodName := ⟨"RescanMillModel", "readQuoted", "()V"⟩
abbrev M_Rf_readQuoted : mt_T := (y_Rf_readQuoted, prog_15_method_15_code, 3, none)
def L_Rf_readQuoted : List (Nat × Instr × Nat) := [(0, .aload_n 0, 1), (1, .getfield 94, 3), (4, .istore_n 1, 1), (5, .aload_n 0, 1), (6, .aload_n 0, 1), (7, .getfield 112, 3), (10, .iconst 0, 1), (11, .invokevirtual 115, 3), (14, .iconst 1, 1), (15, .istore_n 2, 1), (16, .iload_n 2, 1), (17, .ifCond .le 105, 3), (20, .aload_n 0, 1), (21, .getfield 72, 3), (24, .ifCond .ne 98, 3), (27, .aload_n 0, 1), (28, .iconst 0, 1), (29, .invokevirtual 101, 3), (32, .ifCond .ge 13, 3), (35, .aload_n 0, 1), (36, .bipush 32, 2), (38, .iload_n 1, 1), (39, .invokevirtual 97, 3), (42, .goto (-26), 3), (45, .aload_n 0, 1), (46, .aload_n 0, 1), (47, .getfield 24, 3), (50, .aload_n 0, 1), (51, .getfield 119, 3), (54, .invokevirtual 122, 3), (57, .ifCond .eq 26, 3), (60, .iinc 2 (-1), 3), (63, .aload_n 0, 1), (64, .aload_n 0, 1), (65, .getfield 119, 3), (68, .iload_n 2, 1), (69, .ifCond .le 7, 3), (72, .iconst 1, 1), (73, .goto 4, 3), (76, .iconst 0, 1), (77, .invokevirtual 115, 3), (80, .goto (-64), 3), (83, .aload_n 0, 1), (84, .aload_n 0, 1), (85, .getfield 20, 3), (88, .aload_n 0, 1), (89, .getfield 112, 3), (92, .invokevirtual 122, 3), (95, .ifCond .eq 18, 3), (98, .iinc 2 1, 3), (101, .aload_n 0, 1), (102, .aload_n 0, 1), (103, .getfield 112, 3), (106, .iconst 1, 1), (107, .invokevirtual 115, 3), (110, .goto (-94), 3), (113, .aload_n 0, 1), (114, .iconst 1, 1), (115, .iconst 1, 1), (116, .invokevirtual 115, 3), (119, .goto (-103), 3), (122, .return_, 1)]
theorem D_Rf_readQuoted : decAll prog_15_method_15_code L_Rf_readQuoted = true := by decide +kernel
theorem K_Rf_readQuoted : MK M_Rf_readQuoted 0 := ⟨tb_in (i := 1122) (by decide +kernel) (by decide +kernel), tb_in (i := 12) (by decide +kernel) (by decide +kernel), by decide +kernel, by decide, by decide +kernel, by decide +kernel, by decide +kernel⟩
theorem I_Rf_readQuoted : Cond.instanceMethod M_Rf_readQuoted.1 ∈ tbG := tb_in (i := 1121) (by decide +kernel) (by decide +kernel)
theorem V_Rf_readQuoted : MV M_Rf_readQuoted := ⟨I_Rf_readQuoted, ts_in (i := 54) (by decide +kernel) (by decide +kernel)⟩
def y_Rf_pass : MethodName := ⟨"RescanMillModel", "pass", "(IZ)V"⟩
abbrev M_Rf_pass : mt_T := (y_Rf_pass, prog_15_method_14_code, 5, none)
def L_Rf_pass : List (Nat × Instr × Nat) := [(0, .iconst 0, 1), (1, .istore_n 3, 1), (2, .iload_n 3, 1), (3, .iload_n 1, 1), (4, .if_icmp .ge 55, 3), (7, .aload_n 0, 1), (8, .getfield 72, 3), (11, .ifCond .ne 48, 3), (14, .aload_n 0, 1), (15, .invokevirtual 105, 3), (18, .istore 4, 2), (20, .iload_n 2, 1), (21, .ifCond .eq 32, 3), (24, .aload_n 0, 1), (25, .getfield 72, 3), (28, .ifCond .ne 25, 3), (31, .aload_n 0, 1), (32, .getfield 27, 3), (35, .aload_n 0, 1), (36, .getfield 109, 3), (39, .iload 4, 2), (41, .i2b, 1), (42, .bastore, 1), (43, .aload_n 0, 1), (44, .dup, 1), (45, .getfield 109, 3), (48, .iconst 1, 1), (49, .iadd, 1), (50, .putfield 109, 3), (53, .iinc 3 1, 3), (56, .goto (-54), 3), (59, .return_, 1)]
theorem D_Rf_pass : decAll prog_15_method_14_code L_Rf_pass = true := by decide +kernel
theorem K_Rf_pass : MK M_Rf_pass 2 := ⟨tb_in (i := 1126) (by decide +kernel) (by decide +kernel), tb_in (i := 12) (by decide +kernel) (by decide +kernel), by decide +kernel, by decide, by decide +kernel, by decide +kernel, by decide +kernel⟩
theorem I_Rf_pass : Cond.instanceMethod M_Rf_pass.1 ∈ tbG := tb_in (i := 1125) (by decide +kernel) (by decide +kernel)
theorem V_Rf_pass : MV M_Rf_pass := ⟨I_Rf_pass, ts_in (i := 55) (by decide +kernel) (by decide +kernel)⟩
def y_Rf_take : MethodName := ⟨"RescanMillModel", "take", "()I"⟩
abbrev M_Rf_take : mt_T := (y_Rf_take, prog_15_method_11_code, 2, (some (.int)))
def L_Rf_take : List (Nat × Instr × Nat) := [(0, .aload_n 0, 1), (1, .getfield 81, 3), (4, .ifCond .ne 11, 3), (7, .aload_n 0, 1), (8, .bipush 31, 2), (10, .invokevirtual 84, 3), (13, .iconst (-1), 1), (14, .ireturn, 1), (15, .aload_n 0, 1), (16, .dup, 1), (17, .getfield 81, 3), (20, .iconst 1, 1), (21, .isub, 1), (22, .putfield 81, 3), (25, .aload_n 0, 1), (26, .dup, 1), (27, .getfield 88, 3), (30, .iconst 1, 1), (31, .iadd, 1), (32, .putfield 88, 3), (35, .aload_n 0, 1), (36, .getfield 17, 3), (39, .aload_n 0, 1), (40, .getfield 78, 3), (43, .baload, 1), (44, .sipush 255, 3), (47, .iand, 1), (48, .istore_n 1, 1), (49, .ldc 9, 2), (51, .aload_n 0, 1), (52, .getfield 78, 3), (55, .isub, 1), (56, .aload_n 0, 1), (57, .getfield 91, 3), (60, .if_icmp .gt 36, 3), (63, .aload_n 0, 1), (64, .dup, 1), (65, .getfield 91, 3), (68, .iconst 1, 1), (69, .isub, 1), (70, .putfield 91, 3), (73, .aload_n 0, 1), (74, .iload_n 1, 1), (75, .bipush 10, 2), (77, .if_icmp .ne 12, 3), (80, .aload_n 0, 1), (81, .getfield 94, 3), (84, .iconst 1, 1), (85, .iadd, 1), (86, .goto 7, 3), (89, .aload_n 0, 1), (90, .getfield 94, 3), (93, .putfield 94, 3), (96, .aload_n 0, 1), (97, .dup, 1), (98, .getfield 78, 3), (101, .iconst 1, 1), (102, .iadd, 1), (103, .putfield 78, 3), (106, .iload_n 1, 1), (107, .ireturn, 1)]
theorem D_Rf_take : decAll prog_15_method_11_code L_Rf_take = true := by decide +kernel
theorem K_Rf_take : MK M_Rf_take 0 := ⟨tb_in (i := 1130) (by decide +kernel) (by decide +kernel), tb_in (i := 12) (by decide +kernel) (by decide +kernel), by decide +kernel, by decide, by decide +kernel, by decide +kernel, by decide +kernel⟩
theorem I_Rf_take : Cond.instanceMethod M_Rf_take.1 ∈ tbG := tb_in (i := 1129) (by decide +kernel) (by decide +kernel)
theorem V_Rf_take : MV M_Rf_take := ⟨I_Rf_take, ts_in (i := 56) (by decide +kernel) (by decide +kernel)⟩
def y_Rf_fail1 : MethodName := ⟨"RescanMillModel", "fail1", "(I)V"⟩
abbrev M_Rf_fail1 : mt_T := (y_Rf_fail1, prog_15_method_12_code, 2, none)
def L_Rf_fail1 : List (Nat × Instr × Nat) := [(0, .aload_n 0, 1), (1, .iload_n 1, 1), (2, .aload_n 0, 1), (3, .getfield 94, 3), (6, .invokevirtual 97, 3), (9, .return_, 1)]
theorem D_Rf_fail1 : decAll prog_15_method_12_code L_Rf_fail1 = true := by decide +kernel
theorem K_Rf_fail1 : MK M_Rf_fail1 1 := ⟨tb_in (i := 1134) (by decide +kernel) (by decide +kernel), tb_in (i := 12) (by decide +kernel) (by decide +kernel), by decide +kernel, by decide, by decide +kernel, by decide +kernel, by decide +kernel⟩
theorem I_Rf_fail1 : Cond.instanceMethod M_Rf_fail1.1 ∈ tbG := tb_in (i := 1133) (by decide +kernel) (by decide +kernel)
theorem V_Rf_fail1 : MV M_Rf_fail1 := ⟨I_Rf_fail1, ts_in (i := 57) (by decide +kernel) (by decide +kernel)⟩
def y_Rf_fail : MethodName := ⟨"RescanMillModel", "fail", "(II)V"⟩
abbrev M_Rf_fail : mt_T := (y_Rf_fail, prog_15_method_8_code, 3, none)
def L_Rf_fail : List (Nat × Instr × Nat) := [(0, .aload_n 0, 1), (1, .getfield 72, 3), (4, .ifCond .ne 13, 3), (7, .aload_n 0, 1), (8, .iload_n 1, 1), (9, .putfield 72, 3), (12, .aload_n 0, 1), (13, .iload_n 2, 1), (14, .putfield 75, 3), (17, .return_, 1)]
theorem D_Rf_fail : decAll prog_15_method_8_code L_Rf_fail = true := by decide +kernel
theorem K_Rf_fail : MK M_Rf_fail 2 := ⟨tb_in (i := 1138) (by decide +kernel) (by decide +kernel), tb_in (i := 12) (by decide +kernel) (by decide +kernel), by decide +kernel, by decide, by decide +kernel, by decide +kernel, by decide +kernel⟩
theorem I_Rf_fail : Cond.instanceMethod M_Rf_fail.1 ∈ tbG := tb_in (i := 1137) (by decide +kernel) (by decide +kernel)
theorem V_Rf_fail : MV M_Rf_fail := ⟨I_Rf_fail, ts_in (i := 58) (by decide +kernel) (by decide +kernel)⟩
def y_Rf_isLetter : MethodName := ⟨"RescanMillModel", "isLetter", "(I)Z"⟩
abbrev M_Rf_isLetter : mt_T := (y_Rf_isLetter, prog_15_method_5_code, 1, (some (.boolean)))
def L_Rf_isLetter : List (Nat × Instr × Nat) := [(0, .iload_n 0, 1), (1, .bipush 65, 2), (3, .if_icmp .lt 9, 3), (6, .iload_n 0, 1), (7, .bipush 90, 2), (9, .if_icmp .le 21, 3), (12, .iload_n 0, 1), (13, .bipush 97, 2), (15, .if_icmp .lt 9, 3), (18, .iload_n 0, 1), (19, .bipush 122, 2), (21, .if_icmp .le 9, 3), (24, .iload_n 0, 1), (25, .bipush 95, 2), (27, .if_icmp .ne 7, 3), (30, .iconst 1, 1), (31, .goto 4, 3), (34, .iconst 0, 1), (35, .ireturn, 1)]
theorem D_Rf_isLetter : decAll prog_15_method_5_code L_Rf_isLetter = true := by decide +kernel
theorem K_Rf_isLetter : MK M_Rf_isLetter 1 := ⟨tb_in (i := 1141) (by decide +kernel) (by decide +kernel), tb_in (i := 12) (by decide +kernel) (by decide +kernel), by decide +kernel, by decide, by decide +kernel, by decide +kernel, by decide +kernel⟩
theorem S_Rf_isLetter : Cond.static M_Rf_isLetter.1 ∈ tbG := tb_in (i := 1140) (by decide +kernel) (by decide +kernel)
def y_Rf_isDigit : MethodName := ⟨"RescanMillModel", "isDigit", "(I)Z"⟩
abbrev M_Rf_isDigit : mt_T := (y_Rf_isDigit, prog_15_method_6_code, 1, (some (.boolean)))
def L_Rf_isDigit : List (Nat × Instr × Nat) := [(0, .iload_n 0, 1), (1, .bipush 48, 2), (3, .if_icmp .lt 13, 3), (6, .iload_n 0, 1), (7, .bipush 57, 2), (9, .if_icmp .gt 7, 3), (12, .iconst 1, 1), (13, .goto 4, 3), (16, .iconst 0, 1), (17, .ireturn, 1)]
theorem D_Rf_isDigit : decAll prog_15_method_6_code L_Rf_isDigit = true := by decide +kernel
theorem K_Rf_isDigit : MK M_Rf_isDigit 1 := ⟨tb_in (i := 1144) (by decide +kernel) (by decide +kernel), tb_in (i := 12) (by decide +kernel) (by decide +kernel), by decide +kernel, by decide, by decide +kernel, by decide +kernel, by decide +kernel⟩
theorem S_Rf_isDigit : Cond.static M_Rf_isDigit.1 ∈ tbG := tb_in (i := 1143) (by decide +kernel) (by decide +kernel)
def y_Rf_handle : MethodName := ⟨"RescanMillModel", "handle", "(Z)V"⟩
abbrev M_Rf_handle : mt_T := (y_Rf_handle, prog_15_method_30_code, 8, none)
def L_Rf_handle : List (Nat × Instr × Nat) := [(0, .aload_n 0, 1), (1, .getfield 126, 3), (4, .iconst 3, 1), (5, .if_icmp .ne 19, 3), (8, .aload_n 0, 1), (9, .aload_n 0, 1), (10, .getfield 27, 3), (13, .iconst 0, 1), (14, .aload_n 0, 1), (15, .getfield 109, 3), (18, .invokevirtual 232, 3), (21, .goto 4, 3), (24, .iconst (-1), 1), (25, .istore_n 2, 1), (26, .aload_n 0, 1), (27, .iconst 0, 1), (28, .invokevirtual 101, 3), (31, .bipush 40, 2), (33, .if_icmp .ne 7, 3), (36, .iconst 1, 1), (37, .goto 4, 3), (40, .iconst 0, 1), (41, .istore_n 3, 1), (42, .iload_n 2, 1), (43, .ifCond .lt 27, 3), (46, .aload_n 0, 1), (47, .getfield 43, 3), (50, .iload_n 2, 1), (51, .iaload, 1), (52, .ifCond .le 24, 3), (55, .aload_n 0, 1), (56, .getfield 43, 3), (59, .iload_n 2, 1), (60, .iaload, 1), (61, .bipush 13, 2), (63, .if_icmp .gt 13, 3), (66, .iload_n 3, 1), (67, .ifCond .ne 9, 3), (70, .aload_n 0, 1), (71, .iload_n 1, 1), (72, .invokevirtual 236, 3), (75, .return_, 1), (76, .aload_n 0, 1), (77, .getfield 240, 3), (80, .bipush 50, 2), (82, .if_icmp .ne 10, 3), (85, .aload_n 0, 1), (86, .bipush 34, 2), (88, .invokevirtual 84, 3), (91, .return_, 1), (92, .aload_n 0, 1), (93, .dup, 1), (94, .getfield 240, 3), (97, .iconst 1, 1), (98, .iadd, 1), (99, .putfield 240, 3), (102, .aload_n 0, 1), (103, .getfield 226, 3), (106, .istore 4, 2), (108, .aload_n 0, 1), (109, .getfield 109, 3), (112, .istore 5, 2), (114, .aload_n 0, 1), (115, .getfield 243, 3), (118, .istore 6, 2), (120, .aload_n 0, 1), (121, .iconst 1, 1), (122, .invokevirtual 236, 3), (125, .iload_n 3, 1), (126, .ifCond .eq 14, 3), (129, .aload_n 0, 1), (130, .getfield 72, 3), (133, .ifCond .ne 7, 3), (136, .aload_n 0, 1), (137, .invokevirtual 246, 3), (140, .aload_n 0, 1), (141, .getfield 59, 3), (144, .aload_n 0, 1), (145, .getfield 243, 3), (148, .aload_n 0, 1), (149, .getfield 226, 3), (152, .iastore, 1), (153, .aload_n 0, 1), (154, .getfield 72, 3), (157, .ifCond .ne 34, 3), (160, .aload_n 0, 1), (161, .aload_n 0, 1), (162, .getfield 56, 3), (165, .iload 4, 2), (167, .iload 5, 2), (169, .invokevirtual 232, 3), (172, .istore 7, 2), (174, .iload 7, 2), (176, .ifCond .lt 15, 3), (179, .aload_n 0, 1), (180, .iload 7, 2), (182, .iload 4, 2), (184, .iload 5, 2), (186, .iload 6, 2), (188, .invokevirtual 249, 3), (191, .aload_n 0, 1), (192, .iload 4, 2), (194, .putfield 226, 3), (197, .aload_n 0, 1), (198, .iload 6, 2), (200, .putfield 243, 3), (203, .aload_n 0, 1), (204, .dup, 1), (205, .getfield 240, 3), (208, .iconst 1, 1), (209, .isub, 1), (210, .putfield 240, 3), (213, .aload_n 0, 1), (214, .invokevirtual 253, 3), (217, .return_, 1)]
theorem D_Rf_handle : decAll prog_15_method_30_code L_Rf_handle = true := by decide +kernel
theorem K_Rf_handle : MK M_Rf_handle 1 := ⟨tb_in (i := 1148) (by decide +kernel) (by decide +kernel), tb_in (i := 12) (by decide +kernel) (by decide +kernel), by decide +kernel, by decide, by decide +kernel, by decide +kernel, by decide +kernel⟩
theorem I_Rf_handle : Cond.instanceMethod M_Rf_handle.1 ∈ tbG := tb_in (i := 1147) (by decide +kernel) (by decide +kernel)
theorem V_Rf_handle : MV M_Rf_handle := ⟨I_Rf_handle, ts_in (i := 59) (by decide +kernel) (by decide +kernel)⟩
def y_Rf_top : MethodName := ⟨"RescanMillModel", "top", "([BII)I"⟩
abbrev M_Rf_top : mt_T := (y_Rf_top, prog_15_method_23_code, 6, (some (.int)))
def L_Rf_top : List (Nat × Instr × Nat) := [(0, .iconst (-1), 1), (1, .istore 4, 2), (3, .iconst 0, 1), (4, .istore 5, 2), (6, .iload 5, 2), (8, .aload_n 0, 1), (9, .getfield 188, 3), (12, .if_icmp .ge 30, 3), (15, .aload_n 0, 1), (16, .iload 5, 2), (18, .aload_n 1, 1), (19, .iload_n 2, 1), (20, .iload_n 3, 1), (21, .invokevirtual 213, 3), (24, .ifCond .eq 8, 3), (27, .iload 5, 2), (29, .goto 5, 3), (32, .iload 4, 2), (34, .istore 4, 2), (36, .iinc 5 1, 3), (39, .goto (-33), 3), (42, .iload 4, 2), (44, .ireturn, 1)]
theorem D_Rf_top : decAll prog_15_method_23_code L_Rf_top = true := by decide +kernel
theorem K_Rf_top : MK M_Rf_top 3 := ⟨tb_in (i := 1152) (by decide +kernel) (by decide +kernel), tb_in (i := 12) (by decide +kernel) (by decide +kernel), by decide +kernel, by decide, by decide +kernel, by decide +kernel, by decide +kernel⟩
theorem I_Rf_top : Cond.instanceMethod M_Rf_top.1 ∈ tbG := tb_in (i := 1151) (by decide +kernel) (by decide +kernel)
theorem V_Rf_top : MV M_Rf_top := ⟨I_Rf_top, ts_in (i := 60) (by decide +kernel) (by decide +kernel)⟩
def y_Rf_isNamed : MethodName := ⟨"RescanMillModel", "isNamed", "(I[BII)Z"⟩
abbrev M_Rf_isNamed : mt_T := (y_Rf_isNamed, prog_15_method_22_code, 7, (some (.boolean)))
def L_Rf_isNamed : List (Nat × Instr × Nat) := [(0, .aload_n 0, 1), (1, .getfield 37, 3), (4, .iload_n 1, 1), (5, .iaload, 1), (6, .iload 4, 2), (8, .if_icmp .ne 7, 3), (11, .iconst 1, 1), (12, .goto 4, 3), (15, .iconst 0, 1), (16, .istore 5, 2), (18, .iconst 0, 1), (19, .istore 6, 2), (21, .iload 6, 2), (23, .iload 4, 2), (25, .if_icmp .ge 44, 3), (28, .iload 5, 2), (30, .ifCond .eq 39, 3), (33, .aload_n 0, 1), (34, .getfield 46, 3), (37, .aload_n 0, 1), (38, .getfield 34, 3), (41, .iload_n 1, 1), (42, .iaload, 1), (43, .iload 6, 2), (45, .iadd, 1), (46, .baload, 1), (47, .aload_n 2, 1), (48, .iload_n 3, 1), (49, .iload 6, 2), (51, .iadd, 1), (52, .baload, 1), (53, .if_icmp .ne 7, 3), (56, .iconst 1, 1), (57, .goto 4, 3), (60, .iconst 0, 1), (61, .istore 5, 2), (63, .iinc 6 1, 3), (66, .goto (-45), 3), (69, .iload 5, 2), (71, .ireturn, 1)]
theorem D_Rf_isNamed : decAll prog_15_method_22_code L_Rf_isNamed = true := by decide +kernel
theorem K_Rf_isNamed : MK M_Rf_isNamed 4 := ⟨tb_in (i := 1156) (by decide +kernel) (by decide +kernel), tb_in (i := 12) (by decide +kernel) (by decide +kernel), by decide +kernel, by decide, by decide +kernel, by decide +kernel, by decide +kernel⟩
theorem I_Rf_isNamed : Cond.instanceMethod M_Rf_isNamed.1 ∈ tbG := tb_in (i := 1155) (by decide +kernel) (by decide +kernel)
theorem V_Rf_isNamed : MV M_Rf_isNamed := ⟨I_Rf_isNamed, ts_in (i := 61) (by decide +kernel) (by decide +kernel)⟩
def y_Rf_putToken : MethodName := ⟨"RescanMillModel", "putToken", "(Z)V"⟩
abbrev M_Rf_putToken : mt_T := (y_Rf_putToken, prog_15_method_29_code, 3, none)
def L_Rf_putToken : List (Nat × Instr × Nat) := [(0, .iconst 0, 1), (1, .istore_n 2, 1), (2, .iload_n 2, 1), (3, .aload_n 0, 1), (4, .getfield 109, 3), (7, .if_icmp .ge 47, 3), (10, .aload_n 0, 1), (11, .getfield 72, 3), (14, .ifCond .ne 40, 3), (17, .iload_n 1, 1), (18, .ifCond .eq 16, 3), (21, .aload_n 0, 1), (22, .aload_n 0, 1), (23, .getfield 27, 3), (26, .iload_n 2, 1), (27, .baload, 1), (28, .invokevirtual 229, 3), (31, .goto 17, 3), (34, .aload_n 0, 1), (35, .aload_n 0, 1), (36, .getfield 220, 3), (39, .aload_n 0, 1), (40, .getfield 27, 3), (43, .iload_n 2, 1), (44, .baload, 1), (45, .invokevirtual 223, 3), (48, .iinc 2 1, 3), (51, .goto (-49), 3), (54, .return_, 1)]
theorem D_Rf_putToken : decAll prog_15_method_29_code L_Rf_putToken = true := by decide +kernel
theorem K_Rf_putToken : MK M_Rf_putToken 1 := ⟨tb_in (i := 1160) (by decide +kernel) (by decide +kernel), tb_in (i := 12) (by decide +kernel) (by decide +kernel), by decide +kernel, by decide, by decide +kernel, by decide +kernel, by decide +kernel⟩
theorem I_Rf_putToken : Cond.instanceMethod M_Rf_putToken.1 ∈ tbG := tb_in (i := 1159) (by decide +kernel) (by decide +kernel)
theorem V_Rf_putToken : MV M_Rf_putToken := ⟨I_Rf_putToken, ts_in (i := 62) (by decide +kernel) (by decide +kernel)⟩
def y_Rf_putArgument : MethodName := ⟨"RescanMillModel", "putArgument", "(I)V"⟩
abbrev M_Rf_putArgument : mt_T := (y_Rf_putArgument, prog_15_method_28_code, 2, none)
def L_Rf_putArgument : List (Nat × Instr × Nat) := [(0, .aload_n 0, 1), (1, .getfield 226, 3), (4, .sipush 16384, 3), (7, .if_icmp .ne 10, 3), (10, .aload_n 0, 1), (11, .bipush 40, 2), (13, .invokevirtual 84, 3), (16, .return_, 1), (17, .aload_n 0, 1), (18, .getfield 56, 3), (21, .aload_n 0, 1), (22, .getfield 226, 3), (25, .iload_n 1, 1), (26, .i2b, 1), (27, .bastore, 1), (28, .aload_n 0, 1), (29, .dup, 1), (30, .getfield 226, 3), (33, .iconst 1, 1), (34, .iadd, 1), (35, .putfield 226, 3), (38, .return_, 1)]
theorem D_Rf_putArgument : decAll prog_15_method_28_code L_Rf_putArgument = true := by decide +kernel
theorem K_Rf_putArgument : MK M_Rf_putArgument 1 := ⟨tb_in (i := 1164) (by decide +kernel) (by decide +kernel), tb_in (i := 12) (by decide +kernel) (by decide +kernel), by decide +kernel, by decide, by decide +kernel, by decide +kernel, by decide +kernel⟩
theorem I_Rf_putArgument : Cond.instanceMethod M_Rf_putArgument.1 ∈ tbG := tb_in (i := 1163) (by decide +kernel) (by decide +kernel)
theorem V_Rf_putArgument : MV M_Rf_putArgument := ⟨I_Rf_putArgument, ts_in (i := 63) (by decide +kernel) (by decide +kernel)⟩
def y_Rf_divertByte : MethodName := ⟨"RescanMillModel", "divertByte", "(II)V"⟩
abbrev M_Rf_divertByte : mt_T := (y_Rf_divertByte, prog_15_method_26_code, 3, none)
def L_Rf_divertByte : List (Nat × Instr × Nat) := [(0, .iload_n 1, 1), (1, .ifCond .ge 4, 3), (4, .return_, 1), (5, .aload_n 0, 1), (6, .getfield 217, 3), (9, .ldc 9, 2), (11, .if_icmp .ne 10, 3), (14, .aload_n 0, 1), (15, .bipush 40, 2), (17, .invokevirtual 84, 3), (20, .return_, 1), (21, .aload_n 0, 1), (22, .getfield 50, 3), (25, .ldc 9, 2), (27, .iload_n 1, 1), (28, .imul, 1), (29, .aload_n 0, 1), (30, .getfield 53, 3), (33, .iload_n 1, 1), (34, .iaload, 1), (35, .iadd, 1), (36, .iload_n 2, 1), (37, .i2b, 1), (38, .bastore, 1), (39, .aload_n 0, 1), (40, .getfield 53, 3), (43, .iload_n 1, 1), (44, .dup2, 1), (45, .iaload, 1), (46, .iconst 1, 1), (47, .iadd, 1), (48, .iastore, 1), (49, .aload_n 0, 1), (50, .dup, 1), (51, .getfield 217, 3), (54, .iconst 1, 1), (55, .iadd, 1), (56, .putfield 217, 3), (59, .return_, 1)]
theorem D_Rf_divertByte : decAll prog_15_method_26_code L_Rf_divertByte = true := by decide +kernel
theorem K_Rf_divertByte : MK M_Rf_divertByte 2 := ⟨tb_in (i := 1168) (by decide +kernel) (by decide +kernel), tb_in (i := 12) (by decide +kernel) (by decide +kernel), by decide +kernel, by decide, by decide +kernel, by decide +kernel, by decide +kernel⟩
theorem I_Rf_divertByte : Cond.instanceMethod M_Rf_divertByte.1 ∈ tbG := tb_in (i := 1167) (by decide +kernel) (by decide +kernel)
theorem V_Rf_divertByte : MV M_Rf_divertByte := ⟨I_Rf_divertByte, ts_in (i := 64) (by decide +kernel) (by decide +kernel)⟩
def y_Rf_readArguments : MethodName := ⟨"RescanMillModel", "readArguments", "()V"⟩
abbrev M_Rf_readArguments : mt_T := (y_Rf_readArguments, prog_15_method_32_code, 5, none)
def L_Rf_readArguments : List (Nat × Instr × Nat) := [(0, .aload_n 0, 1), (1, .invokevirtual 256, 3), (4, .aload_n 0, 1), (5, .invokevirtual 259, 3), (8, .iconst 0, 1), (9, .istore_n 1, 1), (10, .iconst 0, 1), (11, .istore_n 2, 1), (12, .aload_n 0, 1), (13, .getfield 72, 3), (16, .ifCond .ne 7, 3), (19, .iconst 1, 1), (20, .goto 4, 3), (23, .iconst 0, 1), (24, .istore_n 3, 1), (25, .iload_n 3, 1), (26, .ifCond .eq 175, 3), (29, .aload_n 0, 1), (30, .invokevirtual 256, 3), (33, .aload_n 0, 1), (34, .getfield 72, 3), (37, .ifCond .ne 16, 3), (40, .aload_n 0, 1), (41, .getfield 126, 3), (44, .ifCond .ne 9, 3), (47, .aload_n 0, 1), (48, .bipush 33, 2), (50, .invokevirtual 84, 3), (53, .aload_n 0, 1), (54, .getfield 72, 3), (57, .ifCond .ne 24, 3), (60, .aload_n 0, 1), (61, .getfield 126, 3), (64, .iconst 4, 1), (65, .if_icmp .ne 16, 3), (68, .aload_n 0, 1), (69, .getfield 27, 3), (72, .iconst 0, 1), (73, .baload, 1), (74, .sipush 255, 3), (77, .iand, 1), (78, .goto 4, 3), (81, .iconst (-1), 1), (82, .istore 4, 2), (84, .aload_n 0, 1), (85, .getfield 72, 3), (88, .ifCond .ne 14, 3), (91, .iload 4, 2), (93, .bipush 41, 2), (95, .if_icmp .ne 12, 3), (98, .iload_n 1, 1), (99, .ifCond .ne 8, 3), (102, .iconst 0, 1), (103, .istore_n 3, 1), (104, .goto 77, 3), (107, .iload 4, 2), (109, .bipush 44, 2), (111, .if_icmp .ne 16, 3), (114, .iload_n 1, 1), (115, .ifCond .ne 12, 3), (118, .aload_n 0, 1), (119, .invokevirtual 259, 3), (122, .iconst 0, 1), (123, .istore_n 2, 1), (124, .goto 57, 3), (127, .iload_n 2, 1), (128, .ifCond .ne 18, 3), (131, .iload 4, 2), (133, .bipush 10, 2), (135, .if_icmp .eq 46, 3), (138, .iload 4, 2), (140, .invokestatic 262, 3), (143, .ifCond .ne 38, 3), (146, .iconst 1, 1), (147, .istore_n 2, 1), (148, .iload 4, 2), (150, .bipush 40, 2), (152, .if_icmp .ne 9, 3), (155, .iload_n 1, 1), (156, .iconst 1, 1), (157, .iadd, 1), (158, .goto 17, 3), (161, .iload 4, 2), (163, .bipush 41, 2), (165, .if_icmp .ne 9, 3), (168, .iload_n 1, 1), (169, .iconst 1, 1), (170, .isub, 1), (171, .goto 4, 3), (174, .iload_n 1, 1), (175, .istore_n 1, 1), (176, .aload_n 0, 1), (177, .iconst 1, 1), (178, .invokevirtual 265, 3), (181, .iload_n 3, 1), (182, .ifCond .eq 14, 3), (185, .aload_n 0, 1), (186, .getfield 72, 3), (189, .ifCond .ne 7, 3), (192, .iconst 1, 1), (193, .goto 4, 3), (196, .iconst 0, 1), (197, .istore_n 3, 1), (198, .goto (-173), 3), (201, .return_, 1)]
theorem D_Rf_readArguments : decAll prog_15_method_32_code L_Rf_readArguments = true := by decide +kernel
theorem K_Rf_readArguments : MK M_Rf_readArguments 0 := ⟨tb_in (i := 1172) (by decide +kernel) (by decide +kernel), tb_in (i := 12) (by decide +kernel) (by decide +kernel), by decide +kernel, by decide, by decide +kernel, by decide +kernel, by decide +kernel⟩
theorem I_Rf_readArguments : Cond.instanceMethod M_Rf_readArguments.1 ∈ tbG := tb_in (i := 1171) (by decide +kernel) (by decide +kernel)
theorem V_Rf_readArguments : MV M_Rf_readArguments := ⟨I_Rf_readArguments, ts_in (i := 65) (by decide +kernel) (by decide +kernel)⟩
def y_Rf_beginArgument : MethodName := ⟨"RescanMillModel", "beginArgument", "()V"⟩
abbrev M_Rf_beginArgument : mt_T := (y_Rf_beginArgument, prog_15_method_31_code, 1, none)
def L_Rf_beginArgument : List (Nat × Instr × Nat) := [(0, .aload_n 0, 1), (1, .getfield 72, 3), (4, .ifCond .ne 19, 3), (7, .aload_n 0, 1), (8, .getfield 243, 3), (11, .sipush 8192, 3), (14, .if_icmp .ne 9, 3), (17, .aload_n 0, 1), (18, .bipush 40, 2), (20, .invokevirtual 84, 3), (23, .aload_n 0, 1), (24, .getfield 72, 3), (27, .ifCond .ne 26, 3), (30, .aload_n 0, 1), (31, .getfield 59, 3), (34, .aload_n 0, 1), (35, .getfield 243, 3), (38, .aload_n 0, 1), (39, .getfield 226, 3), (42, .iastore, 1), (43, .aload_n 0, 1), (44, .dup, 1), (45, .getfield 243, 3), (48, .iconst 1, 1), (49, .iadd, 1), (50, .putfield 243, 3), (53, .return_, 1)]
theorem D_Rf_beginArgument : decAll prog_15_method_31_code L_Rf_beginArgument = true := by decide +kernel
theorem K_Rf_beginArgument : MK M_Rf_beginArgument 0 := ⟨tb_in (i := 1176) (by decide +kernel) (by decide +kernel), tb_in (i := 12) (by decide +kernel) (by decide +kernel), by decide +kernel, by decide, by decide +kernel, by decide +kernel, by decide +kernel⟩
theorem I_Rf_beginArgument : Cond.instanceMethod M_Rf_beginArgument.1 ∈ tbG := tb_in (i := 1175) (by decide +kernel) (by decide +kernel)
theorem V_Rf_beginArgument : MV M_Rf_beginArgument := ⟨I_Rf_beginArgument, ts_in (i := 66) (by decide +kernel) (by decide +kernel)⟩
def y_Rf_isBlank : MethodName := ⟨"RescanMillModel", "isBlank", "(I)Z"⟩
abbrev M_Rf_isBlank : mt_T := (y_Rf_isBlank, prog_15_method_7_code, 1, (some (.boolean)))
def L_Rf_isBlank : List (Nat × Instr × Nat) := [(0, .iload_n 0, 1), (1, .bipush 32, 2), (3, .if_icmp .eq 27, 3), (6, .iload_n 0, 1), (7, .bipush 9, 2), (9, .if_icmp .eq 21, 3), (12, .iload_n 0, 1), (13, .bipush 11, 2), (15, .if_icmp .eq 15, 3), (18, .iload_n 0, 1), (19, .bipush 12, 2), (21, .if_icmp .eq 9, 3), (24, .iload_n 0, 1), (25, .bipush 13, 2), (27, .if_icmp .ne 7, 3), (30, .iconst 1, 1), (31, .goto 4, 3), (34, .iconst 0, 1), (35, .ireturn, 1)]
theorem D_Rf_isBlank : decAll prog_15_method_7_code L_Rf_isBlank = true := by decide +kernel
theorem K_Rf_isBlank : MK M_Rf_isBlank 1 := ⟨tb_in (i := 1179) (by decide +kernel) (by decide +kernel), tb_in (i := 12) (by decide +kernel) (by decide +kernel), by decide +kernel, by decide, by decide +kernel, by decide +kernel, by decide +kernel⟩
theorem S_Rf_isBlank : Cond.static M_Rf_isBlank.1 ∈ tbG := tb_in (i := 1178) (by decide +kernel) (by decide +kernel)
def y_Rf_act : MethodName := ⟨"RescanMillModel", "act", "(IIII)V"⟩
abbrev M_Rf_act : mt_T := (y_Rf_act, prog_15_method_41_code, 9, none)
def L_Rf_act : List (Nat × Instr × Nat) := [(0, .aload_n 0, 1), (1, .getfield 243, 3), (4, .iload 4, 2), (6, .isub, 1), (7, .istore 5, 2), (9, .aload_n 0, 1), (10, .getfield 43, 3), (13, .iload_n 1, 1), (14, .iaload, 1), (15, .tableswitch 388 0 13 #[69, 81, 81, 105, 105, 216, 255, 266, 275, 292, 309, 324, 338, 349], 69), (84, .aload_n 0, 1), (85, .iload_n 1, 1), (86, .iload_n 2, 1), (87, .iload_n 3, 1), (88, .iload 4, 2), (90, .invokevirtual 285, 3), (93, .goto 324, 3), (96, .aload_n 0, 1), (97, .iload 4, 2), (99, .aload_n 0, 1), (100, .getfield 43, 3), (103, .iload_n 1, 1), (104, .iaload, 1), (105, .iconst 2, 1), (106, .if_icmp .ne 7, 3), (109, .iconst 1, 1), (110, .goto 4, 3), (113, .iconst 0, 1), (114, .invokevirtual 288, 3), (117, .goto 300, 3), (120, .aload_n 0, 1), (121, .getfield 43, 3), (124, .iload_n 1, 1), (125, .iaload, 1), (126, .iconst 3, 1), (127, .if_icmp .ne 7, 3), (130, .iconst 1, 1), (131, .goto 4, 3), (134, .iconst 0, 1), (135, .istore 6, 2), (137, .iconst 1, 1), (138, .istore 7, 2), (140, .iload 7, 2), (142, .iload 5, 2), (144, .if_icmp .gt 84, 3), (147, .aload_n 0, 1), (148, .aload_n 0, 1), (149, .getfield 56, 3), (152, .aload_n 0, 1), (153, .iload 4, 2), (155, .iload 7, 2), (157, .invokevirtual 268, 3), (160, .aload_n 0, 1), (161, .iload 4, 2), (163, .iload 7, 2), (165, .invokevirtual 272, 3), (168, .invokevirtual 232, 3), (171, .istore 8, 2), (173, .iload 8, 2), (175, .ifCond .lt 47, 3), (178, .aload_n 0, 1), (179, .iload 8, 2), (181, .invokevirtual 290, 3), (184, .iload 6, 2), (186, .ifCond .eq 30, 3), (189, .aload_n 0, 1), (190, .aload_n 0, 1), (191, .getfield 56, 3), (194, .aload_n 0, 1), (195, .iload 4, 2), (197, .iload 7, 2), (199, .invokevirtual 268, 3), (202, .aload_n 0, 1), (203, .iload 4, 2), (205, .iload 7, 2), (207, .invokevirtual 272, 3), (210, .invokevirtual 232, 3), (213, .goto 4, 3), (216, .iconst (-1), 1), (217, .istore 8, 2), (219, .goto (-46), 3), (222, .iinc 7 1, 3), (225, .goto (-85), 3), (228, .goto 189, 3), (231, .aload_n 0, 1), (232, .iload 4, 2), (234, .aload_n 0, 1), (235, .aload_n 0, 1), (236, .getfield 56, 3), (239, .aload_n 0, 1), (240, .iload 4, 2), (242, .iconst 1, 1), (243, .invokevirtual 268, 3), (246, .aload_n 0, 1), (247, .iload 4, 2), (249, .iconst 1, 1), (250, .invokevirtual 272, 3), (253, .invokevirtual 232, 3), (256, .ifCond .lt 7, 3), (259, .iconst 2, 1), (260, .goto 4, 3), (263, .iconst 3, 1), (264, .invokevirtual 275, 3), (267, .goto 150, 3), (270, .aload_n 0, 1), (271, .iload 4, 2), (273, .iload 5, 2), (275, .invokevirtual 293, 3), (278, .goto 139, 3), (281, .aload_n 0, 1), (282, .iload 4, 2), (284, .invokevirtual 296, 3), (287, .goto 130, 3), (290, .aload_n 0, 1), (291, .aload_n 0, 1), (292, .iload 4, 2), (294, .iconst 1, 1), (295, .invokevirtual 299, 3), (298, .i2l, 1), (299, .lconst 1, 1), (300, .ladd, 1), (301, .invokevirtual 302, 3), (304, .goto 113, 3), (307, .aload_n 0, 1), (308, .aload_n 0, 1), (309, .iload 4, 2), (311, .iconst 1, 1), (312, .invokevirtual 299, 3), (315, .i2l, 1), (316, .lconst 1, 1), (317, .lsub, 1), (318, .invokevirtual 302, 3), (321, .goto 96, 3), (324, .aload_n 0, 1), (325, .aload_n 0, 1), (326, .iload 4, 2), (328, .iconst 1, 1), (329, .invokevirtual 272, 3), (332, .i2l, 1), (333, .invokevirtual 278, 3), (336, .goto 81, 3), (339, .aload_n 0, 1), (340, .aload_n 0, 1), (341, .iload 4, 2), (343, .invokevirtual 305, 3), (346, .i2l, 1), (347, .invokevirtual 278, 3), (350, .goto 67, 3), (353, .aload_n 0, 1), (354, .iload 4, 2), (356, .iload 5, 2), (358, .invokevirtual 308, 3), (361, .goto 56, 3), (364, .iconst 2, 1), (365, .istore 7, 2), (367, .iload 7, 2), (369, .iload 5, 2), (371, .if_icmp .gt 29, 3), (374, .iload 7, 2), (376, .iconst 2, 1), (377, .if_icmp .le 9, 3), (380, .aload_n 0, 1), (381, .bipush 44, 2), (383, .invokevirtual 145, 3), (386, .aload_n 0, 1), (387, .iload 4, 2), (389, .iload 7, 2), (391, .invokevirtual 282, 3), (394, .iinc 7 1, 3), (397, .goto (-30), 3), (400, .goto 17, 3), (403, .aload_n 0, 1), (404, .aload_n 0, 1), (405, .getfield 43, 3), (408, .iload_n 1, 1), (409, .iaload, 1), (410, .iload 4, 2), (412, .iload 5, 2), (414, .invokevirtual 311, 3), (417, .return_, 1)]
theorem D_Rf_act : decAll prog_15_method_41_code L_Rf_act = true := by decide +kernel
theorem K_Rf_act : MK M_Rf_act 4 := ⟨tb_in (i := 1183) (by decide +kernel) (by decide +kernel), tb_in (i := 12) (by decide +kernel) (by decide +kernel), by decide +kernel, by decide, by decide +kernel, by decide +kernel, by decide +kernel⟩
theorem I_Rf_act : Cond.instanceMethod M_Rf_act.1 ∈ tbG := tb_in (i := 1182) (by decide +kernel) (by decide +kernel)
theorem V_Rf_act : MV M_Rf_act := ⟨I_Rf_act, ts_in (i := 67) (by decide +kernel) (by decide +kernel)⟩
def y_Rf_giveText : MethodName := ⟨"RescanMillModel", "giveText", "(IIII)V"⟩
abbrev M_Rf_giveText : mt_T := (y_Rf_giveText, prog_15_method_37_code, 11, none)
def L_Rf_giveText : List (Nat × Instr × Nat) := [(0, .aload_n 0, 1), (1, .getfield 34, 3), (4, .iload_n 1, 1), (5, .iaload, 1), (6, .aload_n 0, 1), (7, .getfield 37, 3), (10, .iload_n 1, 1), (11, .iaload, 1), (12, .iadd, 1), (13, .istore 5, 2), (15, .aload_n 0, 1), (16, .getfield 243, 3), (19, .iload 4, 2), (21, .isub, 1), (22, .istore 6, 2), (24, .iconst 0, 1), (25, .istore 7, 2), (27, .iload 7, 2), (29, .aload_n 0, 1), (30, .getfield 40, 3), (33, .iload_n 1, 1), (34, .iaload, 1), (35, .if_icmp .ge 268, 3), (38, .aload_n 0, 1), (39, .getfield 72, 3), (42, .ifCond .ne 261, 3), (45, .aload_n 0, 1), (46, .getfield 46, 3), (49, .iload 5, 2), (51, .iload 7, 2), (53, .iadd, 1), (54, .baload, 1), (55, .sipush 255, 3), (58, .iand, 1), (59, .istore 8, 2), (61, .iload 8, 2), (63, .bipush 36, 2), (65, .if_icmp .ne 35, 3), (68, .iload 7, 2), (70, .iconst 1, 1), (71, .iadd, 1), (72, .aload_n 0, 1), (73, .getfield 40, 3), (76, .iload_n 1, 1), (77, .iaload, 1), (78, .if_icmp .ge 22, 3), (81, .aload_n 0, 1), (82, .getfield 46, 3), (85, .iload 5, 2), (87, .iload 7, 2), (89, .iadd, 1), (90, .iconst 1, 1), (91, .iadd, 1), (92, .baload, 1), (93, .sipush 255, 3), (96, .iand, 1), (97, .goto 4, 3), (100, .iconst (-1), 1), (101, .istore 9, 2), (103, .iload 9, 2), (105, .bipush 48, 2), (107, .if_icmp .ne 34, 3), (110, .iconst 0, 1), (111, .istore 10, 2), (113, .iload 10, 2), (115, .iload_n 3, 1), (116, .if_icmp .ge 22, 3), (119, .aload_n 0, 1), (120, .aload_n 0, 1), (121, .getfield 56, 3), (124, .iload_n 2, 1), (125, .iload 10, 2), (127, .iadd, 1), (128, .baload, 1), (129, .invokevirtual 145, 3), (132, .iinc 10 1, 3), (135, .goto (-22), 3), (138, .goto 119, 3), (141, .iload 9, 2), (143, .invokestatic 136, 3), (146, .ifCond .eq 17, 3), (149, .aload_n 0, 1), (150, .iload 4, 2), (152, .iload 9, 2), (154, .bipush 48, 2), (156, .isub, 1), (157, .invokevirtual 275, 3), (160, .goto 97, 3), (163, .iload 9, 2), (165, .bipush 35, 2), (167, .if_icmp .ne 13, 3), (170, .aload_n 0, 1), (171, .iload 6, 2), (173, .i2l, 1), (174, .invokevirtual 278, 3), (177, .goto 80, 3), (180, .iload 9, 2), (182, .bipush 42, 2), (184, .if_icmp .eq 10, 3), (187, .iload 9, 2), (189, .bipush 64, 2), (191, .if_icmp .ne 60, 3), (194, .iconst 1, 1), (195, .istore 10, 2), (197, .iload 10, 2), (199, .iload 6, 2), (201, .if_icmp .gt 47, 3), (204, .iload 10, 2), (206, .iconst 1, 1), (207, .if_icmp .le 9, 3), (210, .aload_n 0, 1), (211, .bipush 44, 2), (213, .invokevirtual 145, 3), (216, .iload 9, 2), (218, .bipush 42, 2), (220, .if_icmp .ne 14, 3), (223, .aload_n 0, 1), (224, .iload 4, 2), (226, .iload 10, 2), (228, .invokevirtual 275, 3), (231, .goto 11, 3), (234, .aload_n 0, 1), (235, .iload 4, 2), (237, .iload 10, 2), (239, .invokevirtual 282, 3), (242, .iinc 10 1, 3), (245, .goto (-48), 3), (248, .goto 9, 3), (251, .aload_n 0, 1), (252, .iload 8, 2), (254, .invokevirtual 145, 3), (257, .iload 9, 2), (259, .invokestatic 136, 3), (262, .ifCond .ne 24, 3), (265, .iload 9, 2), (267, .bipush 35, 2), (269, .if_icmp .eq 17, 3), (272, .iload 9, 2), (274, .bipush 42, 2), (276, .if_icmp .eq 10, 3), (279, .iload 9, 2), (281, .bipush 64, 2), (283, .if_icmp .ne 10, 3), (286, .iload 7, 2), (288, .iconst 1, 1), (289, .iadd, 1), (290, .goto 5, 3), (293, .iload 7, 2), (295, .istore 7, 2), (297, .iinc 7 1, 3), (300, .goto (-273), 3), (303, .return_, 1)]
theorem D_Rf_giveText : decAll prog_15_method_37_code L_Rf_giveText = true := by decide +kernel
theorem K_Rf_giveText : MK M_Rf_giveText 4 := ⟨tb_in (i := 1187) (by decide +kernel) (by decide +kernel), tb_in (i := 12) (by decide +kernel) (by decide +kernel), by decide +kernel, by decide, by decide +kernel, by decide +kernel, by decide +kernel⟩
theorem I_Rf_giveText : Cond.instanceMethod M_Rf_giveText.1 ∈ tbG := tb_in (i := 1186) (by decide +kernel) (by decide +kernel)
theorem V_Rf_giveText : MV M_Rf_giveText := ⟨I_Rf_giveText, ts_in (i := 68) (by decide +kernel) (by decide +kernel)⟩
def y_Rf_give : MethodName := ⟨"RescanMillModel", "give", "(I)V"⟩
abbrev M_Rf_give : mt_T := (y_Rf_give, prog_15_method_17_code, 2, none)
def L_Rf_give : List (Nat × Instr × Nat) := [(0, .aload_n 0, 1), (1, .getfield 139, 3), (4, .aload_n 0, 1), (5, .invokevirtual 142, 3), (8, .iadd, 1), (9, .ldc 9, 2), (11, .if_icmp .lt 9, 3), (14, .aload_n 0, 1), (15, .bipush 40, 2), (17, .invokevirtual 84, 3), (20, .aload_n 0, 1), (21, .getfield 72, 3), (24, .ifCond .ne 24, 3), (27, .aload_n 0, 1), (28, .getfield 31, 3), (31, .aload_n 0, 1), (32, .getfield 139, 3), (35, .iload_n 1, 1), (36, .i2b, 1), (37, .bastore, 1), (38, .aload_n 0, 1), (39, .dup, 1), (40, .getfield 139, 3), (43, .iconst 1, 1), (44, .iadd, 1), (45, .putfield 139, 3), (48, .return_, 1)]
theorem D_Rf_give : decAll prog_15_method_17_code L_Rf_give = true := by decide +kernel
theorem K_Rf_give : MK M_Rf_give 1 := ⟨tb_in (i := 1191) (by decide +kernel) (by decide +kernel), tb_in (i := 12) (by decide +kernel) (by decide +kernel), by decide +kernel, by decide, by decide +kernel, by decide +kernel, by decide +kernel⟩
theorem I_Rf_give : Cond.instanceMethod M_Rf_give.1 ∈ tbG := tb_in (i := 1190) (by decide +kernel) (by decide +kernel)
theorem V_Rf_give : MV M_Rf_give := ⟨I_Rf_give, ts_in (i := 69) (by decide +kernel) (by decide +kernel)⟩
def y_Rf_inputLeft : MethodName := ⟨"RescanMillModel", "inputLeft", "()I"⟩
abbrev M_Rf_inputLeft : mt_T := (y_Rf_inputLeft, prog_15_method_9_code, 1, (some (.int)))
def L_Rf_inputLeft : List (Nat × Instr × Nat) := [(0, .ldc 9, 2), (2, .aload_n 0, 1), (3, .getfield 78, 3), (6, .isub, 1), (7, .ireturn, 1)]
theorem D_Rf_inputLeft : decAll prog_15_method_9_code L_Rf_inputLeft = true := by decide +kernel
theorem K_Rf_inputLeft : MK M_Rf_inputLeft 0 := ⟨tb_in (i := 1195) (by decide +kernel) (by decide +kernel), tb_in (i := 12) (by decide +kernel) (by decide +kernel), by decide +kernel, by decide, by decide +kernel, by decide +kernel, by decide +kernel⟩
theorem I_Rf_inputLeft : Cond.instanceMethod M_Rf_inputLeft.1 ∈ tbG := tb_in (i := 1194) (by decide +kernel) (by decide +kernel)
theorem V_Rf_inputLeft : MV M_Rf_inputLeft := ⟨I_Rf_inputLeft, ts_in (i := 70) (by decide +kernel) (by decide +kernel)⟩
def y_Rf_giveArgument : MethodName := ⟨"RescanMillModel", "giveArgument", "(II)V"⟩
abbrev M_Rf_giveArgument : mt_T := (y_Rf_giveArgument, prog_15_method_35_code, 5, none)
def L_Rf_giveArgument : List (Nat × Instr × Nat) := [(0, .aload_n 0, 1), (1, .iload_n 1, 1), (2, .iload_n 2, 1), (3, .invokevirtual 268, 3), (6, .istore_n 3, 1), (7, .iconst 0, 1), (8, .istore 4, 2), (10, .iload 4, 2), (12, .aload_n 0, 1), (13, .iload_n 1, 1), (14, .iload_n 2, 1), (15, .invokevirtual 272, 3), (18, .if_icmp .ge 22, 3), (21, .aload_n 0, 1), (22, .aload_n 0, 1), (23, .getfield 56, 3), (26, .iload_n 3, 1), (27, .iload 4, 2), (29, .iadd, 1), (30, .baload, 1), (31, .invokevirtual 145, 3), (34, .iinc 4 1, 3), (37, .goto (-27), 3), (40, .return_, 1)]
theorem D_Rf_giveArgument : decAll prog_15_method_35_code L_Rf_giveArgument = true := by decide +kernel
theorem K_Rf_giveArgument : MK M_Rf_giveArgument 2 := ⟨tb_in (i := 1199) (by decide +kernel) (by decide +kernel), tb_in (i := 12) (by decide +kernel) (by decide +kernel), by decide +kernel, by decide, by decide +kernel, by decide +kernel, by decide +kernel⟩
theorem I_Rf_giveArgument : Cond.instanceMethod M_Rf_giveArgument.1 ∈ tbG := tb_in (i := 1198) (by decide +kernel) (by decide +kernel)
theorem V_Rf_giveArgument : MV M_Rf_giveArgument := ⟨I_Rf_giveArgument, ts_in (i := 71) (by decide +kernel) (by decide +kernel)⟩
def y_Rf_argumentAt : MethodName := ⟨"RescanMillModel", "argumentAt", "(II)I"⟩
abbrev M_Rf_argumentAt : mt_T := (y_Rf_argumentAt, prog_15_method_33_code, 3, (some (.int)))
def L_Rf_argumentAt : List (Nat × Instr × Nat) := [(0, .iload_n 1, 1), (1, .iload_n 2, 1), (2, .iadd, 1), (3, .iconst 1, 1), (4, .isub, 1), (5, .aload_n 0, 1), (6, .getfield 243, 3), (9, .if_icmp .ge 16, 3), (12, .aload_n 0, 1), (13, .getfield 59, 3), (16, .iload_n 1, 1), (17, .iload_n 2, 1), (18, .iadd, 1), (19, .iconst 1, 1), (20, .isub, 1), (21, .iaload, 1), (22, .goto 12, 3), (25, .aload_n 0, 1), (26, .getfield 59, 3), (29, .aload_n 0, 1), (30, .getfield 243, 3), (33, .iaload, 1), (34, .ireturn, 1)]
theorem D_Rf_argumentAt : decAll prog_15_method_33_code L_Rf_argumentAt = true := by decide +kernel
theorem K_Rf_argumentAt : MK M_Rf_argumentAt 2 := ⟨tb_in (i := 1203) (by decide +kernel) (by decide +kernel), tb_in (i := 12) (by decide +kernel) (by decide +kernel), by decide +kernel, by decide, by decide +kernel, by decide +kernel, by decide +kernel⟩
theorem I_Rf_argumentAt : Cond.instanceMethod M_Rf_argumentAt.1 ∈ tbG := tb_in (i := 1202) (by decide +kernel) (by decide +kernel)
theorem V_Rf_argumentAt : MV M_Rf_argumentAt := ⟨I_Rf_argumentAt, ts_in (i := 72) (by decide +kernel) (by decide +kernel)⟩
def y_Rf_argumentSize : MethodName := ⟨"RescanMillModel", "argumentSize", "(II)I"⟩
abbrev M_Rf_argumentSize : mt_T := (y_Rf_argumentSize, prog_15_method_34_code, 3, (some (.int)))
def L_Rf_argumentSize : List (Nat × Instr × Nat) := [(0, .iload_n 1, 1), (1, .iload_n 2, 1), (2, .iadd, 1), (3, .iconst 1, 1), (4, .isub, 1), (5, .aload_n 0, 1), (6, .getfield 243, 3), (9, .if_icmp .ge 25, 3), (12, .aload_n 0, 1), (13, .getfield 59, 3), (16, .iload_n 1, 1), (17, .iload_n 2, 1), (18, .iadd, 1), (19, .iaload, 1), (20, .aload_n 0, 1), (21, .getfield 59, 3), (24, .iload_n 1, 1), (25, .iload_n 2, 1), (26, .iadd, 1), (27, .iconst 1, 1), (28, .isub, 1), (29, .iaload, 1), (30, .isub, 1), (31, .goto 4, 3), (34, .iconst 0, 1), (35, .ireturn, 1)]
theorem D_Rf_argumentSize : decAll prog_15_method_34_code L_Rf_argumentSize = true := by decide +kernel
theorem K_Rf_argumentSize : MK M_Rf_argumentSize 2 := ⟨tb_in (i := 1207) (by decide +kernel) (by decide +kernel), tb_in (i := 12) (by decide +kernel) (by decide +kernel), by decide +kernel, by decide, by decide +kernel, by decide +kernel, by decide +kernel⟩
theorem I_Rf_argumentSize : Cond.instanceMethod M_Rf_argumentSize.1 ∈ tbG := tb_in (i := 1206) (by decide +kernel) (by decide +kernel)
theorem V_Rf_argumentSize : MV M_Rf_argumentSize := ⟨I_Rf_argumentSize, ts_in (i := 73) (by decide +kernel) (by decide +kernel)⟩
def y_Rf_giveNumber : MethodName := ⟨"RescanMillModel", "giveNumber", "(J)V"⟩
abbrev M_Rf_giveNumber : mt_T := (y_Rf_giveNumber, prog_15_method_18_code, 7, none)
def L_Rf_giveNumber : List (Nat × Instr × Nat) := [(0, .lload_n 1, 1), (1, .lstore_n 3, 1), (2, .lload_n 3, 1), (3, .lconst 0, 1), (4, .lcmp, 1), (5, .ifCond .ge 12, 3), (8, .aload_n 0, 1), (9, .bipush 45, 2), (11, .invokevirtual 145, 3), (14, .lload_n 3, 1), (15, .lneg, 1), (16, .lstore_n 3, 1), (17, .lconst 1, 1), (18, .lstore 5, 2), (20, .lload_n 3, 1), (21, .lload 5, 2), (23, .ldiv, 1), (24, .ldc2_w 148, 3), (27, .lcmp, 1), (28, .ifCond .le 14, 3), (31, .ldc2_w 150, 3), (34, .lload 5, 2), (36, .lmul, 1), (37, .lstore 5, 2), (39, .goto (-19), 3), (42, .lload 5, 2), (44, .lconst 0, 1), (45, .lcmp, 1), (46, .ifCond .le 31, 3), (49, .aload_n 0, 1), (50, .ldc2_w 152, 3), (53, .lload_n 3, 1), (54, .lload 5, 2), (56, .ldiv, 1), (57, .ldc2_w 150, 3), (60, .lrem, 1), (61, .ladd, 1), (62, .l2i, 1), (63, .invokevirtual 145, 3), (66, .lload 5, 2), (68, .ldc2_w 150, 3), (71, .ldiv, 1), (72, .lstore 5, 2), (74, .goto (-32), 3), (77, .return_, 1)]
theorem D_Rf_giveNumber : decAll prog_15_method_18_code L_Rf_giveNumber = true := by decide +kernel
theorem K_Rf_giveNumber : MK M_Rf_giveNumber 1 := ⟨tb_in (i := 1211) (by decide +kernel) (by decide +kernel), tb_in (i := 12) (by decide +kernel) (by decide +kernel), by decide +kernel, by decide, by decide +kernel, by decide +kernel, by decide +kernel⟩
theorem I_Rf_giveNumber : Cond.instanceMethod M_Rf_giveNumber.1 ∈ tbG := tb_in (i := 1210) (by decide +kernel) (by decide +kernel)
theorem V_Rf_giveNumber : MV M_Rf_giveNumber := ⟨I_Rf_giveNumber, ts_in (i := 74) (by decide +kernel) (by decide +kernel)⟩
def y_Rf_giveQuotedArgument : MethodName := ⟨"RescanMillModel", "giveQuotedArgument", "(II)V"⟩
abbrev M_Rf_giveQuotedArgument : mt_T := (y_Rf_giveQuotedArgument, prog_15_method_36_code, 4, none)
def L_Rf_giveQuotedArgument : List (Nat × Instr × Nat) := [(0, .iconst 0, 1), (1, .istore_n 3, 1), (2, .iload_n 3, 1), (3, .aload_n 0, 1), (4, .getfield 112, 3), (7, .if_icmp .ge 19, 3), (10, .aload_n 0, 1), (11, .aload_n 0, 1), (12, .getfield 20, 3), (15, .iload_n 3, 1), (16, .iaload, 1), (17, .invokevirtual 145, 3), (20, .iinc 3 1, 3), (23, .goto (-21), 3), (26, .aload_n 0, 1), (27, .iload_n 1, 1), (28, .iload_n 2, 1), (29, .invokevirtual 275, 3), (32, .iconst 0, 1), (33, .istore_n 3, 1), (34, .iload_n 3, 1), (35, .aload_n 0, 1), (36, .getfield 119, 3), (39, .if_icmp .ge 19, 3), (42, .aload_n 0, 1), (43, .aload_n 0, 1), (44, .getfield 24, 3), (47, .iload_n 3, 1), (48, .iaload, 1), (49, .invokevirtual 145, 3), (52, .iinc 3 1, 3), (55, .goto (-21), 3), (58, .return_, 1)]
theorem D_Rf_giveQuotedArgument : decAll prog_15_method_36_code L_Rf_giveQuotedArgument = true := by decide +kernel
theorem K_Rf_giveQuotedArgument : MK M_Rf_giveQuotedArgument 2 := ⟨tb_in (i := 1218) (by decide +kernel) (by decide +kernel), tb_in (i := 12) (by decide +kernel) (by decide +kernel), by decide +kernel, by decide, by decide +kernel, by decide +kernel, by decide +kernel⟩
theorem I_Rf_giveQuotedArgument : Cond.instanceMethod M_Rf_giveQuotedArgument.1 ∈ tbG := tb_in (i := 1217) (by decide +kernel) (by decide +kernel)
theorem V_Rf_giveQuotedArgument : MV M_Rf_giveQuotedArgument := ⟨I_Rf_giveQuotedArgument, ts_in (i := 75) (by decide +kernel) (by decide +kernel)⟩
def y_Rf_define : MethodName := ⟨"RescanMillModel", "define", "(IZ)V"⟩
abbrev M_Rf_define : mt_T := (y_Rf_define, prog_15_method_43_code, 8, none)
def L_Rf_define : List (Nat × Instr × Nat) := [(0, .aload_n 0, 1), (1, .iload_n 1, 1), (2, .invokevirtual 315, 3), (5, .ifCond .ne 10, 3), (8, .aload_n 0, 1), (9, .bipush 35, 2), (11, .invokevirtual 84, 3), (14, .return_, 1), (15, .aload_n 0, 1), (16, .iload_n 1, 1), (17, .iconst 1, 1), (18, .invokevirtual 268, 3), (21, .istore_n 3, 1), (22, .aload_n 0, 1), (23, .iload_n 1, 1), (24, .iconst 1, 1), (25, .invokevirtual 272, 3), (28, .istore 4, 2), (30, .iload_n 2, 1), (31, .ifCond .eq 7, 3), (34, .iconst (-1), 1), (35, .goto 14, 3), (38, .aload_n 0, 1), (39, .aload_n 0, 1), (40, .getfield 56, 3), (43, .iload_n 3, 1), (44, .iload 4, 2), (46, .invokevirtual 232, 3), (49, .istore 5, 2), (51, .iload 5, 2), (53, .ifCond .lt 17, 3), (56, .aload_n 0, 1), (57, .getfield 43, 3), (60, .iload 5, 2), (62, .iaload, 1), (63, .ifCond .ne 7, 3), (66, .iconst 1, 1), (67, .goto 4, 3), (70, .iconst 0, 1), (71, .istore 6, 2), (73, .sipush 16384, 3), (76, .aload_n 0, 1), (77, .getfield 197, 3), (80, .isub, 1), (81, .iload 6, 2), (83, .ifCond .eq 21, 3), (86, .aload_n 0, 1), (87, .getfield 37, 3), (90, .iload 5, 2), (92, .iaload, 1), (93, .aload_n 0, 1), (94, .getfield 40, 3), (97, .iload 5, 2), (99, .iaload, 1), (100, .iadd, 1), (101, .goto 4, 3), (104, .iconst 0, 1), (105, .iadd, 1), (106, .istore 7, 2), (108, .iload 6, 2), (110, .ifCond .ne 13, 3), (113, .aload_n 0, 1), (114, .getfield 194, 3), (117, .sipush 300, 3), (120, .if_icmp .eq 17, 3), (123, .iload 4, 2), (125, .aload_n 0, 1), (126, .iload_n 1, 1), (127, .iconst 2, 1), (128, .invokevirtual 272, 3), (131, .iadd, 1), (132, .iload 7, 2), (134, .if_icmp .le 10, 3), (137, .aload_n 0, 1), (138, .bipush 40, 2), (140, .invokevirtual 84, 3), (143, .return_, 1), (144, .iload 5, 2), (146, .ifCond .lt 9, 3), (149, .aload_n 0, 1), (150, .iload 5, 2), (152, .invokevirtual 290, 3), (155, .aload_n 0, 1), (156, .iload_n 3, 1), (157, .iload 4, 2), (159, .aload_n 0, 1), (160, .iload_n 1, 1), (161, .iconst 2, 1), (162, .invokevirtual 268, 3), (165, .aload_n 0, 1), (166, .iload_n 1, 1), (167, .iconst 2, 1), (168, .invokevirtual 272, 3), (171, .invokevirtual 318, 3), (174, .return_, 1)]
theorem D_Rf_define : decAll prog_15_method_43_code L_Rf_define = true := by decide +kernel
theorem K_Rf_define : MK M_Rf_define 2 := ⟨tb_in (i := 1222) (by decide +kernel) (by decide +kernel), tb_in (i := 12) (by decide +kernel) (by decide +kernel), by decide +kernel, by decide, by decide +kernel, by decide +kernel, by decide +kernel⟩
theorem I_Rf_define : Cond.instanceMethod M_Rf_define.1 ∈ tbG := tb_in (i := 1221) (by decide +kernel) (by decide +kernel)
theorem V_Rf_define : MV M_Rf_define := ⟨I_Rf_define, ts_in (i := 76) (by decide +kernel) (by decide +kernel)⟩
def y_Rf_isNameArgument : MethodName := ⟨"RescanMillModel", "isNameArgument", "(I)Z"⟩
abbrev M_Rf_isNameArgument : mt_T := (y_Rf_isNameArgument, prog_15_method_38_code, 6, (some (.boolean)))
def L_Rf_isNameArgument : List (Nat × Instr × Nat) := [(0, .aload_n 0, 1), (1, .iload_n 1, 1), (2, .iconst 1, 1), (3, .invokevirtual 272, 3), (6, .istore_n 2, 1), (7, .aload_n 0, 1), (8, .iload_n 1, 1), (9, .iconst 1, 1), (10, .invokevirtual 268, 3), (13, .istore_n 3, 1), (14, .iload_n 2, 1), (15, .ifCond .le 23, 3), (18, .aload_n 0, 1), (19, .getfield 56, 3), (22, .iload_n 3, 1), (23, .baload, 1), (24, .sipush 255, 3), (27, .iand, 1), (28, .invokestatic 132, 3), (31, .ifCond .eq 7, 3), (34, .iconst 1, 1), (35, .goto 4, 3), (38, .iconst 0, 1), (39, .istore 4, 2), (41, .iconst 1, 1), (42, .istore 5, 2), (44, .iload 5, 2), (46, .iload_n 2, 1), (47, .if_icmp .ge 59, 3), (50, .iload 4, 2), (52, .ifCond .eq 54, 3), (55, .aload_n 0, 1), (56, .getfield 56, 3), (59, .iload_n 3, 1), (60, .iload 5, 2), (62, .iadd, 1), (63, .baload, 1), (64, .sipush 255, 3), (67, .iand, 1), (68, .invokestatic 132, 3), (71, .ifCond .ne 22, 3), (74, .aload_n 0, 1), (75, .getfield 56, 3), (78, .iload_n 3, 1), (79, .iload 5, 2), (81, .iadd, 1), (82, .baload, 1), (83, .sipush 255, 3), (86, .iand, 1), (87, .invokestatic 136, 3), (90, .ifCond .eq 7, 3), (93, .iconst 1, 1), (94, .goto 4, 3), (97, .iconst 0, 1), (98, .istore 4, 2), (100, .iinc 5 1, 3), (103, .goto (-59), 3), (106, .iload 4, 2), (108, .ireturn, 1)]
theorem D_Rf_isNameArgument : decAll prog_15_method_38_code L_Rf_isNameArgument = true := by decide +kernel
theorem K_Rf_isNameArgument : MK M_Rf_isNameArgument 1 := ⟨tb_in (i := 1226) (by decide +kernel) (by decide +kernel), tb_in (i := 12) (by decide +kernel) (by decide +kernel), by decide +kernel, by decide, by decide +kernel, by decide +kernel, by decide +kernel⟩
theorem I_Rf_isNameArgument : Cond.instanceMethod M_Rf_isNameArgument.1 ∈ tbG := tb_in (i := 1225) (by decide +kernel) (by decide +kernel)
theorem V_Rf_isNameArgument : MV M_Rf_isNameArgument := ⟨I_Rf_isNameArgument, ts_in (i := 77) (by decide +kernel) (by decide +kernel)⟩
def y_Rf_forget : MethodName := ⟨"RescanMillModel", "forget", "(I)V"⟩
abbrev M_Rf_forget : mt_T := (y_Rf_forget, prog_15_method_24_code, 4, none)
def L_Rf_forget : List (Nat × Instr × Nat) := [(0, .aload_n 0, 1), (1, .getfield 37, 3), (4, .iload_n 1, 1), (5, .iaload, 1), (6, .aload_n 0, 1), (7, .getfield 40, 3), (10, .iload_n 1, 1), (11, .iaload, 1), (12, .iadd, 1), (13, .istore_n 2, 1), (14, .aload_n 0, 1), (15, .getfield 34, 3), (18, .iload_n 1, 1), (19, .iaload, 1), (20, .istore_n 3, 1), (21, .iload_n 3, 1), (22, .iload_n 2, 1), (23, .iadd, 1), (24, .aload_n 0, 1), (25, .getfield 191, 3), (28, .if_icmp .ge 23, 3), (31, .aload_n 0, 1), (32, .getfield 46, 3), (35, .iload_n 3, 1), (36, .aload_n 0, 1), (37, .getfield 46, 3), (40, .iload_n 3, 1), (41, .iload_n 2, 1), (42, .iadd, 1), (43, .baload, 1), (44, .bastore, 1), (45, .iinc 3 1, 3), (48, .goto (-27), 3), (51, .aload_n 0, 1), (52, .aload_n 0, 1), (53, .getfield 191, 3), (56, .iload_n 2, 1), (57, .isub, 1), (58, .putfield 191, 3), (61, .aload_n 0, 1), (62, .getfield 43, 3), (65, .iload_n 1, 1), (66, .iaload, 1), (67, .ifCond .ne 23, 3), (70, .aload_n 0, 1), (71, .dup, 1), (72, .getfield 194, 3), (75, .iconst 1, 1), (76, .isub, 1), (77, .putfield 194, 3), (80, .aload_n 0, 1), (81, .aload_n 0, 1), (82, .getfield 197, 3), (85, .iload_n 2, 1), (86, .isub, 1), (87, .putfield 197, 3), (90, .aload_n 0, 1), (91, .dup, 1), (92, .getfield 188, 3), (95, .iconst 1, 1), (96, .isub, 1), (97, .putfield 188, 3), (100, .iload_n 1, 1), (101, .istore_n 3, 1), (102, .iload_n 3, 1), (103, .aload_n 0, 1), (104, .getfield 188, 3), (107, .if_icmp .ge 67, 3), (110, .aload_n 0, 1), (111, .getfield 34, 3), (114, .iload_n 3, 1), (115, .aload_n 0, 1), (116, .getfield 34, 3), (119, .iload_n 3, 1), (120, .iconst 1, 1), (121, .iadd, 1), (122, .iaload, 1), (123, .iload_n 2, 1), (124, .isub, 1), (125, .iastore, 1), (126, .aload_n 0, 1), (127, .getfield 37, 3), (130, .iload_n 3, 1), (131, .aload_n 0, 1), (132, .getfield 37, 3), (135, .iload_n 3, 1), (136, .iconst 1, 1), (137, .iadd, 1), (138, .iaload, 1), (139, .iastore, 1), (140, .aload_n 0, 1), (141, .getfield 40, 3), (144, .iload_n 3, 1), (145, .aload_n 0, 1), (146, .getfield 40, 3), (149, .iload_n 3, 1), (150, .iconst 1, 1), (151, .iadd, 1), (152, .iaload, 1), (153, .iastore, 1), (154, .aload_n 0, 1), (155, .getfield 43, 3), (158, .iload_n 3, 1), (159, .aload_n 0, 1), (160, .getfield 43, 3), (163, .iload_n 3, 1), (164, .iconst 1, 1), (165, .iadd, 1), (166, .iaload, 1), (167, .iastore, 1), (168, .iinc 3 1, 3), (171, .goto (-69), 3), (174, .return_, 1)]
theorem D_Rf_forget : decAll prog_15_method_24_code L_Rf_forget = true := by decide +kernel
theorem K_Rf_forget : MK M_Rf_forget 1 := ⟨tb_in (i := 1230) (by decide +kernel) (by decide +kernel), tb_in (i := 12) (by decide +kernel) (by decide +kernel), by decide +kernel, by decide, by decide +kernel, by decide +kernel, by decide +kernel⟩
theorem I_Rf_forget : Cond.instanceMethod M_Rf_forget.1 ∈ tbG := tb_in (i := 1229) (by decide +kernel) (by decide +kernel)
theorem V_Rf_forget : MV M_Rf_forget := ⟨I_Rf_forget, ts_in (i := 78) (by decide +kernel) (by decide +kernel)⟩
def y_Rf_addMeaning : MethodName := ⟨"RescanMillModel", "addMeaning", "(IIII)V"⟩
abbrev M_Rf_addMeaning : mt_T := (y_Rf_addMeaning, prog_15_method_25_code, 6, none)
def L_Rf_addMeaning : List (Nat × Instr × Nat) := [(0, .aload_n 0, 1), (1, .getfield 34, 3), (4, .aload_n 0, 1), (5, .getfield 188, 3), (8, .aload_n 0, 1), (9, .getfield 191, 3), (12, .iastore, 1), (13, .aload_n 0, 1), (14, .getfield 37, 3), (17, .aload_n 0, 1), (18, .getfield 188, 3), (21, .iload_n 2, 1), (22, .iastore, 1), (23, .aload_n 0, 1), (24, .getfield 40, 3), (27, .aload_n 0, 1), (28, .getfield 188, 3), (31, .iload 4, 2), (33, .iastore, 1), (34, .aload_n 0, 1), (35, .getfield 43, 3), (38, .aload_n 0, 1), (39, .getfield 188, 3), (42, .iconst 0, 1), (43, .iastore, 1), (44, .iconst 0, 1), (45, .istore 5, 2), (47, .iload 5, 2), (49, .iload_n 2, 1), (50, .if_icmp .ge 30, 3), (53, .aload_n 0, 1), (54, .getfield 46, 3), (57, .aload_n 0, 1), (58, .getfield 191, 3), (61, .iload 5, 2), (63, .iadd, 1), (64, .aload_n 0, 1), (65, .getfield 56, 3), (68, .iload_n 1, 1), (69, .iload 5, 2), (71, .iadd, 1), (72, .baload, 1), (73, .bastore, 1), (74, .iinc 5 1, 3), (77, .goto (-30), 3), (80, .iconst 0, 1), (81, .istore 5, 2), (83, .iload 5, 2), (85, .iload 4, 2), (87, .if_icmp .ge 32, 3), (90, .aload_n 0, 1), (91, .getfield 46, 3), (94, .aload_n 0, 1), (95, .getfield 191, 3), (98, .iload_n 2, 1), (99, .iadd, 1), (100, .iload 5, 2), (102, .iadd, 1), (103, .aload_n 0, 1), (104, .getfield 56, 3), (107, .iload_n 3, 1), (108, .iload 5, 2), (110, .iadd, 1), (111, .baload, 1), (112, .bastore, 1), (113, .iinc 5 1, 3), (116, .goto (-33), 3), (119, .aload_n 0, 1), (120, .aload_n 0, 1), (121, .getfield 191, 3), (124, .iload_n 2, 1), (125, .iadd, 1), (126, .iload 4, 2), (128, .iadd, 1), (129, .putfield 191, 3), (132, .aload_n 0, 1), (133, .dup, 1), (134, .getfield 194, 3), (137, .iconst 1, 1), (138, .iadd, 1), (139, .putfield 194, 3), (142, .aload_n 0, 1), (143, .aload_n 0, 1), (144, .getfield 197, 3), (147, .iload_n 2, 1), (148, .iadd, 1), (149, .iload 4, 2), (151, .iadd, 1), (152, .putfield 197, 3), (155, .aload_n 0, 1), (156, .dup, 1), (157, .getfield 188, 3), (160, .iconst 1, 1), (161, .iadd, 1), (162, .putfield 188, 3), (165, .return_, 1)]
theorem D_Rf_addMeaning : decAll prog_15_method_25_code L_Rf_addMeaning = true := by decide +kernel
theorem K_Rf_addMeaning : MK M_Rf_addMeaning 4 := ⟨tb_in (i := 1234) (by decide +kernel) (by decide +kernel), tb_in (i := 12) (by decide +kernel) (by decide +kernel), by decide +kernel, by decide, by decide +kernel, by decide +kernel, by decide +kernel⟩
theorem I_Rf_addMeaning : Cond.instanceMethod M_Rf_addMeaning.1 ∈ tbG := tb_in (i := 1233) (by decide +kernel) (by decide +kernel)
theorem V_Rf_addMeaning : MV M_Rf_addMeaning := ⟨I_Rf_addMeaning, ts_in (i := 79) (by decide +kernel) (by decide +kernel)⟩
def y_Rf_choose : MethodName := ⟨"RescanMillModel", "choose", "(II)V"⟩
abbrev M_Rf_choose : mt_T := (y_Rf_choose, prog_15_method_44_code, 6, none)
def L_Rf_choose : List (Nat × Instr × Nat) := [(0, .iconst 1, 1), (1, .istore_n 3, 1), (2, .iload_n 2, 1), (3, .iconst 3, 1), (4, .if_icmp .ge 7, 3), (7, .iconst 1, 1), (8, .goto 4, 3), (11, .iconst 0, 1), (12, .istore 4, 2), (14, .iload 4, 2), (16, .ifCond .ne 70, 3), (19, .iload_n 2, 1), (20, .iload_n 3, 1), (21, .isub, 1), (22, .iconst 1, 1), (23, .iadd, 1), (24, .istore 5, 2), (26, .aload_n 0, 1), (27, .iload_n 1, 1), (28, .iload_n 3, 1), (29, .iload_n 3, 1), (30, .iconst 1, 1), (31, .iadd, 1), (32, .invokevirtual 321, 3), (35, .ifCond .eq 17, 3), (38, .aload_n 0, 1), (39, .iload_n 1, 1), (40, .iload_n 3, 1), (41, .iconst 2, 1), (42, .iadd, 1), (43, .invokevirtual 275, 3), (46, .iconst 1, 1), (47, .istore 4, 2), (49, .goto 34, 3), (52, .iload 5, 2), (54, .bipush 6, 2), (56, .if_icmp .ge 23, 3), (59, .iload 5, 2), (61, .iconst 3, 1), (62, .if_icmp .le 11, 3), (65, .aload_n 0, 1), (66, .iload_n 1, 1), (67, .iload_n 3, 1), (68, .iconst 3, 1), (69, .iadd, 1), (70, .invokevirtual 275, 3), (73, .iconst 1, 1), (74, .istore 4, 2), (76, .goto 7, 3), (79, .iload_n 3, 1), (80, .iconst 3, 1), (81, .iadd, 1), (82, .istore_n 3, 1), (83, .goto (-69), 3), (86, .return_, 1)]
theorem D_Rf_choose : decAll prog_15_method_44_code L_Rf_choose = true := by decide +kernel
theorem K_Rf_choose : MK M_Rf_choose 2 := ⟨tb_in (i := 1238) (by decide +kernel) (by decide +kernel), tb_in (i := 12) (by decide +kernel) (by decide +kernel), by decide +kernel, by decide, by decide +kernel, by decide +kernel, by decide +kernel⟩
theorem I_Rf_choose : Cond.instanceMethod M_Rf_choose.1 ∈ tbG := tb_in (i := 1237) (by decide +kernel) (by decide +kernel)
theorem V_Rf_choose : MV M_Rf_choose := ⟨I_Rf_choose, ts_in (i := 80) (by decide +kernel) (by decide +kernel)⟩
def y_Rf_same : MethodName := ⟨"RescanMillModel", "same", "(III)Z"⟩
abbrev M_Rf_same : mt_T := (y_Rf_same, prog_15_method_39_code, 6, (some (.boolean)))
def L_Rf_same : List (Nat × Instr × Nat) := [(0, .aload_n 0, 1), (1, .iload_n 1, 1), (2, .iload_n 2, 1), (3, .invokevirtual 272, 3), (6, .aload_n 0, 1), (7, .iload_n 1, 1), (8, .iload_n 3, 1), (9, .invokevirtual 272, 3), (12, .if_icmp .ne 7, 3), (15, .iconst 1, 1), (16, .goto 4, 3), (19, .iconst 0, 1), (20, .istore 4, 2), (22, .iconst 0, 1), (23, .istore 5, 2), (25, .iload 5, 2), (27, .aload_n 0, 1), (28, .iload_n 1, 1), (29, .iload_n 2, 1), (30, .invokevirtual 272, 3), (33, .if_icmp .ge 52, 3), (36, .iload 4, 2), (38, .ifCond .eq 47, 3), (41, .aload_n 0, 1), (42, .getfield 56, 3), (45, .aload_n 0, 1), (46, .iload_n 1, 1), (47, .iload_n 2, 1), (48, .invokevirtual 268, 3), (51, .iload 5, 2), (53, .iadd, 1), (54, .baload, 1), (55, .aload_n 0, 1), (56, .getfield 56, 3), (59, .aload_n 0, 1), (60, .iload_n 1, 1), (61, .iload_n 3, 1), (62, .invokevirtual 268, 3), (65, .iload 5, 2), (67, .iadd, 1), (68, .baload, 1), (69, .if_icmp .ne 7, 3), (72, .iconst 1, 1), (73, .goto 4, 3), (76, .iconst 0, 1), (77, .istore 4, 2), (79, .iinc 5 1, 3), (82, .goto (-57), 3), (85, .iload 4, 2), (87, .ireturn, 1)]
theorem D_Rf_same : decAll prog_15_method_39_code L_Rf_same = true := by decide +kernel
theorem K_Rf_same : MK M_Rf_same 3 := ⟨tb_in (i := 1242) (by decide +kernel) (by decide +kernel), tb_in (i := 12) (by decide +kernel) (by decide +kernel), by decide +kernel, by decide, by decide +kernel, by decide +kernel, by decide +kernel⟩
theorem I_Rf_same : Cond.instanceMethod M_Rf_same.1 ∈ tbG := tb_in (i := 1241) (by decide +kernel) (by decide +kernel)
theorem V_Rf_same : MV M_Rf_same := ⟨I_Rf_same, ts_in (i := 81) (by decide +kernel) (by decide +kernel)⟩
def y_Rf_evaluate : MethodName := ⟨"RescanMillModel", "evaluate", "(I)V"⟩
abbrev M_Rf_evaluate : mt_T := (y_Rf_evaluate, prog_15_method_52_code, 3, none)
def L_Rf_evaluate : List (Nat × Instr × Nat) := [(0, .aload_n 0, 1), (1, .aload_n 0, 1), (2, .iload_n 1, 1), (3, .iconst 1, 1), (4, .invokevirtual 268, 3), (7, .putfield 334, 3), (10, .aload_n 0, 1), (11, .aload_n 0, 1), (12, .getfield 334, 3), (15, .aload_n 0, 1), (16, .iload_n 1, 1), (17, .iconst 1, 1), (18, .invokevirtual 272, 3), (21, .iadd, 1), (22, .putfield 337, 3), (25, .aload_n 0, 1), (26, .iconst 0, 1), (27, .putfield 343, 3), (30, .aload_n 0, 1), (31, .iconst 0, 1), (32, .putfield 347, 3), (35, .aload_n 0, 1), (36, .iconst 0, 1), (37, .putfield 350, 3), (40, .aload_n 0, 1), (41, .iconst 0, 1), (42, .putfield 353, 3), (45, .aload_n 0, 1), (46, .invokevirtual 356, 3), (49, .istore_n 2, 1), (50, .aload_n 0, 1), (51, .getfield 343, 3), (54, .ifCond .ne 14, 3), (57, .aload_n 0, 1), (58, .getfield 334, 3), (61, .aload_n 0, 1), (62, .getfield 337, 3), (65, .if_icmp .ge 12, 3), (68, .aload_n 0, 1), (69, .bipush 38, 2), (71, .invokevirtual 84, 3), (74, .goto 25, 3), (77, .aload_n 0, 1), (78, .getfield 347, 3), (81, .ifCond .eq 12, 3), (84, .aload_n 0, 1), (85, .bipush 39, 2), (87, .invokevirtual 84, 3), (90, .goto 9, 3), (93, .aload_n 0, 1), (94, .iload_n 2, 1), (95, .i2l, 1), (96, .invokevirtual 278, 3), (99, .return_, 1)]
theorem D_Rf_evaluate : decAll prog_15_method_52_code L_Rf_evaluate = true := by decide +kernel
theorem K_Rf_evaluate : MK M_Rf_evaluate 1 := ⟨tb_in (i := 1246) (by decide +kernel) (by decide +kernel), tb_in (i := 12) (by decide +kernel) (by decide +kernel), by decide +kernel, by decide, by decide +kernel, by decide +kernel, by decide +kernel⟩
theorem I_Rf_evaluate : Cond.instanceMethod M_Rf_evaluate.1 ∈ tbG := tb_in (i := 1245) (by decide +kernel) (by decide +kernel)
theorem V_Rf_evaluate : MV M_Rf_evaluate := ⟨I_Rf_evaluate, ts_in (i := 82) (by decide +kernel) (by decide +kernel)⟩
def y_Rf_operands : MethodName := ⟨"RescanMillModel", "operands", "()I"⟩
abbrev M_Rf_operands : mt_T := (y_Rf_operands, prog_15_method_56_code, 4, (some (.int)))
def L_Rf_operands : List (Nat × Instr × Nat) := [(0, .aload_n 0, 1), (1, .getfield 353, 3), (4, .istore_n 1, 1), (5, .aload_n 0, 1), (6, .invokevirtual 363, 3), (9, .istore_n 2, 1), (10, .aload_n 0, 1), (11, .invokevirtual 366, 3), (14, .aload_n 0, 1), (15, .getfield 343, 3), (18, .ifCond .ne 116, 3), (21, .aload_n 0, 1), (22, .invokevirtual 369, 3), (25, .ifCond .le 109, 3), (28, .aload_n 0, 1), (29, .invokevirtual 369, 3), (32, .istore_n 3, 1), (33, .aload_n 0, 1), (34, .aload_n 0, 1), (35, .getfield 334, 3), (38, .iload_n 3, 1), (39, .invokestatic 372, 3), (42, .ifCond .eq 7, 3), (45, .iconst 2, 1), (46, .goto 4, 3), (49, .iconst 1, 1), (50, .iadd, 1), (51, .putfield 334, 3), (54, .aload_n 0, 1), (55, .getfield 353, 3), (58, .iload_n 1, 1), (59, .if_icmp .le 33, 3), (62, .aload_n 0, 1), (63, .getfield 62, 3), (66, .aload_n 0, 1), (67, .getfield 353, 3), (70, .iconst 1, 1), (71, .isub, 1), (72, .iaload, 1), (73, .bipush 10, 2), (75, .idiv, 1), (76, .iload_n 3, 1), (77, .bipush 10, 2), (79, .idiv, 1), (80, .if_icmp .lt 12, 3), (83, .aload_n 0, 1), (84, .iload_n 2, 1), (85, .invokevirtual 375, 3), (88, .istore_n 2, 1), (89, .goto (-35), 3), (92, .aload_n 0, 1), (93, .getfield 62, 3), (96, .aload_n 0, 1), (97, .getfield 353, 3), (100, .iload_n 3, 1), (101, .iastore, 1), (102, .aload_n 0, 1), (103, .getfield 65, 3), (106, .aload_n 0, 1), (107, .getfield 353, 3), (110, .iload_n 2, 1), (111, .iastore, 1), (112, .aload_n 0, 1), (113, .dup, 1), (114, .getfield 353, 3), (117, .iconst 1, 1), (118, .iadd, 1), (119, .putfield 353, 3), (122, .aload_n 0, 1), (123, .invokevirtual 363, 3), (126, .istore_n 2, 1), (127, .aload_n 0, 1), (128, .invokevirtual 366, 3), (131, .goto (-117), 3), (134, .aload_n 0, 1), (135, .getfield 353, 3), (138, .iload_n 1, 1), (139, .if_icmp .le 12, 3), (142, .aload_n 0, 1), (143, .iload_n 2, 1), (144, .invokevirtual 375, 3), (147, .istore_n 2, 1), (148, .goto (-14), 3), (151, .iload_n 2, 1), (152, .ireturn, 1)]
theorem D_Rf_operands : decAll prog_15_method_56_code L_Rf_operands = true := by decide +kernel
theorem K_Rf_operands : MK M_Rf_operands 0 := ⟨tb_in (i := 1250) (by decide +kernel) (by decide +kernel), tb_in (i := 12) (by decide +kernel) (by decide +kernel), by decide +kernel, by decide, by decide +kernel, by decide +kernel, by decide +kernel⟩
theorem I_Rf_operands : Cond.instanceMethod M_Rf_operands.1 ∈ tbG := tb_in (i := 1249) (by decide +kernel) (by decide +kernel)
theorem V_Rf_operands : MV M_Rf_operands := ⟨I_Rf_operands, ts_in (i := 83) (by decide +kernel) (by decide +kernel)⟩
def y_Rf_unary : MethodName := ⟨"RescanMillModel", "unary", "()I"⟩
abbrev M_Rf_unary : mt_T := (y_Rf_unary, prog_15_method_58_code, 4, (some (.int)))
def L_Rf_unary : List (Nat × Instr × Nat) := [(0, .aload_n 0, 1), (1, .invokevirtual 366, 3), (4, .aload_n 0, 1), (5, .iconst 0, 1), (6, .invokevirtual 340, 3), (9, .istore_n 1, 1), (10, .iload_n 1, 1), (11, .invokestatic 136, 3), (14, .ifCond .eq 8, 3), (17, .aload_n 0, 1), (18, .invokevirtual 378, 3), (21, .ireturn, 1), (22, .iload_n 1, 1), (23, .bipush 40, 2), (25, .if_icmp .ne 7, 3), (28, .iconst 1, 1), (29, .goto 4, 3), (32, .iconst 0, 1), (33, .istore_n 2, 1), (34, .aload_n 0, 1), (35, .getfield 343, 3), (38, .ifCond .ne 31, 3), (41, .iload_n 2, 1), (42, .ifCond .ne 34, 3), (45, .iload_n 1, 1), (46, .bipush 43, 2), (48, .if_icmp .eq 28, 3), (51, .iload_n 1, 1), (52, .bipush 45, 2), (54, .if_icmp .eq 22, 3), (57, .iload_n 1, 1), (58, .bipush 126, 2), (60, .if_icmp .eq 16, 3), (63, .iload_n 1, 1), (64, .bipush 33, 2), (66, .if_icmp .eq 10, 3), (69, .aload_n 0, 1), (70, .iconst 1, 1), (71, .putfield 343, 3), (74, .iconst 0, 1), (75, .ireturn, 1), (76, .aload_n 0, 1), (77, .dup, 1), (78, .getfield 334, 3), (81, .iconst 1, 1), (82, .iadd, 1), (83, .putfield 334, 3), (86, .aload_n 0, 1), (87, .dup, 1), (88, .getfield 350, 3), (91, .iconst 1, 1), (92, .iadd, 1), (93, .putfield 350, 3), (96, .aload_n 0, 1), (97, .aload_n 0, 1), (98, .getfield 350, 3), (101, .bipush 30, 2), (103, .if_icmp .le 7, 3), (106, .iconst 1, 1), (107, .goto 4, 3), (110, .iconst 0, 1), (111, .putfield 343, 3), (114, .aload_n 0, 1), (115, .getfield 343, 3), (118, .ifCond .eq 7, 3), (121, .iconst 0, 1), (122, .goto 18, 3), (125, .iload_n 2, 1), (126, .ifCond .eq 10, 3), (129, .aload_n 0, 1), (130, .invokevirtual 356, 3), (133, .goto 7, 3), (136, .aload_n 0, 1), (137, .invokevirtual 363, 3), (140, .istore_n 3, 1), (141, .aload_n 0, 1), (142, .dup, 1), (143, .getfield 350, 3), (146, .iconst 1, 1), (147, .isub, 1), (148, .putfield 350, 3), (151, .iload_n 2, 1), (152, .ifCond .eq 45, 3), (155, .aload_n 0, 1), (156, .invokevirtual 366, 3), (159, .aload_n 0, 1), (160, .aload_n 0, 1), (161, .getfield 343, 3), (164, .ifCond .ne 13, 3), (167, .aload_n 0, 1), (168, .iconst 0, 1), (169, .invokevirtual 340, 3), (172, .bipush 41, 2), (174, .if_icmp .eq 7, 3), (177, .iconst 1, 1), (178, .goto 4, 3), (181, .iconst 0, 1), (182, .putfield 343, 3), (185, .aload_n 0, 1), (186, .dup, 1), (187, .getfield 334, 3), (190, .iconst 1, 1), (191, .iadd, 1), (192, .putfield 334, 3), (195, .iload_n 3, 1), (196, .ireturn, 1), (197, .iload_n 1, 1), (198, .bipush 43, 2), (200, .if_icmp .ne 7, 3), (203, .iload_n 3, 1), (204, .goto 35, 3), (207, .iload_n 1, 1), (208, .bipush 45, 2), (210, .if_icmp .ne 8, 3), (213, .iload_n 3, 1), (214, .ineg, 1), (215, .goto 24, 3), (218, .iload_n 1, 1), (219, .bipush 126, 2), (221, .if_icmp .ne 9, 3), (224, .iload_n 3, 1), (225, .iconst (-1), 1), (226, .ixor, 1), (227, .goto 12, 3), (230, .iload_n 3, 1), (231, .ifCond .ne 7, 3), (234, .iconst 1, 1), (235, .goto 4, 3), (238, .iconst 0, 1), (239, .ireturn, 1)]
theorem D_Rf_unary : decAll prog_15_method_58_code L_Rf_unary = true := by decide +kernel
theorem K_Rf_unary : MK M_Rf_unary 0 := ⟨tb_in (i := 1254) (by decide +kernel) (by decide +kernel), tb_in (i := 12) (by decide +kernel) (by decide +kernel), by decide +kernel, by decide, by decide +kernel, by decide +kernel, by decide +kernel⟩
theorem I_Rf_unary : Cond.instanceMethod M_Rf_unary.1 ∈ tbG := tb_in (i := 1253) (by decide +kernel) (by decide +kernel)
theorem V_Rf_unary : MV M_Rf_unary := ⟨I_Rf_unary, ts_in (i := 84) (by decide +kernel) (by decide +kernel)⟩
def y_Rf_skipBlanks : MethodName := ⟨"RescanMillModel", "skipBlanks", "()V"⟩
abbrev M_Rf_skipBlanks : mt_T := (y_Rf_skipBlanks, prog_15_method_51_code, 1, none)
def L_Rf_skipBlanks : List (Nat × Instr × Nat) := [(0, .aload_n 0, 1), (1, .iconst 0, 1), (2, .invokevirtual 340, 3), (5, .invokestatic 262, 3), (8, .ifCond .ne 13, 3), (11, .aload_n 0, 1), (12, .iconst 0, 1), (13, .invokevirtual 340, 3), (16, .bipush 10, 2), (18, .if_icmp .ne 16, 3), (21, .aload_n 0, 1), (22, .dup, 1), (23, .getfield 334, 3), (26, .iconst 1, 1), (27, .iadd, 1), (28, .putfield 334, 3), (31, .goto (-31), 3), (34, .return_, 1)]
theorem D_Rf_skipBlanks : decAll prog_15_method_51_code L_Rf_skipBlanks = true := by decide +kernel
theorem K_Rf_skipBlanks : MK M_Rf_skipBlanks 0 := ⟨tb_in (i := 1258) (by decide +kernel) (by decide +kernel), tb_in (i := 12) (by decide +kernel) (by decide +kernel), by decide +kernel, by decide, by decide +kernel, by decide +kernel, by decide +kernel⟩
theorem I_Rf_skipBlanks : Cond.instanceMethod M_Rf_skipBlanks.1 ∈ tbG := tb_in (i := 1257) (by decide +kernel) (by decide +kernel)
theorem V_Rf_skipBlanks : MV M_Rf_skipBlanks := ⟨I_Rf_skipBlanks, ts_in (i := 85) (by decide +kernel) (by decide +kernel)⟩
def y_Rf_sign : MethodName := ⟨"RescanMillModel", "sign", "(I)I"⟩
abbrev M_Rf_sign : mt_T := (y_Rf_sign, prog_15_method_50_code, 2, (some (.int)))
def L_Rf_sign : List (Nat × Instr × Nat) := [(0, .aload_n 0, 1), (1, .getfield 334, 3), (4, .iload_n 1, 1), (5, .iadd, 1), (6, .aload_n 0, 1), (7, .getfield 337, 3), (10, .if_icmp .ge 21, 3), (13, .aload_n 0, 1), (14, .getfield 56, 3), (17, .aload_n 0, 1), (18, .getfield 334, 3), (21, .iload_n 1, 1), (22, .iadd, 1), (23, .baload, 1), (24, .sipush 255, 3), (27, .iand, 1), (28, .goto 4, 3), (31, .iconst (-1), 1), (32, .ireturn, 1)]
theorem D_Rf_sign : decAll prog_15_method_50_code L_Rf_sign = true := by decide +kernel
theorem K_Rf_sign : MK M_Rf_sign 1 := ⟨tb_in (i := 1262) (by decide +kernel) (by decide +kernel), tb_in (i := 12) (by decide +kernel) (by decide +kernel), by decide +kernel, by decide, by decide +kernel, by decide +kernel, by decide +kernel⟩
theorem I_Rf_sign : Cond.instanceMethod M_Rf_sign.1 ∈ tbG := tb_in (i := 1261) (by decide +kernel) (by decide +kernel)
theorem V_Rf_sign : MV M_Rf_sign := ⟨I_Rf_sign, ts_in (i := 86) (by decide +kernel) (by decide +kernel)⟩
def y_Rf_numeral : MethodName := ⟨"RescanMillModel", "numeral", "()I"⟩
abbrev M_Rf_numeral : mt_T := (y_Rf_numeral, prog_15_method_59_code, 3, (some (.int)))
def L_Rf_numeral : List (Nat × Instr × Nat) := [(0, .iconst 0, 1), (1, .istore_n 1, 1), (2, .iconst 0, 1), (3, .istore_n 2, 1), (4, .aload_n 0, 1), (5, .iconst 0, 1), (6, .invokevirtual 340, 3), (9, .invokestatic 136, 3), (12, .ifCond .eq 43, 3), (15, .iload_n 2, 1), (16, .bipush 9, 2), (18, .if_icmp .ge 19, 3), (21, .bipush 10, 2), (23, .iload_n 1, 1), (24, .imul, 1), (25, .aload_n 0, 1), (26, .iconst 0, 1), (27, .invokevirtual 340, 3), (30, .iadd, 1), (31, .bipush 48, 2), (33, .isub, 1), (34, .goto 4, 3), (37, .iload_n 1, 1), (38, .istore_n 1, 1), (39, .iinc 2 1, 3), (42, .aload_n 0, 1), (43, .dup, 1), (44, .getfield 334, 3), (47, .iconst 1, 1), (48, .iadd, 1), (49, .putfield 334, 3), (52, .goto (-48), 3), (55, .aload_n 0, 1), (56, .aload_n 0, 1), (57, .getfield 343, 3), (60, .ifCond .ne 9, 3), (63, .iload_n 2, 1), (64, .bipush 9, 2), (66, .if_icmp .le 7, 3), (69, .iconst 1, 1), (70, .goto 4, 3), (73, .iconst 0, 1), (74, .putfield 343, 3), (77, .iload_n 1, 1), (78, .ireturn, 1)]
theorem D_Rf_numeral : decAll prog_15_method_59_code L_Rf_numeral = true := by decide +kernel
theorem K_Rf_numeral : MK M_Rf_numeral 0 := ⟨tb_in (i := 1266) (by decide +kernel) (by decide +kernel), tb_in (i := 12) (by decide +kernel) (by decide +kernel), by decide +kernel, by decide, by decide +kernel, by decide +kernel, by decide +kernel⟩
theorem I_Rf_numeral : Cond.instanceMethod M_Rf_numeral.1 ∈ tbG := tb_in (i := 1265) (by decide +kernel) (by decide +kernel)
theorem V_Rf_numeral : MV M_Rf_numeral := ⟨I_Rf_numeral, ts_in (i := 87) (by decide +kernel) (by decide +kernel)⟩
def y_Rf_operator : MethodName := ⟨"RescanMillModel", "operator", "()I"⟩
abbrev M_Rf_operator : mt_T := (y_Rf_operator, prog_15_method_53_code, 3, (some (.int)))
def L_Rf_operator : List (Nat × Instr × Nat) := [(0, .aload_n 0, 1), (1, .iconst 0, 1), (2, .invokevirtual 340, 3), (5, .istore_n 1, 1), (6, .aload_n 0, 1), (7, .iconst 1, 1), (8, .invokevirtual 340, 3), (11, .istore_n 2, 1), (12, .iload_n 1, 1), (13, .bipush 124, 2), (15, .if_icmp .ne 17, 3), (18, .iload_n 2, 1), (19, .bipush 124, 2), (21, .if_icmp .ne 8, 3), (24, .bipush 11, 2), (26, .goto 5, 3), (29, .bipush 31, 2), (31, .ireturn, 1), (32, .iload_n 1, 1), (33, .bipush 38, 2), (35, .if_icmp .ne 17, 3), (38, .iload_n 2, 1), (39, .bipush 38, 2), (41, .if_icmp .ne 8, 3), (44, .bipush 21, 2), (46, .goto 5, 3), (49, .bipush 51, 2), (51, .ireturn, 1), (52, .iload_n 1, 1), (53, .bipush 94, 2), (55, .if_icmp .ne 6, 3), (58, .bipush 41, 2), (60, .ireturn, 1), (61, .iload_n 1, 1), (62, .bipush 61, 2), (64, .if_icmp .eq 9, 3), (67, .iload_n 1, 1), (68, .bipush 33, 2), (70, .if_icmp .ne 27, 3), (73, .iload_n 2, 1), (74, .bipush 61, 2), (76, .if_icmp .eq 7, 3), (79, .iconst 0, 1), (80, .goto 16, 3), (83, .iload_n 1, 1), (84, .bipush 61, 2), (86, .if_icmp .ne 8, 3), (89, .bipush 61, 2), (91, .goto 5, 3), (94, .bipush 62, 2), (96, .ireturn, 1), (97, .iload_n 1, 1), (98, .bipush 60, 2), (100, .if_icmp .ne 28, 3), (103, .iload_n 2, 1), (104, .bipush 60, 2), (106, .if_icmp .ne 8, 3), (109, .bipush 81, 2), (111, .goto 16, 3), (114, .iload_n 2, 1), (115, .bipush 61, 2), (117, .if_icmp .ne 8, 3), (120, .bipush 73, 2), (122, .goto 5, 3), (125, .bipush 71, 2), (127, .ireturn, 1), (128, .iload_n 1, 1), (129, .bipush 62, 2), (131, .if_icmp .ne 28, 3), (134, .iload_n 2, 1), (135, .bipush 62, 2), (137, .if_icmp .ne 8, 3), (140, .bipush 82, 2), (142, .goto 16, 3), (145, .iload_n 2, 1), (146, .bipush 61, 2), (148, .if_icmp .ne 8, 3), (151, .bipush 74, 2), (153, .goto 5, 3), (156, .bipush 72, 2), (158, .ireturn, 1), (159, .iload_n 1, 1), (160, .bipush 43, 2), (162, .if_icmp .ne 8, 3), (165, .bipush 91, 2), (167, .goto 48, 3), (170, .iload_n 1, 1), (171, .bipush 45, 2), (173, .if_icmp .ne 8, 3), (176, .bipush 92, 2), (178, .goto 37, 3), (181, .iload_n 1, 1), (182, .bipush 42, 2), (184, .if_icmp .ne 8, 3), (187, .bipush 101, 2), (189, .goto 26, 3), (192, .iload_n 1, 1), (193, .bipush 47, 2), (195, .if_icmp .ne 8, 3), (198, .bipush 102, 2), (200, .goto 15, 3), (203, .iload_n 1, 1), (204, .bipush 37, 2), (206, .if_icmp .ne 8, 3), (209, .bipush 103, 2), (211, .goto 4, 3), (214, .iconst 0, 1), (215, .ireturn, 1)]
theorem D_Rf_operator : decAll prog_15_method_53_code L_Rf_operator = true := by decide +kernel
theorem K_Rf_operator : MK M_Rf_operator 0 := ⟨tb_in (i := 1270) (by decide +kernel) (by decide +kernel), tb_in (i := 12) (by decide +kernel) (by decide +kernel), by decide +kernel, by decide, by decide +kernel, by decide +kernel, by decide +kernel⟩
theorem I_Rf_operator : Cond.instanceMethod M_Rf_operator.1 ∈ tbG := tb_in (i := 1269) (by decide +kernel) (by decide +kernel)
theorem V_Rf_operator : MV M_Rf_operator := ⟨I_Rf_operator, ts_in (i := 88) (by decide +kernel) (by decide +kernel)⟩
def y_Rf_isLong : MethodName := ⟨"RescanMillModel", "isLong", "(I)Z"⟩
abbrev M_Rf_isLong : mt_T := (y_Rf_isLong, prog_15_method_54_code, 1, (some (.boolean)))
def L_Rf_isLong : List (Nat × Instr × Nat) := [(0, .iload_n 0, 1), (1, .bipush 11, 2), (3, .if_icmp .eq 45, 3), (6, .iload_n 0, 1), (7, .bipush 21, 2), (9, .if_icmp .eq 39, 3), (12, .iload_n 0, 1), (13, .bipush 61, 2), (15, .if_icmp .eq 33, 3), (18, .iload_n 0, 1), (19, .bipush 62, 2), (21, .if_icmp .eq 27, 3), (24, .iload_n 0, 1), (25, .bipush 73, 2), (27, .if_icmp .eq 21, 3), (30, .iload_n 0, 1), (31, .bipush 74, 2), (33, .if_icmp .eq 15, 3), (36, .iload_n 0, 1), (37, .bipush 81, 2), (39, .if_icmp .eq 9, 3), (42, .iload_n 0, 1), (43, .bipush 82, 2), (45, .if_icmp .ne 7, 3), (48, .iconst 1, 1), (49, .goto 4, 3), (52, .iconst 0, 1), (53, .ireturn, 1)]
theorem D_Rf_isLong : decAll prog_15_method_54_code L_Rf_isLong = true := by decide +kernel
theorem K_Rf_isLong : MK M_Rf_isLong 1 := ⟨tb_in (i := 1273) (by decide +kernel) (by decide +kernel), tb_in (i := 12) (by decide +kernel) (by decide +kernel), by decide +kernel, by decide, by decide +kernel, by decide +kernel, by decide +kernel⟩
theorem S_Rf_isLong : Cond.static M_Rf_isLong.1 ∈ tbG := tb_in (i := 1272) (by decide +kernel) (by decide +kernel)
def y_Rf_settle : MethodName := ⟨"RescanMillModel", "settle", "(I)I"⟩
abbrev M_Rf_settle : mt_T := (y_Rf_settle, prog_15_method_55_code, 2, (some (.int)))
def L_Rf_settle : List (Nat × Instr × Nat) := [(0, .aload_n 0, 1), (1, .dup, 1), (2, .getfield 353, 3), (5, .iconst 1, 1), (6, .isub, 1), (7, .putfield 353, 3), (10, .aload_n 0, 1), (11, .aload_n 0, 1), (12, .getfield 62, 3), (15, .aload_n 0, 1), (16, .getfield 353, 3), (19, .iaload, 1), (20, .aload_n 0, 1), (21, .getfield 65, 3), (24, .aload_n 0, 1), (25, .getfield 353, 3), (28, .iaload, 1), (29, .iload_n 1, 1), (30, .invokevirtual 359, 3), (33, .ireturn, 1)]
theorem D_Rf_settle : decAll prog_15_method_55_code L_Rf_settle = true := by decide +kernel
theorem K_Rf_settle : MK M_Rf_settle 1 := ⟨tb_in (i := 1277) (by decide +kernel) (by decide +kernel), tb_in (i := 12) (by decide +kernel) (by decide +kernel), by decide +kernel, by decide, by decide +kernel, by decide +kernel, by decide +kernel⟩
theorem I_Rf_settle : Cond.instanceMethod M_Rf_settle.1 ∈ tbG := tb_in (i := 1276) (by decide +kernel) (by decide +kernel)
theorem V_Rf_settle : MV M_Rf_settle := ⟨I_Rf_settle, ts_in (i := 89) (by decide +kernel) (by decide +kernel)⟩
def y_Rf_apply : MethodName := ⟨"RescanMillModel", "apply", "(III)I"⟩
abbrev M_Rf_apply : mt_T := (y_Rf_apply, prog_15_method_57_code, 4, (some (.int)))
def L_Rf_apply : List (Nat × Instr × Nat) := [(0, .iload_n 1, 1), (1, .lookupswitch 271 #[(11, 139), (21, 153), (31, 167), (41, 171), (51, 175), (61, 179), (62, 190), (71, 201), (72, 212), (73, 223), (74, 234), (81, 245), (82, 252), (91, 259), (92, 263), (101, 267)], 139), (140, .iload_n 2, 1), (141, .ifCond .ne 7, 3), (144, .iload_n 3, 1), (145, .ifCond .eq 7, 3), (148, .iconst 1, 1), (149, .goto 4, 3), (152, .iconst 0, 1), (153, .ireturn, 1), (154, .iload_n 2, 1), (155, .ifCond .eq 11, 3), (158, .iload_n 3, 1), (159, .ifCond .eq 7, 3), (162, .iconst 1, 1), (163, .goto 4, 3), (166, .iconst 0, 1), (167, .ireturn, 1), (168, .iload_n 2, 1), (169, .iload_n 3, 1), (170, .ior, 1), (171, .ireturn, 1), (172, .iload_n 2, 1), (173, .iload_n 3, 1), (174, .ixor, 1), (175, .ireturn, 1), (176, .iload_n 2, 1), (177, .iload_n 3, 1), (178, .iand, 1), (179, .ireturn, 1), (180, .iload_n 2, 1), (181, .iload_n 3, 1), (182, .if_icmp .ne 7, 3), (185, .iconst 1, 1), (186, .goto 4, 3), (189, .iconst 0, 1), (190, .ireturn, 1), (191, .iload_n 2, 1), (192, .iload_n 3, 1), (193, .if_icmp .eq 7, 3), (196, .iconst 1, 1), (197, .goto 4, 3), (200, .iconst 0, 1), (201, .ireturn, 1), (202, .iload_n 2, 1), (203, .iload_n 3, 1), (204, .if_icmp .ge 7, 3), (207, .iconst 1, 1), (208, .goto 4, 3), (211, .iconst 0, 1), (212, .ireturn, 1), (213, .iload_n 2, 1), (214, .iload_n 3, 1), (215, .if_icmp .le 7, 3), (218, .iconst 1, 1), (219, .goto 4, 3), (222, .iconst 0, 1), (223, .ireturn, 1), (224, .iload_n 2, 1), (225, .iload_n 3, 1), (226, .if_icmp .gt 7, 3), (229, .iconst 1, 1), (230, .goto 4, 3), (233, .iconst 0, 1), (234, .ireturn, 1), (235, .iload_n 2, 1), (236, .iload_n 3, 1), (237, .if_icmp .lt 7, 3), (240, .iconst 1, 1), (241, .goto 4, 3), (244, .iconst 0, 1), (245, .ireturn, 1), (246, .iload_n 2, 1), (247, .iload_n 3, 1), (248, .bipush 31, 2), (250, .iand, 1), (251, .ishl, 1), (252, .ireturn, 1), (253, .iload_n 2, 1), (254, .iload_n 3, 1), (255, .bipush 31, 2), (257, .iand, 1), (258, .ishr, 1), (259, .ireturn, 1), (260, .iload_n 2, 1), (261, .iload_n 3, 1), (262, .iadd, 1), (263, .ireturn, 1), (264, .iload_n 2, 1), (265, .iload_n 3, 1), (266, .isub, 1), (267, .ireturn, 1), (268, .iload_n 2, 1), (269, .iload_n 3, 1), (270, .imul, 1), (271, .ireturn, 1), (272, .aload_n 0, 1), (273, .aload_n 0, 1), (274, .getfield 347, 3), (277, .ifCond .ne 7, 3), (280, .iload_n 3, 1), (281, .ifCond .ne 7, 3), (284, .iconst 1, 1), (285, .goto 4, 3), (288, .iconst 0, 1), (289, .putfield 347, 3), (292, .iload_n 3, 1), (293, .ifCond .ne 7, 3), (296, .iconst 0, 1), (297, .goto 18, 3), (300, .iload_n 1, 1), (301, .bipush 102, 2), (303, .if_icmp .ne 9, 3), (306, .iload_n 2, 1), (307, .iload_n 3, 1), (308, .idiv, 1), (309, .goto 6, 3), (312, .iload_n 2, 1), (313, .iload_n 3, 1), (314, .irem, 1), (315, .ireturn, 1)]
theorem D_Rf_apply : decAll prog_15_method_57_code L_Rf_apply = true := by decide +kernel
theorem K_Rf_apply : MK M_Rf_apply 3 := ⟨tb_in (i := 1281) (by decide +kernel) (by decide +kernel), tb_in (i := 12) (by decide +kernel) (by decide +kernel), by decide +kernel, by decide, by decide +kernel, by decide +kernel, by decide +kernel⟩
theorem I_Rf_apply : Cond.instanceMethod M_Rf_apply.1 ∈ tbG := tb_in (i := 1280) (by decide +kernel) (by decide +kernel)
theorem V_Rf_apply : MV M_Rf_apply := ⟨I_Rf_apply, ts_in (i := 90) (by decide +kernel) (by decide +kernel)⟩
def y_Rf_number : MethodName := ⟨"RescanMillModel", "number", "(II)I"⟩
abbrev M_Rf_number : mt_T := (y_Rf_number, prog_15_method_40_code, 10, (some (.int)))
def L_Rf_number : List (Nat × Instr × Nat) := [(0, .aload_n 0, 1), (1, .iload_n 1, 1), (2, .iload_n 2, 1), (3, .invokevirtual 272, 3), (6, .istore_n 3, 1), (7, .aload_n 0, 1), (8, .iload_n 1, 1), (9, .iload_n 2, 1), (10, .invokevirtual 268, 3), (13, .istore 4, 2), (15, .iload_n 3, 1), (16, .ifCond .le 19, 3), (19, .aload_n 0, 1), (20, .getfield 56, 3), (23, .iload 4, 2), (25, .baload, 1), (26, .bipush 45, 2), (28, .if_icmp .ne 7, 3), (31, .iconst 1, 1), (32, .goto 4, 3), (35, .iconst 0, 1), (36, .istore 5, 2), (38, .iload 5, 2), (40, .ifCond .eq 9, 3), (43, .iload_n 3, 1), (44, .iconst 1, 1), (45, .isub, 1), (46, .goto 4, 3), (49, .iload_n 3, 1), (50, .istore 6, 2), (52, .iload_n 3, 1), (53, .ifCond .eq 15, 3), (56, .iload 6, 2), (58, .ifCond .le 14, 3), (61, .iload 6, 2), (63, .bipush 10, 2), (65, .if_icmp .ge 7, 3), (68, .iconst 1, 1), (69, .goto 4, 3), (72, .iconst 0, 1), (73, .istore 7, 2), (75, .iconst 0, 1), (76, .istore 8, 2), (78, .iload 5, 2), (80, .ifCond .eq 7, 3), (83, .iconst 1, 1), (84, .goto 4, 3), (87, .iconst 0, 1), (88, .istore 9, 2), (90, .iload 9, 2), (92, .iload_n 3, 1), (93, .if_icmp .ge 54, 3), (96, .iload 7, 2), (98, .ifCond .eq 49, 3), (101, .aload_n 0, 1), (102, .getfield 56, 3), (105, .iload 4, 2), (107, .iload 9, 2), (109, .iadd, 1), (110, .baload, 1), (111, .sipush 255, 3), (114, .iand, 1), (115, .invokestatic 136, 3), (118, .istore 7, 2), (120, .bipush 10, 2), (122, .iload 8, 2), (124, .imul, 1), (125, .aload_n 0, 1), (126, .getfield 56, 3), (129, .iload 4, 2), (131, .iload 9, 2), (133, .iadd, 1), (134, .baload, 1), (135, .iadd, 1), (136, .bipush 48, 2), (138, .isub, 1), (139, .istore 8, 2), (141, .iinc 9 1, 3), (144, .goto (-54), 3), (147, .iload 7, 2), (149, .ifCond .ne 9, 3), (152, .aload_n 0, 1), (153, .bipush 36, 2), (155, .invokevirtual 84, 3), (158, .iload 5, 2), (160, .ifCond .eq 9, 3), (163, .iload 8, 2), (165, .ineg, 1), (166, .goto 5, 3), (169, .iload 8, 2), (171, .ireturn, 1)]
theorem D_Rf_number : decAll prog_15_method_40_code L_Rf_number = true := by decide +kernel
theorem K_Rf_number : MK M_Rf_number 2 := ⟨tb_in (i := 1285) (by decide +kernel) (by decide +kernel), tb_in (i := 12) (by decide +kernel) (by decide +kernel), by decide +kernel, by decide, by decide +kernel, by decide +kernel, by decide +kernel⟩
theorem I_Rf_number : Cond.instanceMethod M_Rf_number.1 ∈ tbG := tb_in (i := 1284) (by decide +kernel) (by decide +kernel)
theorem V_Rf_number : MV M_Rf_number := ⟨I_Rf_number, ts_in (i := 91) (by decide +kernel) (by decide +kernel)⟩
def y_Rf_giveIfRight : MethodName := ⟨"RescanMillModel", "giveIfRight", "(J)V"⟩
abbrev M_Rf_giveIfRight : mt_T := (y_Rf_giveIfRight, prog_15_method_42_code, 3, none)
def L_Rf_giveIfRight : List (Nat × Instr × Nat) := [(0, .aload_n 0, 1), (1, .getfield 72, 3), (4, .ifCond .ne 8, 3), (7, .aload_n 0, 1), (8, .lload_n 1, 1), (9, .invokevirtual 278, 3), (12, .return_, 1)]
theorem D_Rf_giveIfRight : decAll prog_15_method_42_code L_Rf_giveIfRight = true := by decide +kernel
theorem K_Rf_giveIfRight : MK M_Rf_giveIfRight 1 := ⟨tb_in (i := 1289) (by decide +kernel) (by decide +kernel), tb_in (i := 12) (by decide +kernel) (by decide +kernel), by decide +kernel, by decide, by decide +kernel, by decide +kernel, by decide +kernel⟩
theorem I_Rf_giveIfRight : Cond.instanceMethod M_Rf_giveIfRight.1 ∈ tbG := tb_in (i := 1288) (by decide +kernel) (by decide +kernel)
theorem V_Rf_giveIfRight : MV M_Rf_giveIfRight := ⟨I_Rf_giveIfRight, ts_in (i := 92) (by decide +kernel) (by decide +kernel)⟩
def y_Rf_placeOf : MethodName := ⟨"RescanMillModel", "placeOf", "(I)I"⟩
abbrev M_Rf_placeOf : mt_T := (y_Rf_placeOf, prog_15_method_45_code, 7, (some (.int)))
def L_Rf_placeOf : List (Nat × Instr × Nat) := [(0, .aload_n 0, 1), (1, .iload_n 1, 1), (2, .iconst 1, 1), (3, .invokevirtual 272, 3), (6, .istore_n 2, 1), (7, .aload_n 0, 1), (8, .iload_n 1, 1), (9, .iconst 2, 1), (10, .invokevirtual 272, 3), (13, .istore_n 3, 1), (14, .iconst 0, 1), (15, .istore 4, 2), (17, .iload 4, 2), (19, .iload_n 3, 1), (20, .iadd, 1), (21, .iload_n 2, 1), (22, .if_icmp .gt 81, 3), (25, .iconst 1, 1), (26, .istore 5, 2), (28, .iconst 0, 1), (29, .istore 6, 2), (31, .iload 6, 2), (33, .iload_n 3, 1), (34, .if_icmp .ge 55, 3), (37, .iload 5, 2), (39, .ifCond .eq 50, 3), (42, .aload_n 0, 1), (43, .getfield 56, 3), (46, .aload_n 0, 1), (47, .iload_n 1, 1), (48, .iconst 1, 1), (49, .invokevirtual 268, 3), (52, .iload 4, 2), (54, .iadd, 1), (55, .iload 6, 2), (57, .iadd, 1), (58, .baload, 1), (59, .aload_n 0, 1), (60, .getfield 56, 3), (63, .aload_n 0, 1), (64, .iload_n 1, 1), (65, .iconst 2, 1), (66, .invokevirtual 268, 3), (69, .iload 6, 2), (71, .iadd, 1), (72, .baload, 1), (73, .if_icmp .ne 7, 3), (76, .iconst 1, 1), (77, .goto 4, 3), (80, .iconst 0, 1), (81, .istore 5, 2), (83, .iinc 6 1, 3), (86, .goto (-55), 3), (89, .iload 5, 2), (91, .ifCond .eq 6, 3), (94, .iload 4, 2), (96, .ireturn, 1), (97, .iinc 4 1, 3), (100, .goto (-83), 3), (103, .iconst (-1), 1), (104, .ireturn, 1)]
theorem D_Rf_placeOf : decAll prog_15_method_45_code L_Rf_placeOf = true := by decide +kernel
theorem K_Rf_placeOf : MK M_Rf_placeOf 1 := ⟨tb_in (i := 1293) (by decide +kernel) (by decide +kernel), tb_in (i := 12) (by decide +kernel) (by decide +kernel), by decide +kernel, by decide, by decide +kernel, by decide +kernel, by decide +kernel⟩
theorem I_Rf_placeOf : Cond.instanceMethod M_Rf_placeOf.1 ∈ tbG := tb_in (i := 1292) (by decide +kernel) (by decide +kernel)
theorem V_Rf_placeOf : MV M_Rf_placeOf := ⟨I_Rf_placeOf, ts_in (i := 93) (by decide +kernel) (by decide +kernel)⟩
def y_Rf_giveSome : MethodName := ⟨"RescanMillModel", "giveSome", "(II)V"⟩
abbrev M_Rf_giveSome : mt_T := (y_Rf_giveSome, prog_15_method_46_code, 7, none)
def L_Rf_giveSome : List (Nat × Instr × Nat) := [(0, .aload_n 0, 1), (1, .iload_n 1, 1), (2, .iconst 1, 1), (3, .invokevirtual 272, 3), (6, .istore_n 3, 1), (7, .aload_n 0, 1), (8, .iload_n 1, 1), (9, .iconst 2, 1), (10, .invokevirtual 299, 3), (13, .istore 4, 2), (15, .iload_n 2, 1), (16, .iconst 2, 1), (17, .if_icmp .le 12, 3), (20, .aload_n 0, 1), (21, .iload_n 1, 1), (22, .iconst 3, 1), (23, .invokevirtual 299, 3), (26, .goto 4, 3), (29, .iload_n 3, 1), (30, .istore 5, 2), (32, .iload 4, 2), (34, .istore 6, 2), (36, .aload_n 0, 1), (37, .getfield 72, 3), (40, .ifCond .ne 48, 3), (43, .iload 4, 2), (45, .ifCond .lt 43, 3), (48, .iload 6, 2), (50, .iload_n 3, 1), (51, .if_icmp .ge 37, 3), (54, .iload 6, 2), (56, .iload 4, 2), (58, .isub, 1), (59, .iload 5, 2), (61, .if_icmp .ge 27, 3), (64, .aload_n 0, 1), (65, .aload_n 0, 1), (66, .getfield 56, 3), (69, .aload_n 0, 1), (70, .iload_n 1, 1), (71, .iconst 1, 1), (72, .invokevirtual 268, 3), (75, .iload 6, 2), (77, .iadd, 1), (78, .baload, 1), (79, .invokevirtual 145, 3), (82, .iinc 6 1, 3), (85, .goto (-49), 3), (88, .return_, 1)]
theorem D_Rf_giveSome : decAll prog_15_method_46_code L_Rf_giveSome = true := by decide +kernel
theorem K_Rf_giveSome : MK M_Rf_giveSome 2 := ⟨tb_in (i := 1297) (by decide +kernel) (by decide +kernel), tb_in (i := 12) (by decide +kernel) (by decide +kernel), by decide +kernel, by decide, by decide +kernel, by decide +kernel, by decide +kernel⟩
theorem I_Rf_giveSome : Cond.instanceMethod M_Rf_giveSome.1 ∈ tbG := tb_in (i := 1296) (by decide +kernel) (by decide +kernel)
theorem V_Rf_giveSome : MV M_Rf_giveSome := ⟨I_Rf_giveSome, ts_in (i := 94) (by decide +kernel) (by decide +kernel)⟩
def y_Rf_actOnInput : MethodName := ⟨"RescanMillModel", "actOnInput", "(III)V"⟩
abbrev M_Rf_actOnInput : mt_T := (y_Rf_actOnInput, prog_15_method_47_code, 6, none)
def L_Rf_actOnInput : List (Nat × Instr × Nat) := [(0, .iload_n 1, 1), (1, .bipush 14, 2), (3, .if_icmp .ne 48, 3), (6, .iconst 1, 1), (7, .istore 4, 2), (9, .iload 4, 2), (11, .ifCond .eq 37, 3), (14, .aload_n 0, 1), (15, .iconst 0, 1), (16, .invokevirtual 101, 3), (19, .ifCond .lt 29, 3), (22, .aload_n 0, 1), (23, .getfield 72, 3), (26, .ifCond .ne 22, 3), (29, .aload_n 0, 1), (30, .invokevirtual 105, 3), (33, .bipush 10, 2), (35, .if_icmp .eq 7, 3), (38, .iconst 1, 1), (39, .goto 4, 3), (42, .iconst 0, 1), (43, .istore 4, 2), (45, .goto (-36), 3), (48, .goto 161, 3), (51, .iload_n 1, 1), (52, .bipush 15, 2), (54, .if_icmp .ne 49, 3), (57, .aload_n 0, 1), (58, .iload_n 2, 1), (59, .iconst 1, 1), (60, .invokevirtual 299, 3), (63, .istore 4, 2), (65, .aload_n 0, 1), (66, .getfield 72, 3), (69, .ifCond .ne 16, 3), (72, .iload 4, 2), (74, .bipush 9, 2), (76, .if_icmp .le 9, 3), (79, .aload_n 0, 1), (80, .bipush 36, 2), (82, .invokevirtual 84, 3), (85, .aload_n 0, 1), (86, .iload 4, 2), (88, .ifCond .ge 7, 3), (91, .iconst (-1), 1), (92, .goto 5, 3), (95, .iload 4, 2), (97, .putfield 220, 3), (100, .goto 109, 3), (103, .iload_n 1, 1), (104, .bipush 16, 2), (106, .if_icmp .ne 97, 3), (109, .iload_n 3, 1), (110, .ifCond .eq 17, 3), (113, .iload_n 3, 1), (114, .iconst 1, 1), (115, .if_icmp .ne 41, 3), (118, .aload_n 0, 1), (119, .iload_n 2, 1), (120, .iconst 1, 1), (121, .invokevirtual 272, 3), (124, .ifCond .ne 32, 3), (127, .iconst 1, 1), (128, .istore 4, 2), (130, .iload 4, 2), (132, .bipush 10, 2), (134, .if_icmp .ge 22, 3), (137, .aload_n 0, 1), (138, .getfield 72, 3), (141, .ifCond .ne 15, 3), (144, .aload_n 0, 1), (145, .iload 4, 2), (147, .invokevirtual 325, 3), (150, .iinc 4 1, 3), (153, .goto (-23), 3), (156, .iconst 1, 1), (157, .istore 4, 2), (159, .iload 4, 2), (161, .iload_n 3, 1), (162, .if_icmp .gt 38, 3), (165, .aload_n 0, 1), (166, .getfield 72, 3), (169, .ifCond .ne 31, 3), (172, .aload_n 0, 1), (173, .iload_n 2, 1), (174, .iload 4, 2), (176, .invokevirtual 299, 3), (179, .istore 5, 2), (181, .aload_n 0, 1), (182, .getfield 72, 3), (185, .ifCond .ne 9, 3), (188, .aload_n 0, 1), (189, .iload 5, 2), (191, .invokevirtual 325, 3), (194, .iinc 4 1, 3), (197, .goto (-38), 3), (200, .goto 9, 3), (203, .aload_n 0, 1), (204, .iload_n 2, 1), (205, .iload_n 3, 1), (206, .invokevirtual 327, 3), (209, .return_, 1)]
theorem D_Rf_actOnInput : decAll prog_15_method_47_code L_Rf_actOnInput = true := by decide +kernel
theorem K_Rf_actOnInput : MK M_Rf_actOnInput 3 := ⟨tb_in (i := 1301) (by decide +kernel) (by decide +kernel), tb_in (i := 12) (by decide +kernel) (by decide +kernel), by decide +kernel, by decide, by decide +kernel, by decide +kernel, by decide +kernel⟩
theorem I_Rf_actOnInput : Cond.instanceMethod M_Rf_actOnInput.1 ∈ tbG := tb_in (i := 1300) (by decide +kernel) (by decide +kernel)
theorem V_Rf_actOnInput : MV M_Rf_actOnInput := ⟨I_Rf_actOnInput, ts_in (i := 95) (by decide +kernel) (by decide +kernel)⟩
def y_Rf_undivert : MethodName := ⟨"RescanMillModel", "undivert", "(I)V"⟩
abbrev M_Rf_undivert : mt_T := (y_Rf_undivert, prog_15_method_27_code, 4, none)
def L_Rf_undivert : List (Nat × Instr × Nat) := [(0, .iload_n 1, 1), (1, .iconst 1, 1), (2, .if_icmp .lt 17, 3), (5, .iload_n 1, 1), (6, .bipush 9, 2), (8, .if_icmp .gt 11, 3), (11, .iload_n 1, 1), (12, .aload_n 0, 1), (13, .getfield 220, 3), (16, .if_icmp .ne 4, 3), (19, .return_, 1), (20, .aload_n 0, 1), (21, .getfield 53, 3), (24, .iload_n 1, 1), (25, .iaload, 1), (26, .istore_n 2, 1), (27, .aload_n 0, 1), (28, .getfield 53, 3), (31, .iload_n 1, 1), (32, .iconst 0, 1), (33, .iastore, 1), (34, .aload_n 0, 1), (35, .aload_n 0, 1), (36, .getfield 217, 3), (39, .iload_n 2, 1), (40, .isub, 1), (41, .putfield 217, 3), (44, .iconst 0, 1), (45, .istore_n 3, 1), (46, .iload_n 3, 1), (47, .iload_n 2, 1), (48, .if_icmp .ge 28, 3), (51, .aload_n 0, 1), (52, .aload_n 0, 1), (53, .getfield 220, 3), (56, .aload_n 0, 1), (57, .getfield 50, 3), (60, .ldc 9, 2), (62, .iload_n 1, 1), (63, .imul, 1), (64, .iload_n 3, 1), (65, .iadd, 1), (66, .baload, 1), (67, .invokevirtual 223, 3), (70, .iinc 3 1, 3), (73, .goto (-27), 3), (76, .return_, 1)]
theorem D_Rf_undivert : decAll prog_15_method_27_code L_Rf_undivert = true := by decide +kernel
theorem K_Rf_undivert : MK M_Rf_undivert 1 := ⟨tb_in (i := 1305) (by decide +kernel) (by decide +kernel), tb_in (i := 12) (by decide +kernel) (by decide +kernel), by decide +kernel, by decide, by decide +kernel, by decide +kernel, by decide +kernel⟩
theorem I_Rf_undivert : Cond.instanceMethod M_Rf_undivert.1 ∈ tbG := tb_in (i := 1304) (by decide +kernel) (by decide +kernel)
theorem V_Rf_undivert : MV M_Rf_undivert := ⟨I_Rf_undivert, ts_in (i := 96) (by decide +kernel) (by decide +kernel)⟩
def y_Rf_changeQuotes : MethodName := ⟨"RescanMillModel", "changeQuotes", "(II)V"⟩
abbrev M_Rf_changeQuotes : mt_T := (y_Rf_changeQuotes, prog_15_method_49_code, 4, none)
def L_Rf_changeQuotes : List (Nat × Instr × Nat) := [(0, .iload_n 2, 1), (1, .ifCond .ne 30, 3), (4, .aload_n 0, 1), (5, .iconst 1, 1), (6, .putfield 112, 3), (9, .aload_n 0, 1), (10, .getfield 20, 3), (13, .iconst 0, 1), (14, .bipush 96, 2), (16, .iastore, 1), (17, .aload_n 0, 1), (18, .iconst 1, 1), (19, .putfield 119, 3), (22, .aload_n 0, 1), (23, .getfield 24, 3), (26, .iconst 0, 1), (27, .bipush 39, 2), (29, .iastore, 1), (30, .return_, 1), (31, .aload_n 0, 1), (32, .iload_n 1, 1), (33, .iconst 1, 1), (34, .invokevirtual 330, 3), (37, .ifCond .eq 12, 3), (40, .aload_n 0, 1), (41, .iload_n 1, 1), (42, .iconst 2, 1), (43, .invokevirtual 330, 3), (46, .ifCond .ne 10, 3), (49, .aload_n 0, 1), (50, .bipush 37, 2), (52, .invokevirtual 84, 3), (55, .return_, 1), (56, .aload_n 0, 1), (57, .aload_n 0, 1), (58, .iload_n 1, 1), (59, .iconst 1, 1), (60, .invokevirtual 272, 3), (63, .putfield 112, 3), (66, .aload_n 0, 1), (67, .aload_n 0, 1), (68, .iload_n 1, 1), (69, .iconst 2, 1), (70, .invokevirtual 272, 3), (73, .putfield 119, 3), (76, .iconst 0, 1), (77, .istore_n 3, 1), (78, .iload_n 3, 1), (79, .aload_n 0, 1), (80, .getfield 112, 3), (83, .if_icmp .ge 32, 3), (86, .aload_n 0, 1), (87, .getfield 20, 3), (90, .iload_n 3, 1), (91, .aload_n 0, 1), (92, .getfield 56, 3), (95, .aload_n 0, 1), (96, .iload_n 1, 1), (97, .iconst 1, 1), (98, .invokevirtual 268, 3), (101, .iload_n 3, 1), (102, .iadd, 1), (103, .baload, 1), (104, .sipush 255, 3), (107, .iand, 1), (108, .iastore, 1), (109, .iinc 3 1, 3), (112, .goto (-34), 3), (115, .iconst 0, 1), (116, .istore_n 3, 1), (117, .iload_n 3, 1), (118, .aload_n 0, 1), (119, .getfield 119, 3), (122, .if_icmp .ge 32, 3), (125, .aload_n 0, 1), (126, .getfield 24, 3), (129, .iload_n 3, 1), (130, .aload_n 0, 1), (131, .getfield 56, 3), (134, .aload_n 0, 1), (135, .iload_n 1, 1), (136, .iconst 2, 1), (137, .invokevirtual 268, 3), (140, .iload_n 3, 1), (141, .iadd, 1), (142, .baload, 1), (143, .sipush 255, 3), (146, .iand, 1), (147, .iastore, 1), (148, .iinc 3 1, 3), (151, .goto (-34), 3), (154, .return_, 1)]
theorem D_Rf_changeQuotes : decAll prog_15_method_49_code L_Rf_changeQuotes = true := by decide +kernel
theorem K_Rf_changeQuotes : MK M_Rf_changeQuotes 2 := ⟨tb_in (i := 1309) (by decide +kernel) (by decide +kernel), tb_in (i := 12) (by decide +kernel) (by decide +kernel), by decide +kernel, by decide, by decide +kernel, by decide +kernel, by decide +kernel⟩
theorem I_Rf_changeQuotes : Cond.instanceMethod M_Rf_changeQuotes.1 ∈ tbG := tb_in (i := 1308) (by decide +kernel) (by decide +kernel)
theorem V_Rf_changeQuotes : MV M_Rf_changeQuotes := ⟨I_Rf_changeQuotes, ts_in (i := 97) (by decide +kernel) (by decide +kernel)⟩
def y_Rf_isQuote : MethodName := ⟨"RescanMillModel", "isQuote", "(II)Z"⟩
abbrev M_Rf_isQuote : mt_T := (y_Rf_isQuote, prog_15_method_48_code, 7, (some (.boolean)))
def L_Rf_isQuote : List (Nat × Instr × Nat) := [(0, .aload_n 0, 1), (1, .iload_n 1, 1), (2, .iload_n 2, 1), (3, .invokevirtual 272, 3), (6, .istore_n 3, 1), (7, .iload_n 3, 1), (8, .ifCond .le 12, 3), (11, .iload_n 3, 1), (12, .iconst 5, 1), (13, .if_icmp .ge 7, 3), (16, .iconst 1, 1), (17, .goto 4, 3), (20, .iconst 0, 1), (21, .istore 4, 2), (23, .iconst 0, 1), (24, .istore 5, 2), (26, .iload 5, 2), (28, .iload_n 3, 1), (29, .if_icmp .ge 100, 3), (32, .iload 4, 2), (34, .ifCond .eq 95, 3), (37, .aload_n 0, 1), (38, .getfield 56, 3), (41, .aload_n 0, 1), (42, .iload_n 1, 1), (43, .iload_n 2, 1), (44, .invokevirtual 268, 3), (47, .iload 5, 2), (49, .iadd, 1), (50, .baload, 1), (51, .sipush 255, 3), (54, .iand, 1), (55, .istore 6, 2), (57, .iload 6, 2), (59, .invokestatic 132, 3), (62, .ifCond .ne 58, 3), (65, .iload 6, 2), (67, .invokestatic 136, 3), (70, .ifCond .ne 50, 3), (73, .iload 6, 2), (75, .invokestatic 262, 3), (78, .ifCond .ne 42, 3), (81, .iload 6, 2), (83, .bipush 10, 2), (85, .if_icmp .eq 35, 3), (88, .iload 6, 2), (90, .bipush 35, 2), (92, .if_icmp .eq 28, 3), (95, .iload 6, 2), (97, .bipush 40, 2), (99, .if_icmp .eq 21, 3), (102, .iload 6, 2), (104, .bipush 41, 2), (106, .if_icmp .eq 14, 3), (109, .iload 6, 2), (111, .bipush 44, 2), (113, .if_icmp .eq 7, 3), (116, .iconst 1, 1), (117, .goto 4, 3), (120, .iconst 0, 1), (121, .istore 4, 2), (123, .iinc 5 1, 3), (126, .goto (-100), 3), (129, .iload 4, 2), (131, .ireturn, 1)]
theorem D_Rf_isQuote : decAll prog_15_method_48_code L_Rf_isQuote = true := by decide +kernel
theorem K_Rf_isQuote : MK M_Rf_isQuote 2 := ⟨tb_in (i := 1313) (by decide +kernel) (by decide +kernel), tb_in (i := 12) (by decide +kernel) (by decide +kernel), by decide +kernel, by decide, by decide +kernel, by decide +kernel, by decide +kernel⟩
theorem I_Rf_isQuote : Cond.instanceMethod M_Rf_isQuote.1 ∈ tbG := tb_in (i := 1312) (by decide +kernel) (by decide +kernel)
theorem V_Rf_isQuote : MV M_Rf_isQuote := ⟨I_Rf_isQuote, ts_in (i := 98) (by decide +kernel) (by decide +kernel)⟩
def y_Rf_putBack : MethodName := ⟨"RescanMillModel", "putBack", "()V"⟩
abbrev M_Rf_putBack : mt_T := (y_Rf_putBack, prog_15_method_19_code, 2, none)
def L_Rf_putBack : List (Nat × Instr × Nat) := [(0, .aload_n 0, 1), (1, .getfield 139, 3), (4, .iconst 1, 1), (5, .isub, 1), (6, .istore_n 1, 1), (7, .iload_n 1, 1), (8, .ifCond .lt 41, 3), (11, .aload_n 0, 1), (12, .getfield 72, 3), (15, .ifCond .ne 34, 3), (18, .aload_n 0, 1), (19, .dup, 1), (20, .getfield 78, 3), (23, .iconst 1, 1), (24, .isub, 1), (25, .putfield 78, 3), (28, .aload_n 0, 1), (29, .getfield 17, 3), (32, .aload_n 0, 1), (33, .getfield 78, 3), (36, .aload_n 0, 1), (37, .getfield 31, 3), (40, .iload_n 1, 1), (41, .baload, 1), (42, .bastore, 1), (43, .iinc 1 (-1), 3), (46, .goto (-39), 3), (49, .aload_n 0, 1), (50, .iconst 0, 1), (51, .putfield 139, 3), (54, .return_, 1)]
theorem D_Rf_putBack : decAll prog_15_method_19_code L_Rf_putBack = true := by decide +kernel
theorem K_Rf_putBack : MK M_Rf_putBack 0 := ⟨tb_in (i := 1317) (by decide +kernel) (by decide +kernel), tb_in (i := 12) (by decide +kernel) (by decide +kernel), by decide +kernel, by decide, by decide +kernel, by decide +kernel, by decide +kernel⟩
theorem I_Rf_putBack : Cond.instanceMethod M_Rf_putBack.1 ∈ tbG := tb_in (i := 1316) (by decide +kernel) (by decide +kernel)
theorem V_Rf_putBack : MV M_Rf_putBack := ⟨I_Rf_putBack, ts_in (i := 99) (by decide +kernel) (by decide +kernel)⟩
def y_Rf_told : MethodName := ⟨"RescanMillModel", "told", "(I)I"⟩
abbrev M_Rf_told : mt_T := (y_Rf_told, prog_15_method_61_code, 2, (some (.int)))
def L_Rf_told : List (Nat × Instr × Nat) := [(0, .iload_n 1, 1), (1, .ifCond .ne 10, 3), (4, .aload_n 0, 1), (5, .getfield 75, 3), (8, .goto 40, 3), (11, .iload_n 1, 1), (12, .iconst 1, 1), (13, .if_icmp .ne 10, 3), (16, .aload_n 0, 1), (17, .getfield 88, 3), (20, .goto 28, 3), (23, .iload_n 1, 1), (24, .iconst 2, 1), (25, .if_icmp .ne 10, 3), (28, .aload_n 0, 1), (29, .getfield 194, 3), (32, .goto 16, 3), (35, .iload_n 1, 1), (36, .iconst 3, 1), (37, .if_icmp .ne 10, 3), (40, .aload_n 0, 1), (41, .getfield 197, 3), (44, .goto 4, 3), (47, .iconst (-1), 1), (48, .ireturn, 1)]
theorem D_Rf_told : decAll prog_15_method_61_code L_Rf_told = true := by decide +kernel
theorem K_Rf_told : MK M_Rf_told 1 := ⟨tb_in (i := 1321) (by decide +kernel) (by decide +kernel), tb_in (i := 12) (by decide +kernel) (by decide +kernel), by decide +kernel, by decide, by decide +kernel, by decide +kernel, by decide +kernel⟩
theorem I_Rf_told : Cond.instanceMethod M_Rf_told.1 ∈ tbG := tb_in (i := 1319) (by decide +kernel) (by decide +kernel)
theorem V_Rf_told : MV M_Rf_told := ⟨I_Rf_told, tb_in (i := 1320) (by decide +kernel) (by decide +kernel)⟩
def y_Rf_size : MethodName := ⟨"RescanMillModel", "size", "()I"⟩
abbrev M_Rf_size : mt_T := (y_Rf_size, prog_15_method_62_code, 1, (some (.int)))
def L_Rf_size : List (Nat × Instr × Nat) := [(0, .aload_n 0, 1), (1, .getfield 382, 3), (4, .ireturn, 1)]
theorem D_Rf_size : decAll prog_15_method_62_code L_Rf_size = true := by decide +kernel
theorem K_Rf_size : MK M_Rf_size 0 := ⟨tb_in (i := 1325) (by decide +kernel) (by decide +kernel), tb_in (i := 12) (by decide +kernel) (by decide +kernel), by decide +kernel, by decide, by decide +kernel, by decide +kernel, by decide +kernel⟩
theorem I_Rf_size : Cond.instanceMethod M_Rf_size.1 ∈ tbG := tb_in (i := 1323) (by decide +kernel) (by decide +kernel)
theorem V_Rf_size : MV M_Rf_size := ⟨I_Rf_size, tb_in (i := 1324) (by decide +kernel) (by decide +kernel)⟩
def y_Rf_word : MethodName := ⟨"RescanMillModel", "word", "(I)J"⟩
abbrev M_Rf_word : mt_T := (y_Rf_word, prog_15_method_63_code, 5, (some (.long)))
def L_Rf_word : List (Nat × Instr × Nat) := [(0, .lconst 0, 1), (1, .lstore_n 2, 1), (2, .bipush 7, 2), (4, .istore 4, 2), (6, .iload 4, 2), (8, .ifCond .lt 61, 3), (11, .iload_n 1, 1), (12, .ifCond .lt 57, 3), (15, .iload_n 1, 1), (16, .sipush 4096, 3), (19, .if_icmp .ge 50, 3), (22, .lload_n 2, 1), (23, .bipush 8, 2), (25, .lshl, 1), (26, .bipush 8, 2), (28, .iload_n 1, 1), (29, .imul, 1), (30, .iload 4, 2), (32, .iadd, 1), (33, .aload_n 0, 1), (34, .getfield 382, 3), (37, .if_icmp .ge 22, 3), (40, .aload_n 0, 1), (41, .getfield 14, 3), (44, .bipush 8, 2), (46, .iload_n 1, 1), (47, .imul, 1), (48, .iload 4, 2), (50, .iadd, 1), (51, .baload, 1), (52, .sipush 255, 3), (55, .iand, 1), (56, .goto 4, 3), (59, .iconst 0, 1), (60, .i2l, 1), (61, .lor, 1), (62, .lstore_n 2, 1), (63, .iinc 4 (-1), 3), (66, .goto (-60), 3), (69, .lload_n 2, 1), (70, .lreturn, 1)]
theorem D_Rf_word : decAll prog_15_method_63_code L_Rf_word = true := by decide +kernel
theorem K_Rf_word : MK M_Rf_word 1 := ⟨tb_in (i := 1329) (by decide +kernel) (by decide +kernel), tb_in (i := 12) (by decide +kernel) (by decide +kernel), by decide +kernel, by decide, by decide +kernel, by decide +kernel, by decide +kernel⟩
theorem I_Rf_word : Cond.instanceMethod M_Rf_word.1 ∈ tbG := tb_in (i := 1327) (by decide +kernel) (by decide +kernel)
theorem V_Rf_word : MV M_Rf_word := ⟨I_Rf_word, tb_in (i := 1328) (by decide +kernel) (by decide +kernel)⟩
end
section
theorem G_Lw_9 : ML "RescanMillLaw" 9 M_Mi_init := Or.inl (tb_in (i := 23) (by decide +kernel) (by decide +kernel))
theorem G_Mi_3 : Cond.methodLink "RescanMill" 3 Lib.objectInit ∈ tbG := tb_in (i := 26) (by decide +kernel) (by decide +kernel)
theorem G_Mi_14 : ML "RescanMill" 14 M_By_init := Or.inl (tb_in (i := 32) (by decide +kernel) (by decide +kernel))
theorem G_By_3 : Cond.methodLink "RescanMill$Bytes" 3 Lib.objectInit ∈ tbG := tb_in (i := 35) (by decide +kernel) (by decide +kernel)
theorem G_By_9 : Cond.methodLink "RescanMill$Bytes" 9 Lib.Math.max.name ∈ tbG := tb_in (i := 36) (by decide +kernel) (by decide +kernel)
theorem G_In_3 : Cond.methodLink "RescanMill$Input" 3 Lib.objectInit ∈ tbG := tb_in (i := 63) (by decide +kernel) (by decide +kernel)
theorem G_In_11 : ML "RescanMill$Input" 11 M_By_init := Or.inl (tb_in (i := 65) (by decide +kernel) (by decide +kernel))
theorem G_Ca_3 : Cond.methodLink "RescanMill$Calls" 3 Lib.objectInit ∈ tbG := tb_in (i := 115) (by decide +kernel) (by decide +kernel)
theorem G_Ca_11 : ML "RescanMill$Calls" 11 M_By_init := Or.inl (tb_in (i := 117) (by decide +kernel) (by decide +kernel))
theorem G_Mi_43 : ML "RescanMill" 43 M_Ms_init := Or.inl (tb_in (i := 154) (by decide +kernel) (by decide +kernel))
theorem G_Ms_3 : Cond.methodLink "RescanMill$Meanings" 3 Lib.objectInit ∈ tbG := tb_in (i := 157) (by decide +kernel) (by decide +kernel)
theorem G_Ms_13 : ML "RescanMill$Meanings" 13 M_Ce_init := Or.inl (tb_in (i := 160) (by decide +kernel) (by decide +kernel))
theorem G_Ce_1 : Cond.methodLink "RescanMill$Cells" 1 Lib.objectInit ∈ tbG := tb_in (i := 163) (by decide +kernel) (by decide +kernel)
theorem G_Ce_13 : Cond.methodLink "RescanMill$Cells" 13 Lib.Math.max.name ∈ tbG := tb_in (i := 164) (by decide +kernel) (by decide +kernel)
theorem G_Me_1 : Cond.methodLink "RescanMill$Meaning" 1 Lib.objectInit ∈ tbG := tb_in (i := 189) (by decide +kernel) (by decide +kernel)
theorem G_Ch_1 : Cond.methodLink "RescanMill$Chain" 1 Lib.objectInit ∈ tbG := tb_in (i := 195) (by decide +kernel) (by decide +kernel)
theorem G_Mi_50 : ML "RescanMill" 50 M_Di_init := Or.inl (tb_in (i := 259) (by decide +kernel) (by decide +kernel))
theorem G_Di_3 : Cond.methodLink "RescanMill$Diversions" 3 Lib.objectInit ∈ tbG := tb_in (i := 262) (by decide +kernel) (by decide +kernel)
theorem G_Di_12 : ML "RescanMill$Diversions" 12 M_Ce_init := Or.inl (tb_in (i := 265) (by decide +kernel) (by decide +kernel))
theorem G_Ex_3 : Cond.methodLink "RescanMill$Expression" 3 Lib.objectInit ∈ tbG := tb_in (i := 285) (by decide +kernel) (by decide +kernel)
theorem G_Ex_11 : ML "RescanMill$Expression" 11 M_By_init := Or.inl (tb_in (i := 287) (by decide +kernel) (by decide +kernel))
theorem G_Lw_15 : ML "RescanMillLaw" 15 M_Mi_feed := Or.inl (tb_in (i := 352) (by decide +kernel) (by decide +kernel))
theorem G_Mi_70 : ML "RescanMill" 70 M_By_add := Or.inl (tb_in (i := 356) (by decide +kernel) (by decide +kernel))
theorem G_Lw_20 : ML "RescanMillLaw" 20 M_Mi_again := Or.inl (tb_in (i := 360) (by decide +kernel) (by decide +kernel))
theorem G_Mi_73 : ML "RescanMill" 73 M_By_addPart := Or.inl (tb_in (i := 364) (by decide +kernel) (by decide +kernel))
theorem G_By_29 : ML "RescanMill$Bytes" 29 M_By_hasRoom := Or.inl (tb_in (i := 368) (by decide +kernel) (by decide +kernel))
theorem G_By_33 : Cond.methodLink "RescanMill$Bytes" 33 arraycopyName ∈ tbG := tb_in (i := 372) (by decide +kernel) (by decide +kernel)
theorem G_Lw_25 : ML "RescanMillLaw" 25 M_Mi_clear := Or.inl (tb_in (i := 375) (by decide +kernel) (by decide +kernel))
theorem G_Mi_77 : ML "RescanMill" 77 M_By_cut := Or.inl (tb_in (i := 379) (by decide +kernel) (by decide +kernel))
theorem G_Lw_30 : ML "RescanMillLaw" 30 M_Mi_run := Or.inl (tb_in (i := 383) (by decide +kernel) (by decide +kernel))
theorem G_Mi_81 : ML "RescanMill" 81 M_Mi_beginAnew := Or.inl (tb_in (i := 388) (by decide +kernel) (by decide +kernel))
theorem G_Mi_123 : ML "RescanMill" 123 M_In_begin := Or.inl (tb_in (i := 392) (by decide +kernel) (by decide +kernel))
theorem G_In_50 : ML "RescanMill$Input" 50 M_In_useFirstQuotes := Or.inl (tb_in (i := 396) (by decide +kernel) (by decide +kernel))
theorem G_In_53 : ML "RescanMill$Input" 53 M_By_cut := Or.inl (tb_in (i := 400) (by decide +kernel) (by decide +kernel))
theorem G_In_56 : ML "RescanMill$Input" 56 M_By_add := Or.inl (tb_in (i := 401) (by decide +kernel) (by decide +kernel))
theorem G_Mi_127 : ML "RescanMill" 127 M_Ca_forget := Or.inl (tb_in (i := 402) (by decide +kernel) (by decide +kernel))
theorem G_Ca_37 : ML "RescanMill$Calls" 37 M_By_cut := Or.inl (tb_in (i := 406) (by decide +kernel) (by decide +kernel))
theorem G_Mi_130 : ML "RescanMill" 130 M_Di_forget := Or.inl (tb_in (i := 407) (by decide +kernel) (by decide +kernel))
theorem G_Di_28 : ML "RescanMill$Diversions" 28 M_Ce_forget := Or.inl (tb_in (i := 411) (by decide +kernel) (by decide +kernel))
theorem G_Di_31 : ML "RescanMill$Diversions" 31 M_Ch_loosen := Or.inl (tb_in (i := 415) (by decide +kernel) (by decide +kernel))
theorem G_Mi_131 : ML "RescanMill" 131 M_Ms_forget := Or.inl (tb_in (i := 419) (by decide +kernel) (by decide +kernel))
theorem G_Ms_34 : ML "RescanMill$Meanings" 34 M_Ce_forget := Or.inl (tb_in (i := 423) (by decide +kernel) (by decide +kernel))
theorem G_Ms_52 : ML "RescanMill$Meanings" 52 M_Ch_loosen := Or.inl (tb_in (i := 424) (by decide +kernel) (by decide +kernel))
theorem G_Mi_142 : ML "RescanMill" 142 M_By_addText := Or.inl (tb_in (i := 426) (by decide +kernel) (by decide +kernel))
theorem G_By_39 : ML "RescanMill$Bytes" 39 M_St_length := Or.inl (tb_in (i := 430) (by decide +kernel) (by decide +kernel))
theorem G_St_335 : ML "java/lang/String" 335 M_St_coder := Or.inl (tb_in (i := 434) (by decide +kernel) (by decide +kernel))
theorem G_By_45 : ML "RescanMill$Bytes" 45 M_St_charAt := Or.inl (tb_in (i := 440) (by decide +kernel) (by decide +kernel))
theorem G_St_492 : ML "java/lang/String" 492 M_St_isLatin1 := Or.inl (tb_in (i := 444) (by decide +kernel) (by decide +kernel))
theorem G_St_495 : ML "java/lang/String" 495 M_Sl_charAt := Or.inl (tb_in (i := 448) (by decide +kernel) (by decide +kernel))
theorem G_Sl_9 : ML "java/lang/StringLatin1" 9 M_St_checkIndex := Or.inl (tb_in (i := 451) (by decide +kernel) (by decide +kernel))
theorem G_St_1059 : ML "java/lang/String" 1059 M_Pr_checkIndex := Or.inl (tb_in (i := 456) (by decide +kernel) (by decide +kernel))
theorem G_By_49 : ML "RescanMill$Bytes" 49 M_By_add := Or.inl (tb_in (i := 478) (by decide +kernel) (by decide +kernel))
theorem G_Mi_146 : ML "RescanMill" 146 M_Ms_addBuiltIn := Or.inl (tb_in (i := 479) (by decide +kernel) (by decide +kernel))
theorem G_Ms_98 : ML "RescanMill$Meanings" 98 M_Ms_addOnTop := Or.inl (tb_in (i := 483) (by decide +kernel) (by decide +kernel))
theorem G_Ms_69 : ML "RescanMill$Meanings" 69 M_Ms_hashOf := Or.inl (tb_in (i := 487) (by decide +kernel) (by decide +kernel))
theorem G_Ms_63 : ML "RescanMill$Meanings" 63 M_By_at := Or.inl (tb_in (i := 490) (by decide +kernel) (by decide +kernel))
theorem G_Ms_93 : ML "RescanMill$Meanings" 93 M_Ce_add := Or.inl (tb_in (i := 494) (by decide +kernel) (by decide +kernel))
theorem G_Ce_33 : ML "RescanMill$Cells" 33 M_Ce_isCell := Or.inl (tb_in (i := 498) (by decide +kernel) (by decide +kernel))
theorem G_Ce_37 : ML "RescanMill$Cells" 37 M_By_at := Or.inl (tb_in (i := 502) (by decide +kernel) (by decide +kernel))
theorem G_Ce_43 : ML "RescanMill$Cells" 43 M_Ce_hang := Or.inl (tb_in (i := 503) (by decide +kernel) (by decide +kernel))
theorem G_Ms_73 : ML "RescanMill$Meanings" 73 M_Ms_bucketOf := Or.inl (tb_in (i := 507) (by decide +kernel) (by decide +kernel))
theorem G_Mi_84 : ML "RescanMill" 84 M_In_readToken := Or.inl (tb_in (i := 510) (by decide +kernel) (by decide +kernel))
theorem G_In_86 : ML "RescanMill$Input" 86 M_In_line := Or.inl (tb_in (i := 514) (by decide +kernel) (by decide +kernel))
theorem G_In_92 : ML "RescanMill$Input" 92 M_In_peek := Or.inl (tb_in (i := 518) (by decide +kernel) (by decide +kernel))
theorem G_In_62 : ML "RescanMill$Input" 62 M_By_at := Or.inl (tb_in (i := 522) (by decide +kernel) (by decide +kernel))
theorem G_In_98 : ML "RescanMill$Input" 98 M_In_begins := Or.inl (tb_in (i := 523) (by decide +kernel) (by decide +kernel))
theorem G_In_102 : ML "RescanMill$Input" 102 M_In_readQuoted := Or.inl (tb_in (i := 527) (by decide +kernel) (by decide +kernel))
theorem G_In_115 : ML "RescanMill$Input" 115 M_In_takeSome := Or.inl (tb_in (i := 531) (by decide +kernel) (by decide +kernel))
theorem G_In_83 : ML "RescanMill$Input" 83 M_In_take := Or.inl (tb_in (i := 535) (by decide +kernel) (by decide +kernel))
theorem G_In_66 : ML "RescanMill$Input" 66 M_In_left := Or.inl (tb_in (i := 539) (by decide +kernel) (by decide +kernel))
theorem G_In_105 : ML "RescanMill$Input" 105 M_In_readRemark := Or.inl (tb_in (i := 543) (by decide +kernel) (by decide +kernel))
theorem G_In_112 : ML "RescanMill$Input" 112 M_In_readName := Or.inl (tb_in (i := 550) (by decide +kernel) (by decide +kernel))
theorem G_Mi_349 : ML "RescanMill" 349 M_Mi_isLetter := Or.inl (tb_in (i := 557) (by decide +kernel) (by decide +kernel))
theorem G_Mi_267 : ML "RescanMill" 267 M_Mi_isDigit := Or.inl (tb_in (i := 558) (by decide +kernel) (by decide +kernel))
theorem G_Mi_91 : ML "RescanMill" 91 M_Mi_useToken := Or.inl (tb_in (i := 561) (by decide +kernel) (by decide +kernel))
theorem G_Mi_160 : ML "RescanMill" 160 M_Mi_isCalled := Or.inl (tb_in (i := 565) (by decide +kernel) (by decide +kernel))
theorem G_Mi_176 : ML "RescanMill" 176 M_Ms_find := Or.inl (tb_in (i := 569) (by decide +kernel) (by decide +kernel))
theorem G_Ms_79 : ML "RescanMill$Meanings" 79 M_Ms_isNamed := Or.inl (tb_in (i := 573) (by decide +kernel) (by decide +kernel))
theorem G_Ms_89 : ML "RescanMill$Meanings" 89 M_Ce_at := Or.inl (tb_in (i := 577) (by decide +kernel) (by decide +kernel))
theorem G_Ms_90 : ML "RescanMill$Meanings" 90 M_Ce_behind := Or.inl (tb_in (i := 581) (by decide +kernel) (by decide +kernel))
theorem G_Mi_189 : ML "RescanMill" 189 M_In_peek := Or.inl (tb_in (i := 585) (by decide +kernel) (by decide +kernel))
theorem G_Mi_164 : ML "RescanMill" 164 M_Mi_openCall := Or.inl (tb_in (i := 586) (by decide +kernel) (by decide +kernel))
theorem G_Mi_192 : ML "RescanMill" 192 M_Ca_noteToken := Or.inl (tb_in (i := 590) (by decide +kernel) (by decide +kernel))
theorem G_Ca_62 : ML "RescanMill$Calls" 62 M_Ca_hasTop := Or.inl (tb_in (i := 594) (by decide +kernel) (by decide +kernel))
theorem G_Mi_195 : ML "RescanMill" 195 M_Ca_begin := Or.inl (tb_in (i := 598) (by decide +kernel) (by decide +kernel))
theorem G_Ca_54 : ML "RescanMill$Calls" 54 M_By_hasRoom := Or.inl (tb_in (i := 602) (by decide +kernel) (by decide +kernel))
theorem G_Ca_58 : ML "RescanMill$Calls" 58 M_By_addPart := Or.inl (tb_in (i := 603) (by decide +kernel) (by decide +kernel))
theorem G_Mi_197 : ML "RescanMill" 197 M_In_take := Or.inl (tb_in (i := 604) (by decide +kernel) (by decide +kernel))
theorem G_Mi_200 : ML "RescanMill" 200 M_Ca_beginArgument := Or.inl (tb_in (i := 605) (by decide +kernel) (by decide +kernel))
theorem G_Mi_167 : ML "RescanMill" 167 M_Mi_useInArgument := Or.inl (tb_in (i := 609) (by decide +kernel) (by decide +kernel))
theorem G_Mi_119 : ML "RescanMill" 119 M_By_at := Or.inl (tb_in (i := 613) (by decide +kernel) (by decide +kernel))
theorem G_Mi_203 : ML "RescanMill" 203 M_Mi_isSpace := Or.inl (tb_in (i := 614) (by decide +kernel) (by decide +kernel))
theorem G_Mi_207 : ML "RescanMill" 207 M_Ca_hasToken := Or.inl (tb_in (i := 617) (by decide +kernel) (by decide +kernel))
theorem G_Mi_210 : ML "RescanMill" 210 M_Ca_isOutermost := Or.inl (tb_in (i := 621) (by decide +kernel) (by decide +kernel))
theorem G_Mi_213 : ML "RescanMill" 213 M_Ca_nest := Or.inl (tb_in (i := 625) (by decide +kernel) (by decide +kernel))
theorem G_Mi_216 : ML "RescanMill" 216 M_Ca_hold := Or.inl (tb_in (i := 629) (by decide +kernel) (by decide +kernel))
theorem G_Mi_173 : ML "RescanMill" 173 M_Di_add := Or.inl (tb_in (i := 633) (by decide +kernel) (by decide +kernel))
theorem G_Di_43 : ML "RescanMill$Diversions" 43 M_Ce_add := Or.inl (tb_in (i := 637) (by decide +kernel) (by decide +kernel))
theorem G_Mi_98 : ML "RescanMill" 98 M_Mi_finishCall := Or.inl (tb_in (i := 638) (by decide +kernel) (by decide +kernel))
theorem G_Mi_222 : ML "RescanMill" 222 M_Ca_nameStart := Or.inl (tb_in (i := 642) (by decide +kernel) (by decide +kernel))
theorem G_Mi_225 : ML "RescanMill" 225 M_Ca_nameLength := Or.inl (tb_in (i := 646) (by decide +kernel) (by decide +kernel))
theorem G_Ca_66 : ML "RescanMill$Calls" 66 M_Ca_start := Or.inl (tb_in (i := 650) (by decide +kernel) (by decide +kernel))
theorem G_Ca_70 : ML "RescanMill$Calls" 70 M_Ca_nameStart := Or.inl (tb_in (i := 654) (by decide +kernel) (by decide +kernel))
theorem G_Mi_231 : ML "RescanMill" 231 M_Mi_expand := Or.inl (tb_in (i := 655) (by decide +kernel) (by decide +kernel))
theorem G_Mi_258 : ML "RescanMill" 258 M_Ce_at := Or.inl (tb_in (i := 659) (by decide +kernel) (by decide +kernel))
theorem G_Mi_261 : ML "RescanMill" 261 M_Ce_behind := Or.inl (tb_in (i := 660) (by decide +kernel) (by decide +kernel))
theorem G_Mi_264 : ML "RescanMill" 264 M_Mi_addMarked := Or.inl (tb_in (i := 661) (by decide +kernel) (by decide +kernel))
theorem G_Mi_270 : ML "RescanMill" 270 M_Mi_addArgument := Or.inl (tb_in (i := 665) (by decide +kernel) (by decide +kernel))
theorem G_Mi_283 : ML "RescanMill" 283 M_Ca_start := Or.inl (tb_in (i := 669) (by decide +kernel) (by decide +kernel))
theorem G_Mi_286 : ML "RescanMill" 286 M_Ca_length := Or.inl (tb_in (i := 670) (by decide +kernel) (by decide +kernel))
theorem G_Mi_273 : ML "RescanMill" 273 M_Ca_arguments := Or.inl (tb_in (i := 674) (by decide +kernel) (by decide +kernel))
theorem G_Mi_276 : ML "RescanMill" 276 M_By_addNumber := Or.inl (tb_in (i := 678) (by decide +kernel) (by decide +kernel))
theorem G_Mi_279 : ML "RescanMill" 279 M_Mi_addArguments := Or.inl (tb_in (i := 683) (by decide +kernel) (by decide +kernel))
theorem G_Mi_235 : ML "RescanMill" 235 M_Mi_useBuiltIn := Or.inl (tb_in (i := 687) (by decide +kernel) (by decide +kernel))
theorem G_Mi_300 : Cond.methodLink "RescanMill" 300 ⟨"RescanMill$BuiltIn", "ordinal", "()I"⟩ ∈ tbG := tb_in (i := 693) (by decide +kernel) (by decide +kernel)
theorem G_Mi_303 : ML "RescanMill" 303 M_Mi_define := Or.inl (tb_in (i := 699) (by decide +kernel) (by decide +kernel))
theorem G_Mi_342 : ML "RescanMill" 342 M_Mi_isName := Or.inl (tb_in (i := 703) (by decide +kernel) (by decide +kernel))
theorem G_Mi_352 : ML "RescanMill" 352 M_Mi_isNamePart := Or.inl (tb_in (i := 707) (by decide +kernel) (by decide +kernel))
theorem G_Mi_346 : ML "RescanMill" 346 M_Ms_define := Or.inl (tb_in (i := 708) (by decide +kernel) (by decide +kernel))
theorem G_Ms_106 : ML "RescanMill$Meanings" 106 M_Ca_length := Or.inl (tb_in (i := 712) (by decide +kernel) (by decide +kernel))
theorem G_Ms_115 : ML "RescanMill$Meanings" 115 M_Ca_start := Or.inl (tb_in (i := 713) (by decide +kernel) (by decide +kernel))
theorem G_Ms_118 : ML "RescanMill$Meanings" 118 M_Ms_find := Or.inl (tb_in (i := 714) (by decide +kernel) (by decide +kernel))
theorem G_Ms_121 : ML "RescanMill$Meanings" 121 M_Ce_release := Or.inl (tb_in (i := 715) (by decide +kernel) (by decide +kernel))
theorem G_Ce_58 : ML "RescanMill$Cells" 58 M_Ch_loosen := Or.inl (tb_in (i := 719) (by decide +kernel) (by decide +kernel))
theorem G_Mi_307 : ML "RescanMill" 307 M_Mi_takeMeanings := Or.inl (tb_in (i := 720) (by decide +kernel) (by decide +kernel))
theorem G_Mi_355 : ML "RescanMill" 355 M_Ms_take := Or.inl (tb_in (i := 724) (by decide +kernel) (by decide +kernel))
theorem G_Ms_125 : ML "RescanMill$Meanings" 125 M_Ms_release := Or.inl (tb_in (i := 728) (by decide +kernel) (by decide +kernel))
theorem G_Mi_310 : ML "RescanMill" 310 M_Mi_chooseByMacro := Or.inl (tb_in (i := 732) (by decide +kernel) (by decide +kernel))
theorem G_Mi_313 : ML "RescanMill" 313 M_Mi_chooseBySameness := Or.inl (tb_in (i := 736) (by decide +kernel) (by decide +kernel))
theorem G_Mi_358 : ML "RescanMill" 358 M_Mi_areSame := Or.inl (tb_in (i := 740) (by decide +kernel) (by decide +kernel))
theorem G_Mi_316 : ML "RescanMill" 316 M_Ex_evaluate := Or.inl (tb_in (i := 744) (by decide +kernel) (by decide +kernel))
theorem G_Ex_30 : ML "RescanMill$Expression" 30 M_Ex_begin := Or.inl (tb_in (i := 748) (by decide +kernel) (by decide +kernel))
theorem G_Ex_41 : ML "RescanMill$Expression" 41 M_By_at := Or.inl (tb_in (i := 752) (by decide +kernel) (by decide +kernel))
theorem G_Ex_55 : ML "RescanMill$Expression" 55 M_Ex_takeNumber := Or.inl (tb_in (i := 755) (by decide +kernel) (by decide +kernel))
theorem G_Ex_68 : ML "RescanMill$Expression" 68 M_Ex_reckon := Or.inl (tb_in (i := 759) (by decide +kernel) (by decide +kernel))
theorem G_Ex_130 : ML "RescanMill$Expression" 130 M_Op_isBetween := Or.inl (tb_in (i := 763) (by decide +kernel) (by decide +kernel))
theorem G_Ex_141 : ML "RescanMill$Expression" 141 M_Ex_ofOne := Or.inl (tb_in (i := 767) (by decide +kernel) (by decide +kernel))
theorem G_Ex_154 : Cond.methodLink "RescanMill$Expression" 154 ⟨"RescanMill$Operator", "ordinal", "()I"⟩ ∈ tbG := tb_in (i := 772) (by decide +kernel) (by decide +kernel)
theorem G_Ex_145 : ML "RescanMill$Expression" 145 M_Ex_ofTwo := Or.inl (tb_in (i := 775) (by decide +kernel) (by decide +kernel))
theorem G_Ex_59 : ML "RescanMill$Expression" 59 M_Ex_takeInFront := Or.inl (tb_in (i := 779) (by decide +kernel) (by decide +kernel))
theorem G_Ex_86 : ML "RescanMill$Expression" 86 M_Ex_inFront := Or.inl (tb_in (i := 783) (by decide +kernel) (by decide +kernel))
theorem G_Ex_90 : ML "RescanMill$Expression" 90 M_Ex_await := Or.inl (tb_in (i := 797) (by decide +kernel) (by decide +kernel))
theorem G_Ex_62 : ML "RescanMill$Expression" 62 M_Ex_takeClosing := Or.inl (tb_in (i := 801) (by decide +kernel) (by decide +kernel))
theorem G_Ex_65 : ML "RescanMill$Expression" 65 M_Ex_takeBetween := Or.inl (tb_in (i := 805) (by decide +kernel) (by decide +kernel))
theorem G_Ex_110 : ML "RescanMill$Expression" 110 M_Ex_between := Or.inl (tb_in (i := 809) (by decide +kernel) (by decide +kernel))
theorem G_Ex_133 : ML "RescanMill$Expression" 133 M_Ex_isNext := Or.inl (tb_in (i := 815) (by decide +kernel) (by decide +kernel))
theorem G_Ex_121 : ML "RescanMill$Expression" 121 M_St_length := Or.inl (tb_in (i := 819) (by decide +kernel) (by decide +kernel))
theorem G_Ex_137 : ML "RescanMill$Expression" 137 M_St_charAt := Or.inl (tb_in (i := 820) (by decide +kernel) (by decide +kernel))
theorem G_Ex_80 : ML "RescanMill$Expression" 80 M_By_addNumber := Or.inl (tb_in (i := 821) (by decide +kernel) (by decide +kernel))
theorem G_Mi_320 : ML "RescanMill" 320 M_Mi_addTo := Or.inl (tb_in (i := 822) (by decide +kernel) (by decide +kernel))
theorem G_Mi_361 : ML "RescanMill" 361 M_Mi_number := Or.inl (tb_in (i := 826) (by decide +kernel) (by decide +kernel))
theorem G_Mi_323 : ML "RescanMill" 323 M_Mi_findPlace := Or.inl (tb_in (i := 831) (by decide +kernel) (by decide +kernel))
theorem G_Mi_365 : ML "RescanMill" 365 M_Mi_fillFallBack := Or.inl (tb_in (i := 835) (by decide +kernel) (by decide +kernel))
theorem G_Mi_369 : ML "RescanMill" 369 M_Mi_extend := Or.inl (tb_in (i := 839) (by decide +kernel) (by decide +kernel))
theorem G_Mi_373 : Cond.methodLink "RescanMill" 373 Lib.Math.min.name ∈ tbG := tb_in (i := 843) (by decide +kernel) (by decide +kernel)
theorem G_Mi_327 : ML "RescanMill" 327 M_Mi_cutOut := Or.inl (tb_in (i := 846) (by decide +kernel) (by decide +kernel))
theorem G_Mi_330 : ML "RescanMill" 330 M_In_dropLine := Or.inl (tb_in (i := 850) (by decide +kernel) (by decide +kernel))
theorem G_Mi_333 : ML "RescanMill" 333 M_Mi_divert := Or.inl (tb_in (i := 854) (by decide +kernel) (by decide +kernel))
theorem G_Mi_336 : ML "RescanMill" 336 M_Mi_undivert := Or.inl (tb_in (i := 858) (by decide +kernel) (by decide +kernel))
theorem G_Mi_382 : ML "RescanMill" 382 M_Di_bring := Or.inl (tb_in (i := 862) (by decide +kernel) (by decide +kernel))
theorem G_Di_47 : ML "RescanMill$Diversions" 47 M_Ce_release := Or.inl (tb_in (i := 866) (by decide +kernel) (by decide +kernel))
theorem G_Di_51 : ML "RescanMill$Diversions" 51 M_Ce_join := Or.inl (tb_in (i := 867) (by decide +kernel) (by decide +kernel))
theorem G_Mi_339 : ML "RescanMill" 339 M_Mi_changeQuotes := Or.inl (tb_in (i := 871) (by decide +kernel) (by decide +kernel))
theorem G_Mi_385 : ML "RescanMill" 385 M_In_useFirstQuotes := Or.inl (tb_in (i := 875) (by decide +kernel) (by decide +kernel))
theorem G_Mi_388 : ML "RescanMill" 388 M_Mi_isQuote := Or.inl (tb_in (i := 876) (by decide +kernel) (by decide +kernel))
theorem G_Mi_239 : ML "RescanMill" 239 M_Ca_end := Or.inl (tb_in (i := 880) (by decide +kernel) (by decide +kernel))
theorem G_Mi_242 : ML "RescanMill" 242 M_In_putBack := Or.inl (tb_in (i := 884) (by decide +kernel) (by decide +kernel))
theorem G_In_77 : Cond.methodLink "RescanMill$Input" 77 arraycopyName ∈ tbG := tb_in (i := 888) (by decide +kernel) (by decide +kernel)
theorem G_Mi_104 : ML "RescanMill" 104 M_Mi_finish := Or.inl (tb_in (i := 889) (by decide +kernel) (by decide +kernel))
theorem G_Mi_150 : ML "RescanMill" 150 M_Di_gather := Or.inl (tb_in (i := 893) (by decide +kernel) (by decide +kernel))
theorem G_Di_59 : ML "RescanMill$Diversions" 59 M_Ce_at := Or.inl (tb_in (i := 897) (by decide +kernel) (by decide +kernel))
theorem G_Di_63 : ML "RescanMill$Diversions" 63 M_By_add := Or.inl (tb_in (i := 898) (by decide +kernel) (by decide +kernel))
theorem G_Di_65 : ML "RescanMill$Diversions" 65 M_Ce_behind := Or.inl (tb_in (i := 899) (by decide +kernel) (by decide +kernel))
theorem G_Mi_157 : ML "RescanMill" 157 M_In_line := Or.inl (tb_in (i := 900) (by decide +kernel) (by decide +kernel))
theorem G_Lw_35 : ML "RescanMillLaw" 35 M_Mi_told := Or.inl (tb_in (i := 901) (by decide +kernel) (by decide +kernel))
theorem G_Lw_39 : ML "RescanMillLaw" 39 M_Mi_size := Or.inl (tb_in (i := 905) (by decide +kernel) (by decide +kernel))
theorem G_Lw_43 : ML "RescanMillLaw" 43 M_Mi_word := Or.inl (tb_in (i := 909) (by decide +kernel) (by decide +kernel))
theorem G_Lw_12 : ML "RescanMillLaw" 12 M_Rf_init := Or.inl (tb_in (i := 915) (by decide +kernel) (by decide +kernel))
theorem G_Rf_1 : Cond.methodLink "RescanMillModel" 1 Lib.objectInit ∈ tbG := tb_in (i := 918) (by decide +kernel) (by decide +kernel)
theorem G_Lw_19 : ML "RescanMillLaw" 19 M_Rf_feed := Or.inl (tb_in (i := 1064) (by decide +kernel) (by decide +kernel))
theorem G_Lw_24 : ML "RescanMillLaw" 24 M_Rf_again := Or.inl (tb_in (i := 1068) (by decide +kernel) (by decide +kernel))
theorem G_Lw_29 : ML "RescanMillLaw" 29 M_Rf_clear := Or.inl (tb_in (i := 1072) (by decide +kernel) (by decide +kernel))
theorem G_Lw_34 : ML "RescanMillLaw" 34 M_Rf_run := Or.inl (tb_in (i := 1076) (by decide +kernel) (by decide +kernel))
theorem G_Rf_385 : ML "RescanMillModel" 385 M_Rf_beginMeanings := Or.inl (tb_in (i := 1081) (by decide +kernel) (by decide +kernel))
theorem G_Rf_200 : ML "RescanMillModel" 200 M_Rf_nameOf := Or.inl (tb_in (i := 1085) (by decide +kernel) (by decide +kernel))
theorem G_Rf_204 : ML "RescanMillModel" 204 M_St_length := Or.inl (tb_in (i := 1105) (by decide +kernel) (by decide +kernel))
theorem G_Rf_209 : ML "RescanMillModel" 209 M_St_charAt := Or.inl (tb_in (i := 1106) (by decide +kernel) (by decide +kernel))
theorem G_Rf_256 : ML "RescanMillModel" 256 M_Rf_readToken := Or.inl (tb_in (i := 1107) (by decide +kernel) (by decide +kernel))
theorem G_Rf_101 : ML "RescanMillModel" 101 M_Rf_peek := Or.inl (tb_in (i := 1111) (by decide +kernel) (by decide +kernel))
theorem G_Rf_122 : ML "RescanMillModel" 122 M_Rf_isAhead := Or.inl (tb_in (i := 1115) (by decide +kernel) (by decide +kernel))
theorem G_Rf_129 : ML "RescanMillModel" 129 M_Rf_readQuoted := Or.inl (tb_in (i := 1119) (by decide +kernel) (by decide +kernel))
theorem G_Rf_115 : ML "RescanMillModel" 115 M_Rf_pass := Or.inl (tb_in (i := 1123) (by decide +kernel) (by decide +kernel))
theorem G_Rf_105 : ML "RescanMillModel" 105 M_Rf_take := Or.inl (tb_in (i := 1127) (by decide +kernel) (by decide +kernel))
theorem G_Rf_84 : ML "RescanMillModel" 84 M_Rf_fail1 := Or.inl (tb_in (i := 1131) (by decide +kernel) (by decide +kernel))
theorem G_Rf_97 : ML "RescanMillModel" 97 M_Rf_fail := Or.inl (tb_in (i := 1135) (by decide +kernel) (by decide +kernel))
theorem G_Rf_132 : ML "RescanMillModel" 132 M_Rf_isLetter := Or.inl (tb_in (i := 1139) (by decide +kernel) (by decide +kernel))
theorem G_Rf_136 : ML "RescanMillModel" 136 M_Rf_isDigit := Or.inl (tb_in (i := 1142) (by decide +kernel) (by decide +kernel))
theorem G_Rf_265 : ML "RescanMillModel" 265 M_Rf_handle := Or.inl (tb_in (i := 1145) (by decide +kernel) (by decide +kernel))
theorem G_Rf_232 : ML "RescanMillModel" 232 M_Rf_top := Or.inl (tb_in (i := 1149) (by decide +kernel) (by decide +kernel))
theorem G_Rf_213 : ML "RescanMillModel" 213 M_Rf_isNamed := Or.inl (tb_in (i := 1153) (by decide +kernel) (by decide +kernel))
theorem G_Rf_236 : ML "RescanMillModel" 236 M_Rf_putToken := Or.inl (tb_in (i := 1157) (by decide +kernel) (by decide +kernel))
theorem G_Rf_229 : ML "RescanMillModel" 229 M_Rf_putArgument := Or.inl (tb_in (i := 1161) (by decide +kernel) (by decide +kernel))
theorem G_Rf_223 : ML "RescanMillModel" 223 M_Rf_divertByte := Or.inl (tb_in (i := 1165) (by decide +kernel) (by decide +kernel))
theorem G_Rf_246 : ML "RescanMillModel" 246 M_Rf_readArguments := Or.inl (tb_in (i := 1169) (by decide +kernel) (by decide +kernel))
theorem G_Rf_259 : ML "RescanMillModel" 259 M_Rf_beginArgument := Or.inl (tb_in (i := 1173) (by decide +kernel) (by decide +kernel))
theorem G_Rf_262 : ML "RescanMillModel" 262 M_Rf_isBlank := Or.inl (tb_in (i := 1177) (by decide +kernel) (by decide +kernel))
theorem G_Rf_249 : ML "RescanMillModel" 249 M_Rf_act := Or.inl (tb_in (i := 1180) (by decide +kernel) (by decide +kernel))
theorem G_Rf_285 : ML "RescanMillModel" 285 M_Rf_giveText := Or.inl (tb_in (i := 1184) (by decide +kernel) (by decide +kernel))
theorem G_Rf_145 : ML "RescanMillModel" 145 M_Rf_give := Or.inl (tb_in (i := 1188) (by decide +kernel) (by decide +kernel))
theorem G_Rf_142 : ML "RescanMillModel" 142 M_Rf_inputLeft := Or.inl (tb_in (i := 1192) (by decide +kernel) (by decide +kernel))
theorem G_Rf_275 : ML "RescanMillModel" 275 M_Rf_giveArgument := Or.inl (tb_in (i := 1196) (by decide +kernel) (by decide +kernel))
theorem G_Rf_268 : ML "RescanMillModel" 268 M_Rf_argumentAt := Or.inl (tb_in (i := 1200) (by decide +kernel) (by decide +kernel))
theorem G_Rf_272 : ML "RescanMillModel" 272 M_Rf_argumentSize := Or.inl (tb_in (i := 1204) (by decide +kernel) (by decide +kernel))
theorem G_Rf_278 : ML "RescanMillModel" 278 M_Rf_giveNumber := Or.inl (tb_in (i := 1208) (by decide +kernel) (by decide +kernel))
theorem G_Rf_282 : ML "RescanMillModel" 282 M_Rf_giveQuotedArgument := Or.inl (tb_in (i := 1215) (by decide +kernel) (by decide +kernel))
theorem G_Rf_288 : ML "RescanMillModel" 288 M_Rf_define := Or.inl (tb_in (i := 1219) (by decide +kernel) (by decide +kernel))
theorem G_Rf_315 : ML "RescanMillModel" 315 M_Rf_isNameArgument := Or.inl (tb_in (i := 1223) (by decide +kernel) (by decide +kernel))
theorem G_Rf_290 : ML "RescanMillModel" 290 M_Rf_forget := Or.inl (tb_in (i := 1227) (by decide +kernel) (by decide +kernel))
theorem G_Rf_318 : ML "RescanMillModel" 318 M_Rf_addMeaning := Or.inl (tb_in (i := 1231) (by decide +kernel) (by decide +kernel))
theorem G_Rf_293 : ML "RescanMillModel" 293 M_Rf_choose := Or.inl (tb_in (i := 1235) (by decide +kernel) (by decide +kernel))
theorem G_Rf_321 : ML "RescanMillModel" 321 M_Rf_same := Or.inl (tb_in (i := 1239) (by decide +kernel) (by decide +kernel))
theorem G_Rf_296 : ML "RescanMillModel" 296 M_Rf_evaluate := Or.inl (tb_in (i := 1243) (by decide +kernel) (by decide +kernel))
theorem G_Rf_356 : ML "RescanMillModel" 356 M_Rf_operands := Or.inl (tb_in (i := 1247) (by decide +kernel) (by decide +kernel))
theorem G_Rf_363 : ML "RescanMillModel" 363 M_Rf_unary := Or.inl (tb_in (i := 1251) (by decide +kernel) (by decide +kernel))
theorem G_Rf_366 : ML "RescanMillModel" 366 M_Rf_skipBlanks := Or.inl (tb_in (i := 1255) (by decide +kernel) (by decide +kernel))
theorem G_Rf_340 : ML "RescanMillModel" 340 M_Rf_sign := Or.inl (tb_in (i := 1259) (by decide +kernel) (by decide +kernel))
theorem G_Rf_378 : ML "RescanMillModel" 378 M_Rf_numeral := Or.inl (tb_in (i := 1263) (by decide +kernel) (by decide +kernel))
theorem G_Rf_369 : ML "RescanMillModel" 369 M_Rf_operator := Or.inl (tb_in (i := 1267) (by decide +kernel) (by decide +kernel))
theorem G_Rf_372 : ML "RescanMillModel" 372 M_Rf_isLong := Or.inl (tb_in (i := 1271) (by decide +kernel) (by decide +kernel))
theorem G_Rf_375 : ML "RescanMillModel" 375 M_Rf_settle := Or.inl (tb_in (i := 1274) (by decide +kernel) (by decide +kernel))
theorem G_Rf_359 : ML "RescanMillModel" 359 M_Rf_apply := Or.inl (tb_in (i := 1278) (by decide +kernel) (by decide +kernel))
theorem G_Rf_299 : ML "RescanMillModel" 299 M_Rf_number := Or.inl (tb_in (i := 1282) (by decide +kernel) (by decide +kernel))
theorem G_Rf_302 : ML "RescanMillModel" 302 M_Rf_giveIfRight := Or.inl (tb_in (i := 1286) (by decide +kernel) (by decide +kernel))
theorem G_Rf_305 : ML "RescanMillModel" 305 M_Rf_placeOf := Or.inl (tb_in (i := 1290) (by decide +kernel) (by decide +kernel))
theorem G_Rf_308 : ML "RescanMillModel" 308 M_Rf_giveSome := Or.inl (tb_in (i := 1294) (by decide +kernel) (by decide +kernel))
theorem G_Rf_311 : ML "RescanMillModel" 311 M_Rf_actOnInput := Or.inl (tb_in (i := 1298) (by decide +kernel) (by decide +kernel))
theorem G_Rf_325 : ML "RescanMillModel" 325 M_Rf_undivert := Or.inl (tb_in (i := 1302) (by decide +kernel) (by decide +kernel))
theorem G_Rf_327 : ML "RescanMillModel" 327 M_Rf_changeQuotes := Or.inl (tb_in (i := 1306) (by decide +kernel) (by decide +kernel))
theorem G_Rf_330 : ML "RescanMillModel" 330 M_Rf_isQuote := Or.inl (tb_in (i := 1310) (by decide +kernel) (by decide +kernel))
theorem G_Rf_253 : ML "RescanMillModel" 253 M_Rf_putBack := Or.inl (tb_in (i := 1314) (by decide +kernel) (by decide +kernel))
theorem G_Lw_38 : ML "RescanMillLaw" 38 M_Rf_told := Or.inl (tb_in (i := 1318) (by decide +kernel) (by decide +kernel))
theorem G_Lw_42 : ML "RescanMillLaw" 42 M_Rf_size := Or.inl (tb_in (i := 1322) (by decide +kernel) (by decide +kernel))
theorem G_Lw_47 : ML "RescanMillLaw" 47 M_Rf_word := Or.inl (tb_in (i := 1326) (by decide +kernel) (by decide +kernel))
theorem G_Mi_29 : ML "RescanMill" 29 M_In_init := Or.inr ⟨"RescanMill", List.mem_of_getElem? (i := 0) rfl⟩
theorem G_Mi_36 : ML "RescanMill" 36 M_Ca_init := Or.inr ⟨"RescanMill", List.mem_of_getElem? (i := 1) rfl⟩
theorem G_Ms_33 : ML "RescanMill$Meanings" 33 M_Me_init := Or.inr ⟨"RescanMill", List.mem_of_getElem? (i := 3) rfl⟩
theorem G_Me_9 : ML "RescanMill$Meaning" 9 M_Ch_init := Or.inr ⟨"RescanMill", List.mem_of_getElem? (i := 4) rfl⟩
theorem G_Di_27 : ML "RescanMill$Diversions" 27 M_Ch_init := Or.inr ⟨"RescanMill", List.mem_of_getElem? (i := 5) rfl⟩
theorem G_Mi_57 : ML "RescanMill" 57 M_Ex_init := Or.inr ⟨"RescanMill", List.mem_of_getElem? (i := 6) rfl⟩
theorem G_In_108 : ML "RescanMill$Input" 108 M_Mi_isLetter := Or.inr ⟨"RescanMill", List.mem_of_getElem? (i := 7) rfl⟩
theorem G_In_119 : ML "RescanMill$Input" 119 M_Mi_isNamePart := Or.inr ⟨"RescanMill", List.mem_of_getElem? (i := 8) rfl⟩
theorem G_Ex_44 : ML "RescanMill$Expression" 44 M_Mi_isSpace := Or.inr ⟨"RescanMill", List.mem_of_getElem? (i := 9) rfl⟩
theorem G_Ex_52 : ML "RescanMill$Expression" 52 M_Mi_isDigit := Or.inr ⟨"RescanMill", List.mem_of_getElem? (i := 10) rfl⟩
end
section
/-! a contract out of its body, with the locals laid out; small facts of numbers -/
def lbA : List Value → List (Option Value)
  | [] => []
  | v :: vs => if v.category = 2 then some v :: none :: lbA vs else some v :: lbA vs
theorem lbA_get (q : ev_T) : ∀ (av : List Value) (o k : Nat) (v : Value), (lbA av)[k]? = some (some v) → (o + k, ev_v q v) ∈ lv_args o (av.map (ev_v q))
  | [], o, k, v, h => by simp [lbA] at h
  | w :: vs, o, k, v, h => by
    simp only [lbA] at h
    rw [List.map_cons]
    show _ ∈ (o, ev_v q w) :: lv_args (if (ev_v q w).category = 2 then o + 2 else o + 1) (vs.map (ev_v q))
    rw [ev_cat]
    rcases lv_cat w with hc | hc
    · rw [if_neg (by omega)] at h
      rw [if_neg (by omega)]
      cases k with
      | zero => cases h; exact List.mem_cons_self
      | succ k => exact List.mem_cons_of_mem _ (by have := lbA_get q vs (o + 1) k v h; rw [show o + (k + 1) = o + 1 + k by omega]; exact this)
    · rw [if_pos hc] at h
      rw [if_pos hc]
      match k, h with
      | 0, h => cases h; exact List.mem_cons_self
      | 1, h => simp at h
      | k + 2, h => exact List.mem_cons_of_mem _ (by have := lbA_get q vs (o + 2) k v h; rw [show o + (k + 2) = o + 2 + k by omega]; exact this)
theorem Ctr.mk {l : Launch} {q : ev_T} {y : MethodName} {cc : ByteArray} {mL : Nat} {ret : Option FieldType} {d : Nat} {av : List Value} {u : mm_T} {Q : Option Value → mm_T → Prop} {lb : List (Option Value)} (hy : plainName y.cls = true) (hle : (lg_sl (av.map (ev_v q))).length ≤ mL) (hlb : lbA av ++ List.replicate (mL - (lbA av).length) none = lb) (hlen : lb.length = mL)
    (body : ∀ (p : Program) (e : Env) (s : State) (m : MethodId) (args : Array Value) (below : List Frame) (meth : Method) (c : Code), Cx p s m args c cc mL y.cls q → meth.sig.returnType = ret → meth.locks = false → meth.name = y.name →
      Vv p l e (rmT d u.1 u.2.1) s m args below meth c mL q (MQ below (Qw q Q) args s u.1 u.2.1 (fun a => q.1 ≤ a)) 0 lb [] u) : Ctr l q (y, cc, mL, ret) d av u Q := by
  refine Ctr.of hy hle hlen (fun k v hk => ?_) body
  subst hlb
  have h0 : (lbA av)[k]? = some (some v) := by
    by_cases hk1 : k < (lbA av).length
    · rw [List.getElem?_append_left hk1] at hk; exact hk
    · rw [List.getElem?_append_right (by omega)] at hk
      rw [List.getElem?_replicate] at hk
      split at hk
      · cases hk
      · cases hk
  have := lbA_get q av 0 k v h0
  rw [Nat.zero_add] at this
  exact this
/-- a weaker end -/
theorem Ctr.weak {l : Launch} {q : ev_T} {M : mt_T} {d : Nat} {av : List Value} {u : mm_T} {Q Q' : Option Value → mm_T → Prop} (h : Ctr l q M d av u Q) (hQ : ∀ v w, Q v w → Q' v w) : Ctr l q M d av u Q' := by
  intro p e ha hc hk s m args below hf hpre hP hK
  obtain ⟨t, o, h1, h2, h3, ⟨⟨⟨v, w, hv, hq, hw⟩, hF⟩, hL⟩⟩ := h p e ha hc hk s m args below hf hpre hP hK
  exact ⟨t, o, h1, h2, h3, ⟨⟨⟨v, w, hv, hQ v w hq, hw⟩, hF⟩, hL⟩⟩
end
section
/-! RescanMill$Bytes -/
theorem n2 {a b : Prop} (h1 : ¬ a) (h2 : ¬ b) : ¬ (a ∨ b) := fun z => z.elim h1 h2
theorem n3 {a b c : Prop} (h1 : ¬ a) (h2 : ¬ b) (h3 : ¬ c) : ¬ (a ∨ b ∨ c) := fun z => z.elim h1 (n2 h2 h3)
/-- a row of bytes with a bound: object b, row r of n places -/
def isB (g : mu_T) (b r n : Nat) : Prop := kdT b = .inl 1 ∧ b < gN g ∧ gF g b 0 = some r ∧ kdT r = .inr (1, n) ∧ r < gN g ∧ n < 2147483648
/-- what 'at' answers -/
def atB (g : mu_T) (b r n : Nat) (i : Int32) : Int32 := if i < 0 ∨ gI g b 1 ≤ i ∨ nI n ≤ i then -1 else gI g r i.toNatClampNeg &&& 255
theorem in_of {i : Int32} {n : Nat} (hn : n < 2147483648) (h0 : ¬ i < 0) (h1 : ¬ nI n ≤ i) : vp_in i n := by
  intro z
  rcases z with z | z
  · exact h0 z
  · apply h1
    rw [Int32.le_iff_toInt_le, nI_toInt hn]
    have hi : ¬ i.toInt < 0 := fun q => h0 (by rw [Int32.lt_iff_toInt_lt]; simpa using q)
    have : i.toNatClampNeg = i.toInt.toNat := rfl
    omega
theorem in_of' {i : Int32} {n : Nat} (hn : n < 2147483648) (h0 : ¬ i < 0) (h1 : i < nI n) : vp_in i n := in_of hn h0 (fun z => absurd h1 (by rw [Int32.not_lt]; exact z))
set_option maxHeartbeats 4000000 in
set_option maxRecDepth 100000 in
theorem c_By_at (l : Launch) (q : ev_T) {b r n : Nat} {i : Int32} {g : mu_T} (hB : isB g b r n) : Ctr l q M_By_at 0 [.ref b, .int i] (0, 0, g) (fun v w => v = some (.int (atB g b r n i)) ∧ w.2.2 = g) := by
  obtain ⟨hk, ha, hF, hkr, har, hn⟩ := hB
  refine Ctr.mk (lb := [some (.ref b), some (.int i)]) (by decide +kernel) (Nat.le_of_ble_eq_true rfl) rfl rfl ?_
  intro p e s m args below meth c X hrt hlk hnm
  refine v_iload_n X (dk D_By_at 0 rfl) rfl ?_
  refine v_if_lt (tgt := 34) X (dk D_By_at 1 rfl) (by decide) (fun c1 => ?_) (fun c1 => ?_)
  · refine v_iconst (v := -1) X (dk D_By_at 18 rfl) (by decide) ?_
    exact v_iret X hlk hrt (dk D_By_at 19 rfl) ⟨by simp [atB, c1], rfl⟩
  · refine v_iload_n X (dk D_By_at 2 rfl) rfl ?_
    refine v_aload_n X (dk D_By_at 3 rfl) rfl ?_
    refine v_getI X (dk D_By_at 4 rfl) F_By_21 rfl hk ha ?_
    refine v_icmp_ge (tgt := 34) X (dk D_By_at 5 rfl) (by decide) (fun c9 => ?_) (fun c9 => ?_)
    · refine v_iconst (v := -1) X (dk D_By_at 18 rfl) (by decide) ?_
      exact v_iret X hlk hrt (dk D_By_at 19 rfl) ⟨by simp only [atB]; rw [if_pos (Or.inr (Or.inl c9))], rfl⟩
    · refine v_iload_n X (dk D_By_at 6 rfl) rfl ?_
      refine v_aload_n X (dk D_By_at 7 rfl) rfl ?_
      refine v_getF X (dk D_By_at 8 rfl) F_By_15 rfl hk ha hF ?_
      refine v_alen (v := nI _) X (dk D_By_at 9 rfl) hkr rfl har rfl ?_
      refine v_icmp_ge (tgt := 34) X (dk D_By_at 10 rfl) (by decide) (fun c18 => ?_) (fun c18 => ?_)
      · refine v_iconst (v := -1) X (dk D_By_at 18 rfl) (by decide) ?_
        exact v_iret X hlk hrt (dk D_By_at 19 rfl) ⟨by simp only [atB]; rw [if_pos (Or.inr (Or.inr c18))], rfl⟩
      · refine v_aload_n X (dk D_By_at 11 rfl) rfl ?_
        refine v_getF X (dk D_By_at 12 rfl) F_By_15 rfl hk ha hF ?_
        refine v_iload_n X (dk D_By_at 13 rfl) rfl ?_
        refine v_bald X (dk D_By_at 14 rfl) hkr har (in_of hn c1 c18) ?_
        refine v_sipush (v := 255) X (dk D_By_at 15 rfl) (by decide) ?_
        refine v_iand X (dk D_By_at 16 rfl) ?_
        refine v_goto (tgt := 35) X (dk D_By_at 17 rfl) (by decide) ?_
        exact v_iret X hlk hrt (dk D_By_at 19 rfl) ⟨by simp only [atB]; rw [if_neg (n3 c1 c9 c18)], rfl⟩
set_option maxHeartbeats 4000000 in
set_option maxRecDepth 100000 in
theorem c_By_hasRoom (l : Launch) (q : ev_T) {b r n : Nat} {i : Int32} {g : mu_T} (hB : isB g b r n) : Ctr l q M_By_hasRoom 0 [.ref b, .int i] (0, 0, g) (fun v w => v = some (.int (if i ≤ nI n - gI g b 1 then 1 else 0)) ∧ w.2.2 = g) := by
  obtain ⟨hk, ha, hF, hkr, har, hn⟩ := hB
  refine Ctr.mk (lb := [some (.ref b), some (.int i)]) (by decide +kernel) (Nat.le_of_ble_eq_true rfl) rfl rfl ?_
  intro p e s m args below meth c X hrt hlk hnm
  refine v_iload_n X (dk D_By_hasRoom 0 rfl) rfl ?_
  refine v_aload_n X (dk D_By_hasRoom 1 rfl) rfl ?_
  refine v_getF X (dk D_By_hasRoom 2 rfl) F_By_15 rfl hk ha hF ?_
  refine v_alen (v := nI _) X (dk D_By_hasRoom 3 rfl) hkr rfl har rfl ?_
  refine v_aload_n X (dk D_By_hasRoom 4 rfl) rfl ?_
  refine v_getI X (dk D_By_hasRoom 5 rfl) F_By_21 rfl hk ha ?_
  refine v_isub X (dk D_By_hasRoom 6 rfl) ?_
  refine v_icmp_gt (tgt := 18) X (dk D_By_hasRoom 7 rfl) (by decide) (fun c11 => ?_) (fun c11 => ?_)
  · refine v_iconst (v := 0) X (dk D_By_hasRoom 10 rfl) (by decide) ?_
    exact v_zret X hlk hrt rfl (dk D_By_hasRoom 11 rfl) ⟨by rw [if_neg (Int32.not_le.mpr c11)], rfl⟩
  · refine v_iconst (v := 1) X (dk D_By_hasRoom 8 rfl) (by decide) ?_
    refine v_goto (tgt := 19) X (dk D_By_hasRoom 9 rfl) (by decide) ?_
    exact v_zret X hlk hrt rfl (dk D_By_hasRoom 11 rfl) ⟨by rw [if_pos (Int32.not_lt.mp c11)], rfl⟩
set_option maxHeartbeats 4000000 in
set_option maxRecDepth 100000 in
theorem c_By_cut (l : Launch) (q : ev_T) {b r n : Nat} {i : Int32} {g : mu_T} (hB : isB g b r n) : Ctr l q M_By_cut 0 [.ref b, .int i] (0, 0, g) (fun v w => v = none ∧ w.2.2 = xI (if 0 ≤ i ∧ i ≤ gI g b 1 then xI g b 1 i else g) b 2 0) := by
  obtain ⟨hk, ha, hF, hkr, har, hn⟩ := hB
  refine Ctr.mk (lb := [some (.ref b), some (.int i)]) (by decide +kernel) (Nat.le_of_ble_eq_true rfl) rfl rfl ?_
  intro p e s m args below meth c X hrt hlk hnm
  refine v_iload_n X (dk D_By_cut 0 rfl) rfl ?_
  refine v_if_lt (tgt := 17) X (dk D_By_cut 1 rfl) (by decide) (fun c1 => ?_) (fun c1 => ?_)
  · refine v_aload_n X (dk D_By_cut 9 rfl) rfl ?_
    refine v_iconst (v := 0) X (dk D_By_cut 10 rfl) (by decide) ?_
    refine v_putI X (dk D_By_cut 11 rfl) F_By_25 CK_By rfl hk ha rfl rfl ?_
    exact v_vret X hlk hrt (dk D_By_cut 12 rfl) ⟨rfl, by rw [if_neg (fun z => absurd c1 (Int32.not_lt.mpr z.1))]⟩
  · refine v_iload_n X (dk D_By_cut 2 rfl) rfl ?_
    refine v_aload_n X (dk D_By_cut 3 rfl) rfl ?_
    refine v_getI X (dk D_By_cut 4 rfl) F_By_21 rfl hk ha ?_
    refine v_icmp_gt (tgt := 17) X (dk D_By_cut 5 rfl) (by decide) (fun c9 => ?_) (fun c9 => ?_)
    · refine v_aload_n X (dk D_By_cut 9 rfl) rfl ?_
      refine v_iconst (v := 0) X (dk D_By_cut 10 rfl) (by decide) ?_
      refine v_putI X (dk D_By_cut 11 rfl) F_By_25 CK_By rfl hk ha rfl rfl ?_
      exact v_vret X hlk hrt (dk D_By_cut 12 rfl) ⟨rfl, by rw [if_neg (fun z => absurd c9 (Int32.not_lt.mpr z.2))]⟩
    · refine v_aload_n X (dk D_By_cut 6 rfl) rfl ?_
      refine v_iload_n X (dk D_By_cut 7 rfl) rfl ?_
      refine v_putI X (dk D_By_cut 8 rfl) F_By_21 CK_By rfl hk ha rfl rfl ?_
      refine v_aload_n X (dk D_By_cut 9 rfl) rfl ?_
      refine v_iconst (v := 0) X (dk D_By_cut 10 rfl) (by decide) ?_
      refine v_putI X (dk D_By_cut 11 rfl) F_By_25 CK_By rfl hk ha rfl rfl ?_
      exact v_vret X hlk hrt (dk D_By_cut 12 rfl) ⟨rfl, by rw [if_pos ⟨Int32.not_lt.mp c1, Int32.not_lt.mp c9⟩]⟩
set_option maxHeartbeats 4000000 in
set_option maxRecDepth 100000 in
theorem c_By_add (l : Launch) (q : ev_T) {b r n : Nat} {x : Int32} {g : mu_T} (hB : isB g b r n) : Ctr l q M_By_add 0 [.ref b, .int x] (0, 0, g) (fun v w => v = none ∧ w.2.2 = if ¬ gI g b 2 = 0 ∨ gI g b 1 < 0 ∨ nI n ≤ gI g b 1 then xI g b 2 1 else xI (xI g r (gI g b 1).toNatClampNeg x.toInt8.toInt32) b 1 (gI g b 1 + 1)) := by
  obtain ⟨hk, ha, hF, hkr, har, hn⟩ := hB
  have hne : b ≠ r := fun z => by rw [z, hkr] at hk; cases hk
  refine Ctr.mk (lb := [some (.ref b), some (.int x)]) (by decide +kernel) (Nat.le_of_ble_eq_true rfl) rfl rfl ?_
  intro p e s m args below meth c X hrt hlk hnm
  refine v_aload_n X (dk D_By_add 0 rfl) rfl ?_
  refine v_getI X (dk D_By_add 1 rfl) F_By_25 rfl hk ha ?_
  refine v_if_ne (tgt := 26) X (dk D_By_add 2 rfl) (by decide) (fun c4 => ?_) (fun c4 => ?_)
  · refine v_aload_n X (dk D_By_add 12 rfl) rfl ?_
    refine v_iconst (v := 1) X (dk D_By_add 13 rfl) (by decide) ?_
    refine v_putI X (dk D_By_add 14 rfl) F_By_25 CK_By rfl hk ha rfl rfl ?_
    exact v_vret X hlk hrt (dk D_By_add 15 rfl) ⟨rfl, by rw [if_pos (Or.inl c4)]⟩
  · refine v_aload_n X (dk D_By_add 3 rfl) rfl ?_
    refine v_getI X (dk D_By_add 4 rfl) F_By_21 rfl hk ha ?_
    refine v_if_lt (tgt := 26) X (dk D_By_add 5 rfl) (by decide) (fun c11 => ?_) (fun c11 => ?_)
    · refine v_aload_n X (dk D_By_add 12 rfl) rfl ?_
      refine v_iconst (v := 1) X (dk D_By_add 13 rfl) (by decide) ?_
      refine v_putI X (dk D_By_add 14 rfl) F_By_25 CK_By rfl hk ha rfl rfl ?_
      exact v_vret X hlk hrt (dk D_By_add 15 rfl) ⟨rfl, by rw [if_pos (Or.inr (Or.inl c11))]⟩
    · refine v_aload_n X (dk D_By_add 6 rfl) rfl ?_
      refine v_getI X (dk D_By_add 7 rfl) F_By_21 rfl hk ha ?_
      refine v_aload_n X (dk D_By_add 8 rfl) rfl ?_
      refine v_getF X (dk D_By_add 9 rfl) F_By_15 rfl hk ha hF ?_
      refine v_alen (v := nI _) X (dk D_By_add 10 rfl) hkr rfl har rfl ?_
      refine v_icmp_lt (tgt := 32) X (dk D_By_add 11 rfl) (by decide) (fun c23 => ?_) (fun c23 => ?_)
      · refine v_aload_n X (dk D_By_add 16 rfl) rfl ?_
        refine v_getF X (dk D_By_add 17 rfl) F_By_15 rfl hk ha hF ?_
        refine v_aload_n X (dk D_By_add 18 rfl) rfl ?_
        refine v_getI X (dk D_By_add 19 rfl) F_By_21 rfl hk ha ?_
        refine v_iload_n X (dk D_By_add 20 rfl) rfl ?_
        refine v_i2b X (dk D_By_add 21 rfl) rfl ?_
        refine v_bast X (dk D_By_add 22 rfl) hkr har (in_of' hn c11 c23) rfl ?_
        refine v_aload_n X (dk D_By_add 23 rfl) rfl ?_
        refine v_dup X (dk D_By_add 24 rfl) rfl ?_
        refine v_getI X (dk D_By_add 25 rfl) F_By_21 rfl hk ha ?_
        refine v_iconst (v := 1) X (dk D_By_add 26 rfl) (by decide) ?_
        refine v_iadd X (dk D_By_add 27 rfl) ?_
        refine v_putI X (dk D_By_add 28 rfl) F_By_21 CK_By rfl hk ha rfl rfl ?_
        exact v_vret X hlk hrt (dk D_By_add 29 rfl) ⟨rfl, by rw [if_neg (n3 (fun z => z c4) c11 (Int32.not_le.mpr c23))]; simp only [Int8.toInt8_toInt32]; exact congrArg (fun z => xI _ b 1 (z + 1)) (up2_na hne)⟩
      · refine v_aload_n X (dk D_By_add 12 rfl) rfl ?_
        refine v_iconst (v := 1) X (dk D_By_add 13 rfl) (by decide) ?_
        refine v_putI X (dk D_By_add 14 rfl) F_By_25 CK_By rfl hk ha rfl rfl ?_
        exact v_vret X hlk hrt (dk D_By_add 15 rfl) ⟨rfl, by rw [if_pos (Or.inr (Or.inr (Int32.not_lt.mp c23)))]⟩
end
section
/-! rows of bytes as lists -/
theorem gI_eq (g : mu_T) (a k : Nat) (x : Int32) : gI (xI g a k x) a k = x := up2_eq _ _ _ _
theorem gI_na {g : mu_T} {a k b j : Nat} {x : Int32} (h : b ≠ a) : gI (xI g a k x) b j = gI g b j := up2_na h
theorem gI_nk {g : mu_T} {a k b j : Nat} {x : Int32} (h : j ≠ k) : gI (xI g a k x) b j = gI g b j := up2_nk h
theorem gI_A (g : mu_T) (a : Nat) (f : Nat → Int32) (j : Nat) : gI (xA g a f) a j = f j := congrFun (if_pos rfl) j
theorem gI_nA {g : mu_T} {a b j : Nat} {f : Nat → Int32} (h : b ≠ a) : gI (xA g a f) b j = gI g b j := congrFun (if_neg h) j
/-- only the cells of S may differ -/
def sm (g h : mu_T) (S : List Nat) : Prop := h.1 = g.1 ∧ h.2.1 = g.2.1 ∧ (∀ a, a ∉ S → h.2.2.2 a = g.2.2.2 a) ∧ ∀ a, a ∉ S → h.2.2.1 a = g.2.2.1 a
theorem sm.rf (g : mu_T) (S : List Nat) : sm g g S := ⟨rfl, rfl, fun _ _ => rfl, fun _ _ => rfl⟩
theorem sm.xI {g h : mu_T} {S : List Nat} {a k : Nat} {x : Int32} (z : sm g h S) (ha : a ∈ S) : sm g (xI h a k x) S := ⟨z.1, z.2.1, z.2.2.1, fun b hb => (up2_nf (fun e => hb (by rw [e]; exact ha))).trans (z.2.2.2 b hb)⟩
theorem sm.xA {g h : mu_T} {S : List Nat} {a : Nat} {f : Nat → Int32} (z : sm g h S) (ha : a ∈ S) : sm g (xA h a f) S := ⟨z.1, z.2.1, z.2.2.1, fun b hb => (if_neg (fun e => hb (by rw [e]; exact ha))).trans (z.2.2.2 b hb)⟩
theorem sm.tr {g h k : mu_T} {S T U : List Nat} (z : sm g h S) (y : sm h k T) (hS : ∀ a ∈ S, a ∈ U) (hT : ∀ a ∈ T, a ∈ U) : sm g k U := ⟨y.1.trans z.1, y.2.1.trans z.2.1, fun a ha => (y.2.2.1 a (fun e => ha (hT a e))).trans (z.2.2.1 a (fun e => ha (hS a e))), fun a ha => (y.2.2.2 a (fun e => ha (hT a e))).trans (z.2.2.2 a (fun e => ha (hS a e)))⟩
theorem sm.mono {g h : mu_T} {S U : List Nat} (z : sm g h S) (hS : ∀ a ∈ S, a ∈ U) : sm g h U := ⟨z.1, z.2.1, fun a ha => z.2.2.1 a (fun e => ha (hS a e)), fun a ha => z.2.2.2 a (fun e => ha (hS a e))⟩
theorem sm.I {g h : mu_T} {S : List Nat} (z : sm g h S) {a : Nat} (ha : a ∉ S) (k : Nat) : gI h a k = gI g a k := congrFun (z.2.2.2 a ha) k
theorem sm.N {g h : mu_T} {S : List Nat} (z : sm g h S) : gN h = gN g := z.1
theorem sm.F {g h : mu_T} {S : List Nat} (z : sm g h S) : gF h = gF g := z.2.1
theorem sm.R {g h : mu_T} {S : List Nat} (z : sm g h S) {a : Nat} (ha : a ∉ S) (k : Nat) : gR h a k = gR g a k := congrFun (z.2.2.1 a ha) k
theorem sm.xR {g h : mu_T} {S : List Nat} {a k : Nat} {x : Option Nat} (z : sm g h S) (ha : a ∈ S) : sm g (xR h a k x) S := ⟨z.1, z.2.1, fun b hb => (up2_nf (fun e => hb (by rw [e]; exact ha))).trans (z.2.2.1 b hb), z.2.2.2⟩
theorem gR_eq (g : mu_T) (a k : Nat) (x : Option Nat) : gR (xR g a k x) a k = x := up2_eq _ _ _ _
theorem gR_na {g : mu_T} {a k b j : Nat} {x : Option Nat} (h : b ≠ a) : gR (xR g a k x) b j = gR g b j := up2_na h
theorem gR_nk {g : mu_T} {a k b j : Nat} {x : Option Nat} (h : j ≠ k) : gR (xR g a k x) b j = gR g b j := up2_nk h
theorem isB.sm {g h : mu_T} {S : List Nat} {b r n : Nat} (i : isB g b r n) (z : sm g h S) : isB h b r n := by
  obtain ⟨h1, h2, h3, h4, h5, h6⟩ := i
  exact ⟨h1, by rw [z.N]; exact h2, by rw [z.F]; exact h3, h4, by rw [z.N]; exact h5, h6⟩
theorem isB.ne {g : mu_T} {b r n : Nat} (i : isB g b r n) : b ≠ r := fun z => by
  obtain ⟨h1, h2, h3, h4, h5, h6⟩ := i
  rw [z, h4] at h1; cases h1
def RB (g : mu_T) (b r n : Nat) (xs : List Int32) (ov : Bool) : Prop := isB g b r n ∧ xs.length ≤ n ∧ gI g b 1 = nI xs.length ∧ gI g b 2 = (if ov = true then 1 else 0) ∧ ∀ j, j < xs.length → gI g r j = xs.getD j 0
theorem RB.sm {g h : mu_T} {S : List Nat} {b r n : Nat} {xs : List Int32} {ov : Bool} (i : RB g b r n xs ov) (z : sm g h S) (hb : b ∉ S) (hr : r ∉ S) : RB h b r n xs ov := by
  obtain ⟨h1, h2, h3, h4, h5⟩ := i
  exact ⟨h1.sm z, h2, by rw [z.I hb]; exact h3, by rw [z.I hb]; exact h4, fun j hj => by rw [z.I hr]; exact h5 j hj⟩
theorem RB.lt {g : mu_T} {b r n : Nat} {xs : List Int32} {ov : Bool} (i : RB g b r n xs ov) : xs.length < 2147483648 := Nat.lt_of_le_of_lt i.2.1 i.1.2.2.2.2.2
/-- one byte more, in a row of N places -/
def ad1 (N : Nat) (p : List Int32 × Bool) (x : Int32) : List Int32 × Bool := if p.2 = true ∨ p.1.length = N then (p.1, true) else (p.1 ++ [x], false)
def adL (N : Nat) (p : List Int32 × Bool) (l : List Int32) : List Int32 × Bool := l.foldl (ad1 N) p
theorem adL_over (N : Nat) : ∀ (l xs : List Int32), adL N (xs, true) l = (xs, true)
  | [], xs => rfl
  | x :: l, xs => by
    show adL N (ad1 N (xs, true) x) l = _
    rw [show ad1 N (xs, true) x = (xs, true) from if_pos (Or.inl rfl)]
    exact adL_over N l xs
theorem adL_in (N : Nat) : ∀ (l xs : List Int32), xs.length + l.length ≤ N → adL N (xs, false) l = (xs ++ l, false)
  | [], xs, _ => by simp [adL]
  | x :: l, xs, h => by
    show adL N (ad1 N (xs, false) x) l = _
    simp only [List.length_cons] at h
    rw [show ad1 N (xs, false) x = (xs ++ [x], false) from if_neg (by simp; omega), adL_in N l (xs ++ [x]) (by simp; omega)]
    simp
theorem adL_out (N : Nat) : ∀ (l xs : List Int32), xs.length ≤ N → N < xs.length + l.length → (adL N (xs, false) l).2 = true
  | [], xs, h0, h => by simp at h; omega
  | x :: l, xs, h0, h => by
    show (adL N (ad1 N (xs, false) x) l).2 = true
    by_cases he : xs.length = N
    · rw [show ad1 N (xs, false) x = (xs, true) from if_pos (Or.inr he), adL_over]
    · rw [show ad1 N (xs, false) x = (xs ++ [x], false) from if_neg (by simp [he])]
      simp only [List.length_cons] at h
      exact adL_out N l (xs ++ [x]) (by simp; omega) (by simp; omega)
theorem adL_app (N : Nat) (p : List Int32 × Bool) (l k : List Int32) : adL N p (l ++ k) = adL N (adL N p l) k := List.foldl_append
/-- what 'at' answers, of a list -/
def atL (xs : List Int32) (i : Int32) : Int32 := if i < 0 ∨ nI xs.length ≤ i then -1 else xs.getD i.toNatClampNeg 0 &&& 255
theorem atL_nI {xs : List Int32} {j : Nat} (h : j < xs.length) (hl : xs.length < 2147483648) : atL xs (nI j) = xs.getD j 0 &&& 255 := by
  simp only [atL]
  rw [if_neg (n2 (nI_pos (by omega)) (nI_ge h (by omega))), nI_clamp (by omega)]
theorem atL_out {xs : List Int32} {j : Nat} (h : xs.length ≤ j) (hj : j < 2147483648) : atL xs (nI j) = -1 := by
  simp only [atL]
  rw [if_pos (Or.inr (nI_le h (by omega)))]
theorem clamp_lt {i : Int32} {n : Nat} (hn : n < 2147483648) (h0 : ¬ i < 0) (h1 : ¬ nI n ≤ i) : i.toNatClampNeg < n := Nat.not_le.mp fun z => in_of hn h0 h1 (Or.inr z)
theorem RB.at {g : mu_T} {b r n : Nat} {xs : List Int32} {ov : Bool} (h : RB g b r n xs ov) (i : Int32) : atB g b r n i = atL xs i := by
  have hl := h.lt
  obtain ⟨h1, h2, h3, h4, h5⟩ := h
  simp only [atB, atL, h3]
  by_cases c : i < 0 ∨ nI xs.length ≤ i
  · rw [if_pos c, if_pos (c.elim Or.inl (fun z => Or.inr (Or.inl z)))]
  · have c0 : ¬ i < 0 := fun z => c (Or.inl z)
    have c1 : ¬ nI xs.length ≤ i := fun z => c (Or.inr z)
    have hlt := clamp_lt hl c0 c1
    have c2 : ¬ nI n ≤ i := fun z => c1 (Int32.le_trans (nI_le h2 h1.2.2.2.2.2) z)
    rw [if_neg (n3 c0 c1 c2), if_neg c, h5 _ hlt]
theorem k_at (l : Launch) (q : ev_T) {b r n : Nat} {xs : List Int32} {ov : Bool} {i : Int32} {g : mu_T} (hB : RB g b r n xs ov) : Ctr l q M_By_at 0 [.ref b, .int i] (0, 0, g) (fun v w => v = some (.int (atL xs i)) ∧ w.2.2 = g) :=
  (c_By_at l q hB.1).weak fun v w h => ⟨by rw [h.1, hB.at], h.2⟩
theorem k_hasRoom (l : Launch) (q : ev_T) {b r n k : Nat} {xs : List Int32} {ov : Bool} {g : mu_T} (hB : RB g b r n xs ov) (hk : k < 1073741824) (hn : n < 1073741824) : Ctr l q M_By_hasRoom 0 [.ref b, .int (nI k)] (0, 0, g) (fun v w => v = some (.int (if xs.length + k ≤ n then 1 else 0)) ∧ w.2.2 = g) :=
  (c_By_hasRoom l q hB.1).weak fun v w h => ⟨by
    rw [h.1, hB.2.2.1, pk_sub hB.2.1]
    have h2 := hB.2.1
    by_cases c : xs.length + k ≤ n
    · rw [if_pos c, if_pos (nI_le (by omega) (by omega))]
    · rw [if_neg c, if_neg (nI_ge (by omega) (by omega))], h.2⟩
theorem k_cut0 (l : Launch) (q : ev_T) {b r n : Nat} {xs : List Int32} {ov : Bool} {g : mu_T} (hB : RB g b r n xs ov) : Ctr l q M_By_cut 0 [.ref b, .int 0] (0, 0, g) (fun v w => v = none ∧ sm g w.2.2 [b] ∧ RB w.2.2 b r n [] false) :=
  (c_By_cut l q hB.1).weak fun v w h => by
    have hl := hB.lt
    have hne := hB.1.ne
    obtain ⟨h1, h2, h3, h4, h5⟩ := hB
    refine ⟨h.1, ?_, ?_⟩
    · rw [h.2, h3, if_pos ⟨by decide, nI_pos' (by omega)⟩]
      exact ((sm.rf g [b]).xI (by simp)).xI (by simp)
    · have z : sm g w.2.2 [b] := by
        rw [h.2, h3, if_pos ⟨by decide, nI_pos' (by omega)⟩]
        exact ((sm.rf g [b]).xI (by simp)).xI (by simp)
      refine ⟨h1.sm z, Nat.zero_le _, ?_, ?_, fun j hj => by simp at hj⟩
      · rw [h.2, h3, if_pos ⟨by decide, nI_pos' (by omega)⟩]
        exact (up2_nk (by decide)).trans (up2_eq _ _ _ _)
      · rw [h.2]
        exact up2_eq _ _ _ _
theorem k_add (l : Launch) (q : ev_T) {b r n : Nat} {x : Int32} {xs : List Int32} {ov : Bool} {g : mu_T} (hB : RB g b r n xs ov) : Ctr l q M_By_add 0 [.ref b, .int x] (0, 0, g) (fun v w => v = none ∧ sm g w.2.2 [b, r] ∧ RB w.2.2 b r n (ad1 n (xs, ov) x.toInt8.toInt32).1 (ad1 n (xs, ov) x.toInt8.toInt32).2) :=
  (c_By_add l q hB.1).weak fun v w h => by
    have hl := hB.lt
    have hne := hB.1.ne
    obtain ⟨h1, h2, h3, h4, h5⟩ := hB
    refine ⟨h.1, ?_⟩
    have hn := h1.2.2.2.2.2
    by_cases c : ov = true ∨ xs.length = n
    · have hc : ¬ gI g b 2 = 0 ∨ gI g b 1 < 0 ∨ nI n ≤ gI g b 1 := by
        rcases c with c | c
        · left; rw [h4, if_pos c]; decide
        · right; right; rw [h3, c]; exact Int32.le_refl _
      have e2 := h.2
      rw [if_pos hc] at e2
      have e3 : ad1 n (xs, ov) x.toInt8.toInt32 = (xs, true) := if_pos c
      rw [e2, e3]
      have z : sm g (xI g b 2 1) [b, r] := (sm.rf g [b, r]).xI (by simp)
      exact ⟨z, h1.sm z, h2, (up2_nk (by decide)).trans h3, up2_eq _ _ _ _, fun j hj => (up2_na (Ne.symm hne)).trans (h5 j hj)⟩
    · have c0 : ov = false := by cases ov; rfl; exact absurd (Or.inl rfl) c
      have c1 : xs.length ≠ n := fun z => c (Or.inr z)
      have hc : ¬ (¬ gI g b 2 = 0 ∨ gI g b 1 < 0 ∨ nI n ≤ gI g b 1) := by
        refine n3 (fun z => z (by rw [h4, c0]; rfl)) (by rw [h3]; exact nI_pos (by omega)) (by rw [h3]; exact nI_ge (by omega) (by omega))
      have e2 := h.2
      rw [if_neg hc, h3, nI_clamp (by omega), nI_1] at e2
      have e3 : ad1 n (xs, ov) x.toInt8.toInt32 = (xs ++ [x.toInt8.toInt32], false) := if_neg c
      rw [e2, e3]
      have z : sm g (xI (xI g r xs.length x.toInt8.toInt32) b 1 (nI (xs.length + 1))) [b, r] := ((sm.rf g [b, r]).xI (by simp)).xI (by simp)
      refine ⟨z, h1.sm z, by simp; omega, ?_, ?_, fun j hj => ?_⟩
      · rw [List.length_append]; exact up2_eq _ _ _ _
      · exact (gI_nk (by decide)).trans ((gI_na hne).trans (h4.trans (by rw [c0])))
      · refine (gI_na (Ne.symm hne)).trans ?_
        simp only [List.length_append, List.length_cons, List.length_nil] at hj
        by_cases hjl : j = xs.length
        · subst hjl
          refine (gI_eq _ _ _ _).trans ?_
          simp
        · refine (gI_nk hjl).trans ((h5 j (by omega)).trans ?_)
          simp only [List.getD_eq_getElem?_getD]
          rw [List.getElem?_append_left (by omega)]
end
section
/-! the JDK: texts that stand still -/
def sxl (i : Nat) : Nat := (sx_B.getD i []).length
def sxc (i j : Nat) : Int32 := (sx_B.getD i []).getD j 0
theorem sxl_lt : ∀ i, i < 38 → sxl i < 12 := by decide +kernel
theorem sxc_ok : ∀ i, i < 38 → ∀ j, j < 12 → ((sxc i j &&& 255).toUInt32 % 65536).toInt32 = sxc i j ∧ narrow .char (.int (sxc i j)) = .int (sxc i j) := by decide +kernel
set_option maxHeartbeats 4000000 in
set_option maxRecDepth 100000 in
theorem c_St_coder (l : Launch) (q : ev_T) {i : Nat} {g : mu_T} (hi : i < 38) : Ctr l q M_St_coder 0 [.ref (1048640 + i)] (0, 0, g) (fun v w => v = some (.int 0) ∧ w.2.2 = g) := by

  refine Ctr.mk (lb := [some (.ref (1048640 + i))]) (by decide +kernel) (Nat.le_of_ble_eq_true rfl) rfl rfl ?_
  intro p e s m args below meth c X hrt hlk hnm
  refine v_gets (v := .int 1) X (dk D_St_coder 0 rfl) (Or.inl Z_St_38) X.sf.2.2.2.2.2.2.2.1.1 ?_
  refine v_if_eq (tgt := 13) X (dk D_St_coder 1 rfl) (by decide) (fun c3 => absurd c3 (by decide)) (fun _ => ?_)
  refine v_aload_n X (dk D_St_coder 2 rfl) rfl ?_
  refine v_sget (v := .int 0) X (dk D_St_coder 3 rfl) Z_St_15 (X.sf.2.2.1 i hi).2.1 ?_
  refine v_goto (tgt := 14) X (dk D_St_coder 4 rfl) (by decide) ?_
  exact v_zret X hlk hrt rfl (dk D_St_coder 6 rfl) ⟨rfl, rfl⟩
set_option maxHeartbeats 4000000 in
set_option maxRecDepth 100000 in
theorem c_St_isLatin1 (l : Launch) (q : ev_T) {i : Nat} {g : mu_T} (hi : i < 38) : Ctr l q M_St_isLatin1 0 [.ref (1048640 + i)] (0, 0, g) (fun v w => v = some (.int 1) ∧ w.2.2 = g) := by

  refine Ctr.mk (lb := [some (.ref (1048640 + i))]) (by decide +kernel) (Nat.le_of_ble_eq_true rfl) rfl rfl ?_
  intro p e s m args below meth c X hrt hlk hnm
  refine v_gets (v := .int 1) X (dk D_St_isLatin1 0 rfl) (Or.inl Z_St_38) X.sf.2.2.2.2.2.2.2.1.1 ?_
  refine v_if_eq (tgt := 17) X (dk D_St_isLatin1 1 rfl) (by decide) (fun c3 => absurd c3 (by decide)) (fun _ => ?_)
  refine v_aload_n X (dk D_St_isLatin1 2 rfl) rfl ?_
  refine v_sget (v := .int 0) X (dk D_St_isLatin1 3 rfl) Z_St_15 (X.sf.2.2.1 i hi).2.1 ?_
  refine v_if_ne (tgt := 17) X (dk D_St_isLatin1 4 rfl) (by decide) (fun c10 => absurd c10 (by decide)) (fun _ => ?_)
  refine v_iconst (v := 1) X (dk D_St_isLatin1 5 rfl) (by decide) ?_
  refine v_goto (tgt := 18) X (dk D_St_isLatin1 6 rfl) (by decide) ?_
  exact v_zret X hlk hrt rfl (dk D_St_isLatin1 8 rfl) ⟨rfl, rfl⟩
theorem ML.p {own : String} {idx : Nat} {M : mt_T} (h : ML own idx M) (hn : nstT.all (fun w => !(match w with | .methodLinkNest o i y _ => (o == own && i == idx) && y == M.1 | _ => false)) = true) : Cond.methodLink own idx M.1 ∈ tbG := by
  rcases h with h | ⟨host, h⟩
  · exact h
  · have := List.all_eq_true.mp hn _ h
    simp at this
set_option maxHeartbeats 4000000 in
set_option maxRecDepth 100000 in
theorem c_St_length (l : Launch) (q : ev_T) {i : Nat} {g : mu_T} (hi : i < 38) : Ctr l q M_St_length 1 [.ref (1048640 + i)] (0, 0, g) (fun v w => v = some (.int (nI (sxl i))) ∧ w.2.2 = g) := by

  refine Ctr.mk (lb := [some (.ref (1048640 + i))]) (by decide +kernel) (Nat.le_of_ble_eq_true rfl) rfl rfl ?_
  intro p e s m args below meth c X hrt hlk hnm
  refine v_aload_n X (dk D_St_length 0 rfl) rfl ?_
  refine v_sget (v := .ref (1048700 + i)) X (dk D_St_length 1 rfl) Z_St_9 (X.sf.2.2.1 i hi).2.2.1 ?_
  refine v_salen (v := nI (sxl i)) X (dk D_St_length 2 rfl) (X.sf.2.2.1 i hi).2.2.2 rfl ?_
  refine v_aload_n X (dk D_St_length 3 rfl) rfl ?_
  refine v_invVS (As := []) (st := [.int (nI (sxl i))]) X (c_St_coder l q (g := g) hi) (dk D_St_length 4 rfl) (ML.p G_St_335 (by decide +kernel)) K_St_coder V_St_coder (X.sf.2.2.1 i hi).1 rfl rfl (Nat.le_of_ble_eq_true rfl) (Nat.le_of_ble_eq_true rfl) (Nat.le_of_ble_eq_true rfl) (Nat.le_of_ble_eq_true rfl) (Nat.le_of_ble_eq_true rfl) ?_
  rintro v w ⟨rfl, hw⟩
  rw [hw]
  show Vv _ _ _ _ _ _ _ _ _ _ _ _ _ _ _ [.int 0, .int (nI (sxl i))] (0, 0, g)
  refine v_ishr X (dk D_St_length 5 rfl) ?_
  exact v_iret X hlk hrt (dk D_St_length 6 rfl) ⟨by rw [sb_shr0], rfl⟩
set_option maxHeartbeats 4000000 in
set_option maxRecDepth 100000 in
theorem c_Pr_checkIndex (l : Launch) (q : ev_T) {x y : Int32} {r : Option Nat} {g : mu_T} (h0 : ¬ x < 0) (h1 : x < y) : Ctr l q M_Pr_checkIndex 0 [.int x, .int y, va_rf r] (0, 0, g) (fun v w => v = some (.int x) ∧ w.2.2 = g) := by

  refine Ctr.mk (lb := [some (.int x), some (.int y), some (va_rf r)]) (by decide +kernel) (by cases r <;> exact Nat.le_of_ble_eq_true rfl) (by cases r <;> rfl) rfl ?_
  intro p e s m args below meth c X hrt hlk hnm
  refine v_iload_n X (dk D_Pr_checkIndex 0 rfl) rfl ?_
  refine v_if_lt (tgt := 9) X (dk D_Pr_checkIndex 1 rfl) (by decide) (fun c1 => absurd c1 h0) (fun _ => ?_)
  refine v_iload_n X (dk D_Pr_checkIndex 2 rfl) rfl ?_
  refine v_iload_n X (dk D_Pr_checkIndex 3 rfl) rfl ?_
  refine v_icmp_lt (tgt := 16) X (dk D_Pr_checkIndex 4 rfl) (by decide) (fun _ => ?_) (fun c6 => absurd h1 c6)
  refine v_iload_n X (dk D_Pr_checkIndex 10 rfl) rfl ?_
  exact v_iret X hlk hrt (dk D_Pr_checkIndex 11 rfl) ⟨rfl, rfl⟩
set_option maxHeartbeats 4000000 in
set_option maxRecDepth 100000 in
theorem c_St_checkIndex (l : Launch) (q : ev_T) {x y : Int32} {g : mu_T} (h0 : ¬ x < 0) (h1 : x < y) : Ctr l q M_St_checkIndex 1 [.int x, .int y] (0, 0, g) (fun v w => v = none ∧ w.2.2 = g) := by

  refine Ctr.mk (lb := [some (.int x), some (.int y)]) (by decide +kernel) (Nat.le_of_ble_eq_true rfl) rfl rfl ?_
  intro p e s m args below meth c X hrt hlk hnm
  refine v_iload_n X (dk D_St_checkIndex 0 rfl) rfl ?_
  refine v_iload_n X (dk D_St_checkIndex 1 rfl) rfl ?_
  obtain ⟨r, hr⟩ : ∃ r : Option Nat, va_Z "jdk/internal/util/Preconditions" "SIOOBE_FORMATTER" "Ljava/util/function/BiFunction;" (ev_v q (va_rf r)) (fun a => q.1 ≤ a) s s.heap := by
    rcases X.sf.2.2.2.2.2.2.2.1.2 with z | z
    · exact ⟨none, z⟩
    · exact ⟨some 1048754, z⟩
  refine v_gets (v := va_rf r) X (dk D_St_checkIndex 2 rfl) (Or.inl Z_St_1053) hr ?_
  refine v_invS (As := [.int x, .int y, va_rf r]) (st := []) X (c_Pr_checkIndex l q (g := g) (r := r) h0 h1) (dk D_St_checkIndex 3 rfl) G_St_1059 K_Pr_checkIndex S_Pr_checkIndex rfl rfl (Nat.le_of_ble_eq_true rfl) (Nat.le_of_ble_eq_true rfl) (Nat.le_of_ble_eq_true rfl) (Nat.le_of_ble_eq_true rfl) (Nat.le_of_ble_eq_true rfl) ?_
  rintro v w ⟨rfl, hw⟩
  rw [hw]
  show Vv _ _ _ _ _ _ _ _ _ _ _ _ _ _ _ [.int x] (0, 0, g)
  refine v_pop X (dk D_St_checkIndex 4 rfl) rfl ?_
  exact v_vret X hlk hrt (dk D_St_checkIndex 5 rfl) ⟨rfl, rfl⟩
set_option maxHeartbeats 4000000 in
set_option maxRecDepth 100000 in
theorem c_Sl_charAt (l : Launch) (q : ev_T) {i j : Nat} {g : mu_T} (hi : i < 38) (hj : j < sxl i) : Ctr l q M_Sl_charAt 2 [.ref (1048700 + i), .int (nI j)] (0, 0, g) (fun v w => v = some (.int (sxc i j)) ∧ w.2.2 = g) := by
  have hl := sxl_lt i hi
  refine Ctr.mk (lb := [some (.ref (1048700 + i)), some (.int (nI j))]) (by decide +kernel) (Nat.le_of_ble_eq_true rfl) rfl rfl ?_
  intro p e s m args below meth c X hrt hlk hnm
  refine v_iload_n X (dk D_Sl_charAt 0 rfl) rfl ?_
  refine v_aload_n X (dk D_Sl_charAt 1 rfl) rfl ?_
  refine v_salen (v := nI (sxl i)) X (dk D_Sl_charAt 2 rfl) (X.sf.2.2.1 i hi).2.2.2 rfl ?_
  refine v_invS (As := [.int (nI j), .int (nI (sxl i))]) (st := []) X (c_St_checkIndex l q (g := g) (nI_pos (by omega)) (nI_lt hj (by omega))) (dk D_Sl_charAt 3 rfl) G_Sl_9 K_St_checkIndex S_St_checkIndex rfl rfl (Nat.le_of_ble_eq_true rfl) (Nat.le_of_ble_eq_true rfl) (Nat.le_of_ble_eq_true rfl) (Nat.le_of_ble_eq_true rfl) (Nat.le_of_ble_eq_true rfl) ?_
  rintro v w ⟨rfl, hw⟩
  rw [hw]
  show Vv _ _ _ _ _ _ _ _ _ _ _ _ _ _ _ [] (0, 0, g)
  refine v_aload_n X (dk D_Sl_charAt 4 rfl) rfl ?_
  refine v_iload_n X (dk D_Sl_charAt 5 rfl) rfl ?_
  refine v_sbald (v := .int (sxc i j)) X (dk D_Sl_charAt 6 rfl) (X.sf.2.2.1 i hi).2.2.2 (show vp_in (nI j) (sxl i) from vp_in_nI hj (by omega)) (by rw [nI_clamp (by omega)]; rfl) ?_
  refine v_sipush (v := 255) X (dk D_Sl_charAt 7 rfl) (by decide) ?_
  refine v_iand X (dk D_Sl_charAt 8 rfl) ?_
  refine v_i2c X (dk D_Sl_charAt 9 rfl) (sxc_ok i hi j (by omega)).1 ?_
  exact v_zret X hlk hrt (sxc_ok i hi j (by omega)).2 (dk D_Sl_charAt 10 rfl) ⟨rfl, rfl⟩
set_option maxHeartbeats 4000000 in
set_option maxRecDepth 100000 in
theorem c_St_charAt (l : Launch) (q : ev_T) {i j : Nat} {g : mu_T} (hi : i < 38) (hj : j < sxl i) : Ctr l q M_St_charAt 3 [.ref (1048640 + i), .int (nI j)] (0, 0, g) (fun v w => v = some (.int (sxc i j)) ∧ w.2.2 = g) := by
  have hl := sxl_lt i hi
  refine Ctr.mk (lb := [some (.ref (1048640 + i)), some (.int (nI j))]) (by decide +kernel) (Nat.le_of_ble_eq_true rfl) rfl rfl ?_
  intro p e s m args below meth c X hrt hlk hnm
  refine v_aload_n X (dk D_St_charAt 0 rfl) rfl ?_
  refine v_invVS (As := []) (st := []) X (c_St_isLatin1 l q (g := g) hi) (dk D_St_charAt 1 rfl) (ML.p G_St_492 (by decide +kernel)) K_St_isLatin1 V_St_isLatin1 (X.sf.2.2.1 i hi).1 rfl rfl (Nat.le_of_ble_eq_true rfl) (Nat.le_of_ble_eq_true rfl) (Nat.le_of_ble_eq_true rfl) (Nat.le_of_ble_eq_true rfl) (Nat.le_of_ble_eq_true rfl) ?_
  rintro v w ⟨rfl, hw⟩
  rw [hw]
  show Vv _ _ _ _ _ _ _ _ _ _ _ _ _ _ _ [.int 1] (0, 0, g)
  refine v_if_eq (tgt := 16) X (dk D_St_charAt 2 rfl) (by decide) (fun c4 => absurd c4 (by decide)) (fun _ => ?_)
  refine v_aload_n X (dk D_St_charAt 3 rfl) rfl ?_
  refine v_sget (v := .ref (1048700 + i)) X (dk D_St_charAt 4 rfl) Z_St_9 (X.sf.2.2.1 i hi).2.2.1 ?_
  refine v_iload_n X (dk D_St_charAt 5 rfl) rfl ?_
  refine v_invS (As := [.ref (1048700 + i), .int (nI j)]) (st := []) X (c_Sl_charAt l q (g := g) hi hj) (dk D_St_charAt 6 rfl) G_St_495 K_Sl_charAt S_Sl_charAt rfl rfl (Nat.le_of_ble_eq_true rfl) (Nat.le_of_ble_eq_true rfl) (Nat.le_of_ble_eq_true rfl) (Nat.le_of_ble_eq_true rfl) (Nat.le_of_ble_eq_true rfl) ?_
  rintro v w ⟨rfl, hw⟩
  rw [hw]
  show Vv _ _ _ _ _ _ _ _ _ _ _ _ _ _ _ [.int (sxc i j)] (0, 0, g)
  exact v_zret X hlk hrt (sxc_ok i hi j (by omega)).2 (dk D_St_charAt 7 rfl) ⟨rfl, rfl⟩
end
section
/-! Bytes: parts, texts and numbers behind a row -/
theorem p_over {g : mu_T} {b r n k f : Nat} {xs ys : List Int32} {ov : Bool} (hB : RB g b r n xs ov) (h : ov = true ∨ n < xs.length + k) : (none : Option Value) = none ∧ sm g (xI g b 2 1) [b, r] ∧ RB (xI g b 2 1) b r n (if ov = true ∨ n < xs.length + k then xs else xs ++ (ys.drop f).take k) (ov || decide (n < xs.length + k)) := by
  have hne := hB.1.ne
  obtain ⟨h1, h2, h3, h4, h5⟩ := hB
  have z : sm g (xI g b 2 1) [b, r] := (sm.rf g _).xI (by simp)
  refine ⟨rfl, z, ?_⟩
  rw [if_pos h]
  have e : (ov || decide (n < xs.length + k)) = true := by rcases h with h | h <;> simp [h]
  rw [e]
  exact ⟨h1.sm z, h2, (gI_nk (by decide)).trans h3, gI_eq _ _ _ _, fun j hj => (gI_na (Ne.symm hne)).trans (h5 j hj)⟩
theorem p_none {g : mu_T} {b r n k f : Nat} {xs ys : List Int32} {ov : Bool} (hB : RB g b r n xs ov) (h0 : ov = false) (hk : k = 0) (h2 : xs.length ≤ n) : (none : Option Value) = none ∧ sm g g [b, r] ∧ RB g b r n (if ov = true ∨ n < xs.length + k then xs else xs ++ (ys.drop f).take k) (ov || decide (n < xs.length + k)) := by
  subst h0; subst hk
  refine ⟨rfl, sm.rf _ _, ?_⟩
  simpa [Nat.not_lt.mpr h2] using hB
theorem p_some {g : mu_T} {b r n b2 r2 n2 k f : Nat} {xs ys : List Int32} {ov ov2 : Bool} (hB : RB g b r n xs ov) (hC : RB g b2 r2 n2 ys ov2) (h0 : ov = false) (hr : xs.length + k ≤ n) (hf : f + k ≤ ys.length) :
    (none : Option Value) = none ∧ sm g (xI (xA g r (va_cpy (gI g r2) (gI g r) f xs.length k)) b 1 (gI (xA g r (va_cpy (gI g r2) (gI g r) f xs.length k)) b 1 + nI k)) [b, r] ∧ RB (xI (xA g r (va_cpy (gI g r2) (gI g r) f xs.length k)) b 1 (gI (xA g r (va_cpy (gI g r2) (gI g r) f xs.length k)) b 1 + nI k)) b r n (if ov = true ∨ n < xs.length + k then xs else xs ++ (ys.drop f).take k) (ov || decide (n < xs.length + k)) := by
  have hne := hB.1.ne
  obtain ⟨h1, h2, h3, h4, h5⟩ := hB
  obtain ⟨i1, i2, i3, i4, i5⟩ := hC
  subst h0
  have z : sm g (xI (xA g r (va_cpy (gI g r2) (gI g r) f xs.length k)) b 1 (gI (xA g r (va_cpy (gI g r2) (gI g r) f xs.length k)) b 1 + nI k)) [b, r] := ((sm.rf g _).xA (by simp)).xI (by simp)
  refine ⟨rfl, z, ?_⟩
  have hnl : ¬ n < xs.length + k := by omega
  have hlen : (xs ++ (ys.drop f).take k).length = xs.length + k := by simp; omega
  rw [if_neg (by simp [hnl])]
  refine ⟨h1.sm z, by rw [hlen]; exact hr, ?_, ?_, fun j hj => ?_⟩
  · refine (gI_eq _ _ _ _).trans ?_
    rw [gI_nA hne, h3, nI_add, hlen]
  · refine (gI_nk (by decide)).trans ((gI_nA hne).trans (h4.trans ?_))
    simp [hnl]
  · rw [hlen] at hj
    refine (gI_na (Ne.symm hne)).trans ((gI_A _ _ _ _).trans ?_)
    simp only [va_cpy]
    by_cases hc : xs.length ≤ j
    · rw [if_pos ⟨hc, hj⟩, i5 _ (by omega)]
      simp only [List.getD_eq_getElem?_getD]
      rw [List.getElem?_append_right hc, List.getElem?_take, if_pos (by omega), List.getElem?_drop]
    · rw [if_neg (fun z => hc z.1), h5 j (by omega)]
      simp only [List.getD_eq_getElem?_getD]
      rw [List.getElem?_append_left (by omega)]
set_option maxHeartbeats 4000000 in
set_option maxRecDepth 100000 in
theorem k_addPart (l : Launch) (q : ev_T) {b r n b2 r2 n2 k f : Nat} {xs ys : List Int32} {ov ov2 : Bool} {g : mu_T} (hB : RB g b r n xs ov) (hC : RB g b2 r2 n2 ys ov2) (hf : f + k ≤ ys.length) (hnn : n < 1073741824) (hn2n : n2 < 1073741824) : Ctr l q M_By_addPart 1 [.ref b, .ref b2, .int (nI f), .int (nI k)] (0, 0, g) (fun v w => v = none ∧ sm g w.2.2 [b, r] ∧ RB w.2.2 b r n (if ov = true ∨ n < xs.length + k then xs else xs ++ (ys.drop f).take k) (ov || decide (n < xs.length + k))) := by
  have hB0 := hB
  have hC0 := hC
  obtain ⟨h1, h2, h3, h4, h5⟩ := hB0
  obtain ⟨hk, ha, hF, hkr, har, hn⟩ := h1
  obtain ⟨hz1, hz2, hz3, hz4, hz5⟩ := hC0
  obtain ⟨hk2, ha2, hF2, hkr2, har2, hn2⟩ := hz1
  have hl1 := hB.lt
  have hl2 := hC.lt
  have hkn : k < 1073741824 := by omega
  refine Ctr.mk (lb := [some (.ref b), some (.ref b2), some (.int (nI f)), some (.int (nI k))]) (by decide +kernel) (Nat.le_of_ble_eq_true rfl) rfl rfl ?_
  intro p e s m args below meth c X hrt hlk hnm
  refine v_aload_n X (dk D_By_addPart 0 rfl) rfl ?_
  refine v_getI X (dk D_By_addPart 1 rfl) F_By_25 rfl hk ha ?_
  refine v_if_ne (tgt := 15) X (dk D_By_addPart 2 rfl) (by decide) (fun c4 => ?_) (fun c4 => ?_)
  · refine v_aload_n X (dk D_By_addPart 7 rfl) rfl ?_
    refine v_iconst (v := 1) X (dk D_By_addPart 8 rfl) (by decide) ?_
    refine v_putI X (dk D_By_addPart 9 rfl) F_By_25 CK_By rfl hk ha rfl rfl ?_
    exact v_vret X hlk hrt (dk D_By_addPart 10 rfl) (p_over hB (by rw [h4] at c4; cases ov; exact absurd rfl c4; exact Or.inl rfl))
  · refine v_aload_n X (dk D_By_addPart 3 rfl) rfl ?_
    refine v_iload_n X (dk D_By_addPart 4 rfl) rfl ?_
    refine v_invV (As := [.int (nI k)]) (st := []) X (k_hasRoom l q (k := k) hB hkn hnn) (dk D_By_addPart 5 rfl) G_By_29 K_By_hasRoom V_By_hasRoom hk rfl ha rfl rfl (Nat.le_of_ble_eq_true rfl) (Nat.le_of_ble_eq_true rfl) (Nat.le_of_ble_eq_true rfl) (Nat.le_of_ble_eq_true rfl) (Nat.le_of_ble_eq_true rfl) ?_
    rintro v w ⟨rfl, hw⟩
    rw [hw]
    show Vv _ _ _ _ _ _ _ _ _ _ _ _ _ _ _ [.int (if xs.length + k ≤ n then 1 else 0)] (0, 0, g)
    refine v_if_ne (tgt := 21) X (dk D_By_addPart 6 rfl) (by decide) (fun c12 => ?_) (fun c12 => ?_)
    · refine v_iload_n X (dk D_By_addPart 11 rfl) rfl ?_
      refine v_if_lt (tgt := 66) X (dk D_By_addPart 12 rfl) (by decide) (fun c22 => absurd c22 (nI_pos (by omega))) (fun _ => ?_)
      refine v_iload_n X (dk D_By_addPart 13 rfl) rfl ?_
      refine v_if_le (tgt := 66) X (dk D_By_addPart 14 rfl) (by decide) (fun c26 => ?_) (fun c26 => ?_)
      · exact v_vret X hlk hrt (dk D_By_addPart 36 rfl) (p_none hB (by cases ov; rfl; rw [h4] at c4; exact absurd c4 (by decide)) (by rcases Nat.eq_zero_or_pos k with z | z; exact z; exact absurd c26 (nI_nle z (by omega))) (by omega))
      · refine v_iload_n X (dk D_By_addPart 15 rfl) rfl ?_
        refine v_aload_n X (dk D_By_addPart 16 rfl) rfl ?_
        refine v_getI X (dk D_By_addPart 17 rfl) F_By_21 rfl hk2 ha2 ?_
        refine v_iload_n X (dk D_By_addPart 18 rfl) rfl ?_
        refine v_isub X (dk D_By_addPart 19 rfl) ?_
        refine v_icmp_gt (tgt := 66) X (dk D_By_addPart 20 rfl) (by decide) (fun c36 => absurd c36 (by rw [hz3, pk_sub (by omega)]; exact nI_nlt (by omega) (by omega))) (fun _ => ?_)
        refine v_aload_n X (dk D_By_addPart 21 rfl) rfl ?_
        refine v_getF X (dk D_By_addPart 22 rfl) F_By_15 rfl hk2 ha2 hF2 ?_
        refine v_iload_n X (dk D_By_addPart 23 rfl) rfl ?_
        refine v_aload_n X (dk D_By_addPart 24 rfl) rfl ?_
        refine v_getF X (dk D_By_addPart 25 rfl) F_By_15 rfl hk ha hF ?_
        refine v_aload_n X (dk D_By_addPart 26 rfl) rfl ?_
        refine v_getI X (dk D_By_addPart 27 rfl) F_By_21 rfl hk ha ?_
        refine v_iload_n X (dk D_By_addPart 28 rfl) rfl ?_
        have hroom : xs.length + k ≤ n := by
          by_cases z : xs.length + k ≤ n
          · exact z
          · rw [if_neg z] at c12; exact absurd rfl c12
        refine v_copy (t := 0) (ty := .int) X (dk D_By_addPart 29 rfl) G_By_33 W_acN W_acS W_sysI hkr2 hkr har2 har (nI_pos (by omega)) (by rw [h3]; exact nI_pos (by omega)) (nI_pos (by omega)) (by rw [nI_clamp (by omega), nI_clamp (by omega)]; omega) (by rw [h3, nI_clamp (by omega), nI_clamp (by omega)]; omega) (Nat.le_of_ble_eq_true rfl) (Nat.le_of_ble_eq_true rfl) (Nat.le_of_ble_eq_true rfl) (by rw [h3, nI_clamp (by omega), nI_clamp (by omega), nI_clamp (by omega)]) ?_
        refine v_aload_n X (dk D_By_addPart 30 rfl) rfl ?_
        refine v_dup X (dk D_By_addPart 31 rfl) rfl ?_
        refine v_getI X (dk D_By_addPart 32 rfl) F_By_21 rfl hk ha ?_
        refine v_iload_n X (dk D_By_addPart 33 rfl) rfl ?_
        refine v_iadd X (dk D_By_addPart 34 rfl) ?_
        refine v_putI X (dk D_By_addPart 35 rfl) F_By_21 CK_By rfl hk ha rfl rfl ?_
        exact v_vret X hlk hrt (dk D_By_addPart 36 rfl) (p_some hB hC (by cases ov; rfl; rw [h4] at c4; exact absurd c4 (by decide)) (by by_cases z : xs.length + k ≤ n; exact z; rw [if_neg z] at c12; exact absurd rfl c12) hf)
    · refine v_aload_n X (dk D_By_addPart 7 rfl) rfl ?_
      refine v_iconst (v := 1) X (dk D_By_addPart 8 rfl) (by decide) ?_
      refine v_putI X (dk D_By_addPart 9 rfl) F_By_25 CK_By rfl hk ha rfl rfl ?_
      exact v_vret X hlk hrt (dk D_By_addPart 10 rfl) (p_over hB (Or.inr (by by_cases z : xs.length + k ≤ n; rw [if_pos z] at c12; exact absurd c12 (by decide); omega)))
theorem tk_all (l : List Int32) : l.take l.length = l := List.take_length
theorem tk_one (l : List Int32) {k : Nat} (h : k < l.length) : l.take (k + 1) = l.take k ++ [l.getD k 0] := by
  rw [List.getD_eq_getElem?_getD, List.getElem?_eq_getElem h, Option.getD_some, List.take_add_one, List.getElem?_eq_getElem h]
  rfl
theorem sxc_b : ∀ i, i < 38 → ∀ j, j < 12 → (sxc i j).toInt8.toInt32 = sxc i j := by decide +kernel
set_option maxHeartbeats 4000000 in
set_option maxRecDepth 100000 in
theorem k_addText (l : Launch) (q : ev_T) {b r n i : Nat} {xs : List Int32} {ov : Bool} {g : mu_T} (hB : RB g b r n xs ov) (hi : i < 38) : Ctr l q M_By_addText 4 [.ref b, .ref (1048640 + i)] (0, 0, g) (fun v w => v = none ∧ sm g w.2.2 [b, r] ∧ RB w.2.2 b r n (adL n (xs, ov) (sx_B.getD i [])).1 (adL n (xs, ov) (sx_B.getD i [])).2) := by
  have hsl := sxl_lt i hi
  refine Ctr.mk (lb := [some (.ref b), some (.ref (1048640 + i)), none]) (by decide +kernel) (Nat.le_of_ble_eq_true rfl) rfl rfl ?_
  intro p e s m args below meth c X hrt hlk hnm
  have loop : ∀ (d k : Nat) (h : mu_T), k + d = sxl i → sm g h [b, r] → RB h b r n (adL n (xs, ov) ((sx_B.getD i []).take k)).1 (adL n (xs, ov) ((sx_B.getD i []).take k)).2 → Vv p l e (rmT 4 0 0) s m args below meth c 3 q (MQ below (Qw q (fun v w => v = none ∧ sm g w.2.2 [b, r] ∧ RB w.2.2 b r n (adL n (xs, ov) (sx_B.getD i [])).1 (adL n (xs, ov) (sx_B.getD i [])).2)) args s 0 0 (fun a => q.1 ≤ a)) 2 [some (.ref b), some (.ref (1048640 + i)), some (.int (nI k))] [] (0, 0, h) := by
    intro d
    induction d with
    | zero =>
      intro k h hkd hs hR
      refine v_iload_n X (dk D_By_addText 2 rfl) rfl ?_
      refine v_aload_n X (dk D_By_addText 3 rfl) rfl ?_
      refine v_invVS (As := []) (st := [.int (nI k)]) X (c_St_length l q (g := h) hi) (dk D_By_addText 4 rfl) (ML.p G_By_39 (by decide +kernel)) K_St_length V_St_length (X.sf.2.2.1 i hi).1 rfl rfl (Nat.le_of_ble_eq_true rfl) (Nat.le_of_ble_eq_true rfl) (Nat.le_of_ble_eq_true rfl) (Nat.le_of_ble_eq_true rfl) (Nat.le_of_ble_eq_true rfl) ?_
      rintro v w ⟨rfl, hw⟩
      rw [hw]
      show Vv _ _ _ _ _ _ _ _ _ _ _ _ _ _ _ [.int (nI (sxl i)), .int (nI k)] (0, 0, h)
      refine v_icmp_ge (tgt := 25) X (dk D_By_addText 5 rfl) (by decide) (fun _ => ?_) (fun c7 => absurd (nI_le (by omega) (by omega)) c7)
      exact v_vret X hlk hrt (dk D_By_addText 13 rfl) ⟨rfl, hs, by rw [← tk_all (sx_B.getD i [])]; rw [show (sx_B.getD i []).length = k from by show sxl i = k; omega]; exact hR⟩
    | succ d ih =>
      intro k h hkd hs hR
      refine v_iload_n X (dk D_By_addText 2 rfl) rfl ?_
      refine v_aload_n X (dk D_By_addText 3 rfl) rfl ?_
      refine v_invVS (As := []) (st := [.int (nI k)]) X (c_St_length l q (g := h) hi) (dk D_By_addText 4 rfl) (ML.p G_By_39 (by decide +kernel)) K_St_length V_St_length (X.sf.2.2.1 i hi).1 rfl rfl (Nat.le_of_ble_eq_true rfl) (Nat.le_of_ble_eq_true rfl) (Nat.le_of_ble_eq_true rfl) (Nat.le_of_ble_eq_true rfl) (Nat.le_of_ble_eq_true rfl) ?_
      rintro v w ⟨rfl, hw⟩
      rw [hw]
      show Vv _ _ _ _ _ _ _ _ _ _ _ _ _ _ _ [.int (nI (sxl i)), .int (nI k)] (0, 0, h)
      refine v_icmp_ge (tgt := 25) X (dk D_By_addText 5 rfl) (by decide) (fun c7 => absurd c7 (nI_ge (by omega) (by omega))) (fun _ => ?_)
      refine v_aload_n X (dk D_By_addText 6 rfl) rfl ?_
      refine v_aload_n X (dk D_By_addText 7 rfl) rfl ?_
      refine v_iload_n X (dk D_By_addText 8 rfl) rfl ?_
      refine v_invVS (As := [.int (nI k)]) (st := [.ref b]) X (c_St_charAt l q (g := h) hi (by omega)) (dk D_By_addText 9 rfl) (ML.p G_By_45 (by decide +kernel)) K_St_charAt V_St_charAt (X.sf.2.2.1 i hi).1 rfl rfl (Nat.le_of_ble_eq_true rfl) (Nat.le_of_ble_eq_true rfl) (Nat.le_of_ble_eq_true rfl) (Nat.le_of_ble_eq_true rfl) (Nat.le_of_ble_eq_true rfl) ?_
      rintro v w ⟨rfl, hw⟩
      rw [hw]
      show Vv _ _ _ _ _ _ _ _ _ _ _ _ _ _ _ [.int (sxc i k), .ref b] (0, 0, h)
      refine v_invV (As := [.int (sxc i k)]) (st := []) X (k_add l q (x := sxc i k) hR) (dk D_By_addText 10 rfl) G_By_49 K_By_add V_By_add hR.1.1 rfl hR.1.2.1 rfl rfl (Nat.le_of_ble_eq_true rfl) (Nat.le_of_ble_eq_true rfl) (Nat.le_of_ble_eq_true rfl) (Nat.le_of_ble_eq_true rfl) (Nat.le_of_ble_eq_true rfl) ?_
      rintro v w ⟨rfl, hw1, hw2⟩
      show Vv _ _ _ _ _ _ _ _ _ _ _ _ _ _ _ [] (0, 0, w.2.2)
      refine v_iinc (v := nI (k + 1)) (lb := [some (.ref b), some (.ref (1048640 + i)), some (.int (nI (k + 1)))]) X (dk D_By_addText 11 rfl) rfl (nI_1 k) (by decide) rfl ?_
      refine v_goto (tgt := 2) X (dk D_By_addText 12 rfl) (by decide) ?_
      exact ih (k + 1) _ (by omega) (hs.tr hw1 (fun _ z => z) (fun _ z => z)) (by rw [tk_one _ (show k < (sx_B.getD i []).length by show k < sxl i; omega), adL_app]; have e : (sxc i k).toInt8.toInt32 = sxc i k := sxc_b i hi k (by omega); rw [e] at hw2; exact hw2)
  refine v_iconst (v := 0) X (dk D_By_addText 0 rfl) (by decide) ?_
  refine v_istore_n (lb := [some (.ref b), some (.ref (1048640 + i)), some (.int 0)]) X (dk D_By_addText 1 rfl) (by decide) rfl ?_
  exact loop (sxl i) 0 g (by omega) (sm.rf g _) hB
end
section
/-! numbers as bytes -/
def kOf (a : Nat) : Nat := (if a < 10 then 0 else (if a < 100 then 1 else (if a < 1000 then 2 else (if a < 10000 then 3 else (if a < 100000 then 4 else (if a < 1000000 then 5 else (if a < 10000000 then 6 else (if a < 100000000 then 7 else (if a < 1000000000 then 8 else 9)))))))))
theorem kOf_eq {a k : Nat} (hk : k ≤ 9) (h1 : k = 0 ∨ 10 ^ k ≤ a) (h2 : a < 10 ^ (k + 1)) : kOf a = k := by
  rcases (show k = 0 ∨ k = 1 ∨ k = 2 ∨ k = 3 ∨ k = 4 ∨ k = 5 ∨ k = 6 ∨ k = 7 ∨ k = 8 ∨ k = 9 by omega) with rfl | rfl | rfl | rfl | rfl | rfl | rfl | rfl | rfl | rfl
  · simp only [kOf]; rw [if_pos (by omega)]
  · simp only [kOf]; rw [if_neg (by omega), if_pos (by omega)]
  · simp only [kOf]; rw [if_neg (by omega), if_neg (by omega), if_pos (by omega)]
  · simp only [kOf]; rw [if_neg (by omega), if_neg (by omega), if_neg (by omega), if_pos (by omega)]
  · simp only [kOf]; rw [if_neg (by omega), if_neg (by omega), if_neg (by omega), if_neg (by omega), if_pos (by omega)]
  · simp only [kOf]; rw [if_neg (by omega), if_neg (by omega), if_neg (by omega), if_neg (by omega), if_neg (by omega), if_pos (by omega)]
  · simp only [kOf]; rw [if_neg (by omega), if_neg (by omega), if_neg (by omega), if_neg (by omega), if_neg (by omega), if_neg (by omega), if_pos (by omega)]
  · simp only [kOf]; rw [if_neg (by omega), if_neg (by omega), if_neg (by omega), if_neg (by omega), if_neg (by omega), if_neg (by omega), if_neg (by omega), if_pos (by omega)]
  · simp only [kOf]; rw [if_neg (by omega), if_neg (by omega), if_neg (by omega), if_neg (by omega), if_neg (by omega), if_neg (by omega), if_neg (by omega), if_neg (by omega), if_pos (by omega)]
  · simp only [kOf]; rw [if_neg (by omega), if_neg (by omega), if_neg (by omega), if_neg (by omega), if_neg (by omega), if_neg (by omega), if_neg (by omega), if_neg (by omega), if_neg (by omega)]
def dg (a j : Nat) : Int32 := nI (48 + a / 10 ^ j % 10)
def dgL (a : Nat) : Nat → List Int32
  | 0 => []
  | j + 1 => dg a j :: dgL a j
def unJ (j : Nat) : Nat := match j with
  | 0 => 0
  | j + 1 => 10 ^ j
theorem unJ_div (j : Nat) : unJ (j + 1) / 10 = unJ j := by
  cases j with
  | zero => rfl
  | succ j => show 10 ^ (j + 1) / 10 = 10 ^ j; rw [Nat.pow_succ]; omega
theorem unJ_lt {j : Nat} (h : j ≤ 10) : unJ j < 10000000000 := by
  cases j with
  | zero => decide
  | succ j => exact Nat.lt_of_le_of_lt (Nat.pow_le_pow_right (by decide) (show j ≤ 9 by omega)) (by decide)
/-- a number as it is written -/
def decN (a : Nat) : List Int32 := dgL a (kOf a + 1)
def decB (x : Int32) : List Int32 := if x < 0 then 45 :: decN x.toInt.natAbs else decN x.toInt.natAbs
theorem dg_b (a j : Nat) : (dg a j).toInt8.toInt32 = dg a j := by
  have h : a / 10 ^ j % 10 < 10 := Nat.mod_lt _ (by decide)
  simp only [dg]
  generalize a / 10 ^ j % 10 = m at h
  rcases (show m = 0 ∨ m = 1 ∨ m = 2 ∨ m = 3 ∨ m = 4 ∨ m = 5 ∨ m = 6 ∨ m = 7 ∨ m = 8 ∨ m = 9 by omega) with rfl | rfl | rfl | rfl | rfl | rfl | rfl | rfl | rfl | rfl <;> decide +kernel
theorem i2l_abs {x : Int32} (h : ¬ x < 0) : x.toInt64 = lN x.toInt.natAbs := by
  obtain ⟨j, hj, rfl⟩ := nI_of h
  rw [nI_l hj, nI_toInt hj, Int.natAbs_natCast]
theorem i2l_neg {x : Int32} (h : x < 0) : -x.toInt64 = lN x.toInt.natAbs := by
  apply Int64.toInt_inj.mp
  have hx : x.toInt < 0 := by simpa using Int32.lt_iff_toInt_lt.mp h
  have hr := Int32.le_toInt x
  have h1 : x.toInt.natAbs < 2 ^ 63 := by omega
  rw [pk_lT h1, Int64.toInt_neg, Int32.toInt_toInt64]
  rw [Int.bmod_eq_of_le] <;> omega
theorem i2l_lt {x : Int32} : x.toInt64 < 0 ↔ x < 0 := by
  rw [Int64.lt_iff_toInt_lt, Int32.lt_iff_toInt_lt, Int32.toInt_toInt64]
  simp
theorem abs_lt (x : Int32) : x.toInt.natAbs < 10000000000 := by
  have h1 := Int32.le_toInt x
  have h2 := Int32.toInt_lt x
  omega
set_option maxHeartbeats 4000000 in
set_option maxRecDepth 100000 in
theorem k_addNumber (l : Launch) (q : ev_T) {b r n : Nat} {x : Int32} {xs : List Int32} {ov : Bool} {g : mu_T} (hB : RB g b r n xs ov) : Ctr l q M_By_addNumber 1 [.ref b, .int x] (0, 0, g) (fun v w => v = none ∧ sm g w.2.2 [b, r] ∧ RB w.2.2 b r n (adL n (xs, ov) (decB x)).1 (adL n (xs, ov) (decB x)).2) := by
  obtain ⟨a, haa⟩ : ∃ a, a = x.toInt.natAbs := ⟨_, rfl⟩
  have hal : a < 10000000000 := by rw [haa]; exact abs_lt x
  have p10 : ∀ k, k ≤ 10 → 10 ^ k ≤ 10000000000 := fun k hk => Nat.le_trans (Nat.pow_le_pow_right (by decide) hk) (by decide)
  refine Ctr.mk (lb := [some (.ref b), some (.int x), none, none, none, none, none]) (by decide +kernel) (Nat.le_of_ble_eq_true rfl) rfl rfl ?_
  intro p e s m args below meth c X hrt hlk hnm
  have lp2 : ∀ (j : Nat), j ≤ 10 → ∀ (h : mu_T) (ys : List Int32) (oy : Bool), sm g h [b, r] → RB h b r n ys oy → adL n (ys, oy) (dgL a j) = adL n (xs, ov) (decB x) → Vv p l e (rmT 1 0 0) s m args below meth c 7 q (MQ below (Qw q (fun v w => v = none ∧ sm g w.2.2 [b, r] ∧ RB w.2.2 b r n (adL n (xs, ov) (decB x)).1 (adL n (xs, ov) (decB x)).2)) args s 0 0 (fun a => q.1 ≤ a)) 56 [some (.ref b), some (.int x), some (.long (lN a)), none, some (.long (lN (unJ j))), none, none] [] (0, 0, h) := by
    intro j
    induction j with
    | zero =>
      intro hj10 h ys oy hs hR hf
      refine v_lload X (dk D_By_addNumber 32 rfl) rfl ?_
      refine v_lconst (v := 0) X (dk D_By_addNumber 33 rfl) (by decide) ?_
      refine v_lcmp X (dk D_By_addNumber 34 rfl) ?_
      refine v_if_le (tgt := 90) X (dk D_By_addNumber 35 rfl) (by decide) (fun _ => ?_) (fun c60 => absurd (by rw [lg_cmp_le]; exact Int64.le_refl _) c60)
      exact v_vret X hlk hrt (dk D_By_addNumber 51 rfl) ⟨rfl, hs, by rw [← hf]; exact hR⟩
    | succ j ih0 =>
      intro hj10 h ys oy hs hR hf
      have ih := ih0 (by omega)
      have hul := unJ_lt hj10
      have hup : 0 < unJ (j + 1) := Nat.pow_pos (by decide)
      refine v_lload X (dk D_By_addNumber 32 rfl) rfl ?_
      refine v_lconst (v := 0) X (dk D_By_addNumber 33 rfl) (by decide) ?_
      refine v_lcmp X (dk D_By_addNumber 34 rfl) ?_
      refine v_if_le (tgt := 90) X (dk D_By_addNumber 35 rfl) (by decide) (fun c60 => absurd c60 (by rw [lg_cmp_le, show (0 : Int64) = lN 0 from rfl, pk_lLE (by omega) (by decide)]; have := hup; omega)) (fun _ => ?_)
      refine v_aload_n X (dk D_By_addNumber 36 rfl) rfl ?_
      refine v_bipush (v := 48) X (dk D_By_addNumber 37 rfl) (by decide) ?_
      refine v_lload_n X (dk D_By_addNumber 38 rfl) rfl ?_
      refine v_lload X (dk D_By_addNumber 39 rfl) rfl ?_
      refine v_ldiv X (dk D_By_addNumber 40 rfl) (by intro z; have z2 := congrArg Int64.toInt z; rw [pk_lT (by omega)] at z2; have z3 : ((unJ (j + 1) : Nat) : Int) = 0 := z2; omega) ?_
      refine v_ldc2 X (dk D_By_addNumber 41 rfl) C_By_53 ?_
      refine v_lrem X (dk D_By_addNumber 42 rfl) (by decide) ?_
      refine v_l2i X (dk D_By_addNumber 43 rfl) rfl ?_
      refine v_iadd X (dk D_By_addNumber 44 rfl) ?_
      rw [show (48 : Int32) + (lN a / lN (unJ (j + 1)) - lN a / lN (unJ (j + 1)) / 10 * 10).toInt32 = dg a j from by rw [pk_lDiv (by omega) hup (by omega), show (10 : Int64) = lN 10 from rfl, pk_lRem (by have := Nat.div_le_self a (unJ (j + 1)); omega) (by decide) (by decide), lN_i, show (48 : Int32) = nI 48 from rfl, nI_add]; rfl]
      refine v_invV (As := [.int (dg a j)]) (st := []) X (k_add l q (x := (dg a j)) hR) (dk D_By_addNumber 45 rfl) G_By_49 K_By_add V_By_add hR.1.1 rfl hR.1.2.1 rfl rfl (Nat.le_of_ble_eq_true rfl) (Nat.le_of_ble_eq_true rfl) (Nat.le_of_ble_eq_true rfl) (Nat.le_of_ble_eq_true rfl) (Nat.le_of_ble_eq_true rfl) ?_
      rintro v w ⟨rfl, hw1, hw2⟩
      show Vv _ _ _ _ _ _ _ _ _ _ _ _ _ _ _ [] (0, 0, w.2.2)
      refine v_lload X (dk D_By_addNumber 46 rfl) rfl ?_
      refine v_ldc2 X (dk D_By_addNumber 47 rfl) C_By_53 ?_
      refine v_ldiv X (dk D_By_addNumber 48 rfl) (by decide) ?_
      rw [show lN (unJ (j + 1)) / 10 = lN (unJ j) from by rw [show (10 : Int64) = lN 10 from rfl, pk_lDiv (by omega) (by decide) (by decide), unJ_div]]
      refine v_lstore (lb := [some (.ref b), some (.int x), some (.long (lN a)), none, some (.long (lN (unJ j))), none, none]) X (dk D_By_addNumber 49 rfl) (by decide) rfl ?_
      refine v_goto (tgt := 56) X (dk D_By_addNumber 50 rfl) (by decide) ?_
      exact ih _ _ _ (hs.tr hw1 (fun _ z => z) (fun _ z => z)) hw2 (by rw [dg_b]; exact hf)
  have lp1 : ∀ (h : mu_T) (ys : List Int32) (oy : Bool), sm g h [b, r] → RB h b r n ys oy → adL n (ys, oy) (decN a) = adL n (xs, ov) (decB x) → ∀ (d k : Nat), k + d = 9 → (k = 0 ∨ 10 ^ k ≤ a) → Vv p l e (rmT 1 0 0) s m args below meth c 7 q (MQ below (Qw q (fun v w => v = none ∧ sm g w.2.2 [b, r] ∧ RB w.2.2 b r n (adL n (xs, ov) (decB x)).1 (adL n (xs, ov) (decB x)).2)) args s 0 0 (fun a => q.1 ≤ a)) 24 [some (.ref b), some (.int x), some (.long (lN a)), none, some (.long (lN (10 ^ k))), none, some (.int (nI k))] [] (0, 0, h) := by
    intro h ys oy hs hR hf0 d
    induction d with
    | zero =>
      intro k hkd hk0
      refine v_iload X (dk D_By_addNumber 17 rfl) rfl ?_
      refine v_bipush (v := 9) X (dk D_By_addNumber 18 rfl) (by decide) ?_
      refine v_icmp_ge (tgt := 56) X (dk D_By_addNumber 19 rfl) (by decide) (fun _ => ?_) (fun c28 => absurd (by rw [show k = 9 by omega]; decide) c28)
      exact v_weak (la := [some (.ref b), some (.int x), some (.long (lN a)), none, some (.long (lN (unJ (k + 1)))), none, none]) ⟨rfl, rfl, rfl, rfl, trivial⟩ (lp2 (k + 1) (by omega) h ys oy hs hR (by rw [← hf0]; show _ = adL n (ys, oy) (dgL a (kOf a + 1)); rw [kOf_eq (by omega) hk0 (by rw [show k = 9 by omega]; exact hal)]))
    | succ d ih =>
      intro k hkd hk0
      refine v_iload X (dk D_By_addNumber 17 rfl) rfl ?_
      refine v_bipush (v := 9) X (dk D_By_addNumber 18 rfl) (by decide) ?_
      refine v_icmp_ge (tgt := 56) X (dk D_By_addNumber 19 rfl) (by decide) (fun c28 => absurd c28 (nI_ge (b := 9) (by omega) (by decide))) (fun _ => ?_)
      refine v_lload X (dk D_By_addNumber 20 rfl) rfl ?_
      refine v_ldc2 X (dk D_By_addNumber 21 rfl) C_By_53 ?_
      refine v_lmul X (dk D_By_addNumber 22 rfl) ?_
      rw [show lN (10 ^ k) * 10 = lN (10 ^ (k + 1)) from by rw [show (10 : Int64) = lN 10 from rfl, lN_mul, ← Nat.pow_succ]]
      refine v_lload_n X (dk D_By_addNumber 23 rfl) rfl ?_
      refine v_lcmp X (dk D_By_addNumber 24 rfl) ?_
      refine v_if_gt (tgt := 56) X (dk D_By_addNumber 25 rfl) (by decide) (fun c39 => ?_) (fun c39 => ?_)
      · exact v_weak (la := [some (.ref b), some (.int x), some (.long (lN a)), none, some (.long (lN (unJ (k + 1)))), none, none]) ⟨rfl, rfl, rfl, rfl, trivial⟩ (lp2 (k + 1) (by omega) h ys oy hs hR (by rw [← hf0]; show _ = adL n (ys, oy) (dgL a (kOf a + 1)); rw [kOf_eq (by omega) hk0 (by rw [lg_cmp_gt, pk_lLT (by omega) (by have := p10 (k + 1) (by omega); omega)] at c39; exact c39)]))
      · refine v_lload X (dk D_By_addNumber 26 rfl) rfl ?_
        refine v_ldc2 X (dk D_By_addNumber 27 rfl) C_By_53 ?_
        refine v_lmul X (dk D_By_addNumber 28 rfl) ?_
        rw [show lN (10 ^ k) * 10 = lN (10 ^ (k + 1)) from by rw [show (10 : Int64) = lN 10 from rfl, lN_mul, ← Nat.pow_succ]]
        refine v_lstore (lb := [some (.ref b), some (.int x), some (.long (lN a)), none, some (.long (lN (10 ^ (k + 1)))), none, some (.int (nI k))]) X (dk D_By_addNumber 29 rfl) (by decide) rfl ?_
        refine v_iinc (v := nI (k + 1)) (lb := [some (.ref b), some (.int x), some (.long (lN a)), none, some (.long (lN (10 ^ (k + 1)))), none, some (.int (nI (k + 1)))]) X (dk D_By_addNumber 30 rfl) rfl (nI_1 k) (by decide) rfl ?_
        refine v_goto (tgt := 24) X (dk D_By_addNumber 31 rfl) (by decide) ?_
        exact ih (k + 1) (by omega) (Or.inr (by rw [lg_cmp_gt, pk_lLT (by omega) (by have := p10 (k + 1) (by omega); omega)] at c39; omega))
  have mid : ∀ (h : mu_T) (ys : List Int32) (oy : Bool), sm g h [b, r] → RB h b r n ys oy → adL n (ys, oy) (decN a) = adL n (xs, ov) (decB x) → Vv p l e (rmT 1 0 0) s m args below meth c 7 q (MQ below (Qw q (fun v w => v = none ∧ sm g w.2.2 [b, r] ∧ RB w.2.2 b r n (adL n (xs, ov) (decB x)).1 (adL n (xs, ov) (decB x)).2)) args s 0 0 (fun a => q.1 ≤ a)) 18 [some (.ref b), some (.int x), some (.long (lN a)), none, none, none, none] [] (0, 0, h) := by
    intro h ys oy hs hR hf0
    refine v_lconst (v := lN (10 ^ 0)) X (dk D_By_addNumber 13 rfl) (by decide) ?_
    refine v_lstore (lb := [some (.ref b), some (.int x), some (.long (lN a)), none, some (.long (lN (10 ^ 0))), none, none]) X (dk D_By_addNumber 14 rfl) (by decide) rfl ?_
    refine v_iconst (v := nI 0) X (dk D_By_addNumber 15 rfl) (by decide) ?_
    refine v_istore (lb := [some (.ref b), some (.int x), some (.long (lN a)), none, some (.long (lN (10 ^ 0))), none, some (.int (nI 0))]) X (dk D_By_addNumber 16 rfl) (by decide) rfl ?_
    exact lp1 h ys oy hs hR hf0 9 0 rfl (Or.inl rfl)
  refine v_iload_n X (dk D_By_addNumber 0 rfl) rfl ?_
  refine v_i2l X (dk D_By_addNumber 1 rfl) rfl ?_
  refine v_lstore_n (lb := [some (.ref b), some (.int x), some (.long x.toInt64), none, none, none, none]) X (dk D_By_addNumber 2 rfl) (by decide) rfl ?_
  refine v_lload_n X (dk D_By_addNumber 3 rfl) rfl ?_
  refine v_lconst (v := 0) X (dk D_By_addNumber 4 rfl) (by decide) ?_
  refine v_lcmp X (dk D_By_addNumber 5 rfl) ?_
  refine v_if_ge (tgt := 18) X (dk D_By_addNumber 6 rfl) (by decide) (fun c6 => ?_) (fun c6 => ?_)
  · have hx0 : ¬ x < 0 := fun z => by rw [lg_cmp_ge] at c6; exact absurd (i2l_lt.mpr z) (Int64.not_lt.mpr c6)
    rw [i2l_abs hx0, ← haa]
    exact mid g xs ov (sm.rf g _) hB (by rw [decB, if_neg hx0, ← haa])
  · refine v_aload_n X (dk D_By_addNumber 7 rfl) rfl ?_
    refine v_bipush (v := 45) X (dk D_By_addNumber 8 rfl) (by decide) ?_
    refine v_invV (As := [.int 45]) (st := []) X (k_add l q (x := 45) hB) (dk D_By_addNumber 9 rfl) G_By_49 K_By_add V_By_add hB.1.1 rfl hB.1.2.1 rfl rfl (Nat.le_of_ble_eq_true rfl) (Nat.le_of_ble_eq_true rfl) (Nat.le_of_ble_eq_true rfl) (Nat.le_of_ble_eq_true rfl) (Nat.le_of_ble_eq_true rfl) ?_
    rintro v w ⟨rfl, hw1, hw2⟩
    show Vv _ _ _ _ _ _ _ _ _ _ _ _ _ _ _ [] (0, 0, w.2.2)
    refine v_lload_n X (dk D_By_addNumber 10 rfl) rfl ?_
    refine v_lneg X (dk D_By_addNumber 11 rfl) ?_
    refine v_lstore_n (lb := [some (.ref b), some (.int x), some (.long (-x.toInt64)), none, none, none, none]) X (dk D_By_addNumber 12 rfl) (by decide) rfl ?_
    have hx0 : x < 0 := by rw [lg_cmp_ge] at c6; exact i2l_lt.mp (Int64.not_le.mp c6)
    rw [i2l_neg hx0, ← haa]
    exact mid _ _ _ hw1 hw2 (by rw [decB, if_pos hx0, ← haa]; rfl)
end
section
/-! Chain and Cells: the rows of the small methods -/
/-- the kinds of a Cells object c: bytes in rb, links in rn, N places -/
def isC (g : mu_T) (c rb rn N : Nat) : Prop := kdT c = .inl 3 ∧ c < gN g ∧ gF g c 0 = some rb ∧ gF g c 1 = some rn ∧ kdT rb = .inr (1, N) ∧ rb < gN g ∧ kdT rn = .inr (0, N) ∧ rn < gN g ∧ N < 1073741824
theorem isC.sm {g h : mu_T} {S : List Nat} {c rb rn N : Nat} (i : isC g c rb rn N) (z : sm g h S) : isC h c rb rn N := by
  obtain ⟨h1, h2, h3, h4, h5, h6, h7, h8, h9⟩ := i
  exact ⟨h1, by rw [z.N]; exact h2, by rw [z.F]; exact h3, by rw [z.F]; exact h4, h5, by rw [z.N]; exact h6, h7, by rw [z.N]; exact h8, h9⟩
def isH (g : mu_T) (h : Nat) : Prop := kdT h = .inl 4 ∧ h < gN g
theorem isH.sm {g k : mu_T} {S : List Nat} {h : Nat} (i : isH g h) (z : sm g k S) : isH k h := ⟨i.1, by rw [z.N]; exact i.2⟩
set_option maxHeartbeats 4000000 in
set_option maxRecDepth 100000 in
theorem c_Ch_loosen (l : Launch) (q : ev_T) {h : Nat} {g : mu_T} (hH : isH g h) : Ctr l q M_Ch_loosen 0 [.ref h] (0, 0, g) (fun v w => v = none ∧ w.2.2 = xI (xI (xI g h 0 (-1)) h 1 (-1)) h 2 0) := by
  obtain ⟨hkh, hah⟩ := hH
  refine Ctr.mk (lb := [some (.ref h)]) (by decide +kernel) (Nat.le_of_ble_eq_true rfl) rfl rfl ?_
  intro p e s m args below meth c X hrt hlk hnm
  refine v_aload_n X (dk D_Ch_loosen 0 rfl) rfl ?_
  refine v_iconst (v := -1) X (dk D_Ch_loosen 1 rfl) (by decide) ?_
  refine v_putI X (dk D_Ch_loosen 2 rfl) F_Ch_7 CK_Ch rfl hkh hah rfl rfl ?_
  refine v_aload_n X (dk D_Ch_loosen 3 rfl) rfl ?_
  refine v_iconst (v := -1) X (dk D_Ch_loosen 4 rfl) (by decide) ?_
  refine v_putI X (dk D_Ch_loosen 5 rfl) F_Ch_13 CK_Ch rfl hkh hah rfl rfl ?_
  refine v_aload_n X (dk D_Ch_loosen 6 rfl) rfl ?_
  refine v_iconst (v := 0) X (dk D_Ch_loosen 7 rfl) (by decide) ?_
  refine v_putI X (dk D_Ch_loosen 8 rfl) F_Ch_16 CK_Ch rfl hkh hah rfl rfl ?_
  exact v_vret X hlk hrt (dk D_Ch_loosen 9 rfl) ⟨rfl, rfl⟩
set_option maxHeartbeats 4000000 in
set_option maxRecDepth 100000 in
theorem c_Ce_forget (l : Launch) (q : ev_T) {c rb rn N : Nat} {g : mu_T} (hC : isC g c rb rn N) : Ctr l q M_Ce_forget 0 [.ref c] (0, 0, g) (fun v w => v = none ∧ w.2.2 = xI (xI (xI g c 2 0) c 3 (-1)) c 4 0) := by
  obtain ⟨hkc, hac, hFb, hFn, hkb, hab, hkn, han, hN⟩ := hC
  refine Ctr.mk (lb := [some (.ref c)]) (by decide +kernel) (Nat.le_of_ble_eq_true rfl) rfl rfl ?_
  intro p e s m args below meth c X hrt hlk hnm
  refine v_aload_n X (dk D_Ce_forget 0 rfl) rfl ?_
  refine v_iconst (v := 0) X (dk D_Ce_forget 1 rfl) (by decide) ?_
  refine v_putI X (dk D_Ce_forget 2 rfl) F_Ce_27 CK_Ce rfl hkc hac rfl rfl ?_
  refine v_aload_n X (dk D_Ce_forget 3 rfl) rfl ?_
  refine v_iconst (v := -1) X (dk D_Ce_forget 4 rfl) (by decide) ?_
  refine v_putI X (dk D_Ce_forget 5 rfl) F_Ce_7 CK_Ce rfl hkc hac rfl rfl ?_
  refine v_aload_n X (dk D_Ce_forget 6 rfl) rfl ?_
  refine v_iconst (v := 0) X (dk D_Ce_forget 7 rfl) (by decide) ?_
  refine v_putI X (dk D_Ce_forget 8 rfl) F_Ce_30 CK_Ce rfl hkc hac rfl rfl ?_
  exact v_vret X hlk hrt (dk D_Ce_forget 9 rfl) ⟨rfl, rfl⟩
set_option maxHeartbeats 4000000 in
set_option maxRecDepth 100000 in
theorem c_Ce_isCell (l : Launch) (q : ev_T) {c rb rn N : Nat} {i : Int32} {g : mu_T} (hC : isC g c rb rn N) : Ctr l q M_Ce_isCell 0 [.ref c, .int i] (0, 0, g) (fun v w => v = some (.int (if ¬ i < 0 ∧ ¬ nI N ≤ i then 1 else 0)) ∧ w.2.2 = g) := by
  obtain ⟨hkc, hac, hFb, hFn, hkb, hab, hkn, han, hN⟩ := hC
  refine Ctr.mk (lb := [some (.ref c), some (.int i)]) (by decide +kernel) (Nat.le_of_ble_eq_true rfl) rfl rfl ?_
  intro p e s m args below meth c X hrt hlk hnm
  refine v_iload_n X (dk D_Ce_isCell 0 rfl) rfl ?_
  refine v_if_lt (tgt := 26) X (dk D_Ce_isCell 1 rfl) (by decide) (fun c1 => ?_) (fun c1 => ?_)
  · refine v_iconst (v := 0) X (dk D_Ce_isCell 14 rfl) (by decide) ?_
    exact v_zret X hlk hrt rfl (dk D_Ce_isCell 15 rfl) ⟨by rw [if_neg (fun z => z.1 c1)], rfl⟩
  · refine v_iload_n X (dk D_Ce_isCell 2 rfl) rfl ?_
    refine v_aload_n X (dk D_Ce_isCell 3 rfl) rfl ?_
    refine v_getF X (dk D_Ce_isCell 4 rfl) F_Ce_19 rfl hkc hac hFb ?_
    refine v_alen (v := nI _) X (dk D_Ce_isCell 5 rfl) hkb rfl hab rfl ?_
    refine v_icmp_ge (tgt := 26) X (dk D_Ce_isCell 6 rfl) (by decide) (fun c10 => ?_) (fun c10 => ?_)
    · refine v_iconst (v := 0) X (dk D_Ce_isCell 14 rfl) (by decide) ?_
      exact v_zret X hlk hrt rfl (dk D_Ce_isCell 15 rfl) ⟨by rw [if_neg (fun z => z.2 c10)], rfl⟩
    · refine v_iload_n X (dk D_Ce_isCell 7 rfl) rfl ?_
      refine v_aload_n X (dk D_Ce_isCell 8 rfl) rfl ?_
      refine v_getF X (dk D_Ce_isCell 9 rfl) F_Ce_23 rfl hkc hac hFn ?_
      refine v_alen (v := nI _) X (dk D_Ce_isCell 10 rfl) hkn rfl han rfl ?_
      refine v_icmp_ge (tgt := 26) X (dk D_Ce_isCell 11 rfl) (by decide) (fun c19 => ?_) (fun c19 => ?_)
      · refine v_iconst (v := 0) X (dk D_Ce_isCell 14 rfl) (by decide) ?_
        exact v_zret X hlk hrt rfl (dk D_Ce_isCell 15 rfl) ⟨by rw [if_neg (fun z => z.2 c19)], rfl⟩
      · refine v_iconst (v := 1) X (dk D_Ce_isCell 12 rfl) (by decide) ?_
        refine v_goto (tgt := 27) X (dk D_Ce_isCell 13 rfl) (by decide) ?_
        exact v_zret X hlk hrt rfl (dk D_Ce_isCell 15 rfl) ⟨by rw [if_pos ⟨c1, c10⟩], rfl⟩
set_option maxHeartbeats 4000000 in
set_option maxRecDepth 100000 in
theorem c_Ce_at (l : Launch) (q : ev_T) {c rb rn N : Nat} {i : Int32} {g : mu_T} (hC : isC g c rb rn N) : Ctr l q M_Ce_at 0 [.ref c, .int i] (0, 0, g) (fun v w => v = some (.int (if ¬ i < 0 ∧ ¬ nI N ≤ i then gI g rb i.toNatClampNeg &&& 255 else -1)) ∧ w.2.2 = g) := by
  obtain ⟨hkc, hac, hFb, hFn, hkb, hab, hkn, han, hN⟩ := hC
  refine Ctr.mk (lb := [some (.ref c), some (.int i)]) (by decide +kernel) (Nat.le_of_ble_eq_true rfl) rfl rfl ?_
  intro p e s m args below meth c X hrt hlk hnm
  refine v_iload_n X (dk D_Ce_at 0 rfl) rfl ?_
  refine v_if_lt (tgt := 26) X (dk D_Ce_at 1 rfl) (by decide) (fun c1 => ?_) (fun c1 => ?_)
  · refine v_iconst (v := -1) X (dk D_Ce_at 14 rfl) (by decide) ?_
    exact v_iret X hlk hrt (dk D_Ce_at 15 rfl) ⟨by rw [if_neg (fun z => z.1 c1)], rfl⟩
  · refine v_iload_n X (dk D_Ce_at 2 rfl) rfl ?_
    refine v_aload_n X (dk D_Ce_at 3 rfl) rfl ?_
    refine v_getF X (dk D_Ce_at 4 rfl) F_Ce_19 rfl hkc hac hFb ?_
    refine v_alen (v := nI _) X (dk D_Ce_at 5 rfl) hkb rfl hab rfl ?_
    refine v_icmp_ge (tgt := 26) X (dk D_Ce_at 6 rfl) (by decide) (fun c10 => ?_) (fun c10 => ?_)
    · refine v_iconst (v := -1) X (dk D_Ce_at 14 rfl) (by decide) ?_
      exact v_iret X hlk hrt (dk D_Ce_at 15 rfl) ⟨by rw [if_neg (fun z => z.2 c10)], rfl⟩
    · refine v_aload_n X (dk D_Ce_at 7 rfl) rfl ?_
      refine v_getF X (dk D_Ce_at 8 rfl) F_Ce_19 rfl hkc hac hFb ?_
      refine v_iload_n X (dk D_Ce_at 9 rfl) rfl ?_
      refine v_bald X (dk D_Ce_at 10 rfl) hkb hab (in_of (by omega) c1 c10) ?_
      refine v_sipush (v := 255) X (dk D_Ce_at 11 rfl) (by decide) ?_
      refine v_iand X (dk D_Ce_at 12 rfl) ?_
      refine v_goto (tgt := 27) X (dk D_Ce_at 13 rfl) (by decide) ?_
      exact v_iret X hlk hrt (dk D_Ce_at 15 rfl) ⟨by rw [if_pos ⟨c1, c10⟩], rfl⟩
set_option maxHeartbeats 4000000 in
set_option maxRecDepth 100000 in
theorem c_Ce_behind (l : Launch) (q : ev_T) {c rb rn N : Nat} {i : Int32} {g : mu_T} (hC : isC g c rb rn N) : Ctr l q M_Ce_behind 0 [.ref c, .int i] (0, 0, g) (fun v w => v = some (.int (if ¬ i < 0 ∧ ¬ nI N ≤ i then gI g rn i.toNatClampNeg else -1)) ∧ w.2.2 = g) := by
  obtain ⟨hkc, hac, hFb, hFn, hkb, hab, hkn, han, hN⟩ := hC
  refine Ctr.mk (lb := [some (.ref c), some (.int i)]) (by decide +kernel) (Nat.le_of_ble_eq_true rfl) rfl rfl ?_
  intro p e s m args below meth c X hrt hlk hnm
  refine v_iload_n X (dk D_Ce_behind 0 rfl) rfl ?_
  refine v_if_lt (tgt := 22) X (dk D_Ce_behind 1 rfl) (by decide) (fun c1 => ?_) (fun c1 => ?_)
  · refine v_iconst (v := -1) X (dk D_Ce_behind 12 rfl) (by decide) ?_
    exact v_iret X hlk hrt (dk D_Ce_behind 13 rfl) ⟨by rw [if_neg (fun z => z.1 c1)], rfl⟩
  · refine v_iload_n X (dk D_Ce_behind 2 rfl) rfl ?_
    refine v_aload_n X (dk D_Ce_behind 3 rfl) rfl ?_
    refine v_getF X (dk D_Ce_behind 4 rfl) F_Ce_23 rfl hkc hac hFn ?_
    refine v_alen (v := nI _) X (dk D_Ce_behind 5 rfl) hkn rfl han rfl ?_
    refine v_icmp_ge (tgt := 22) X (dk D_Ce_behind 6 rfl) (by decide) (fun c10 => ?_) (fun c10 => ?_)
    · refine v_iconst (v := -1) X (dk D_Ce_behind 12 rfl) (by decide) ?_
      exact v_iret X hlk hrt (dk D_Ce_behind 13 rfl) ⟨by rw [if_neg (fun z => z.2 c10)], rfl⟩
    · refine v_aload_n X (dk D_Ce_behind 7 rfl) rfl ?_
      refine v_getF X (dk D_Ce_behind 8 rfl) F_Ce_23 rfl hkc hac hFn ?_
      refine v_iload_n X (dk D_Ce_behind 9 rfl) rfl ?_
      refine v_iald X (dk D_Ce_behind 10 rfl) hkn han (in_of (by omega) c1 c10) ?_
      refine v_goto (tgt := 23) X (dk D_Ce_behind 11 rfl) (by decide) ?_
      exact v_iret X hlk hrt (dk D_Ce_behind 13 rfl) ⟨by rw [if_pos ⟨c1, c10⟩], rfl⟩
set_option maxHeartbeats 4000000 in
set_option maxRecDepth 100000 in
theorem c_Ce_hang (l : Launch) (q : ev_T) {c rb rn N h p : Nat} {x y z : Int32} {g : mu_T} (hC : isC g c rb rn N) (hH : isH g h) (hl : gI g h 1 = nI p) (hp : p < N) : Ctr l q M_Ce_hang 0 [.ref c, .ref h, .int x, .int y, .int z] (0, 0, g) (fun v w => v = none ∧ w.2.2 = xI (xI (xI g rn p x) h 1 y) h 2 (gI (xI (xI g rn p x) h 1 y) h 2 + z)) := by
  obtain ⟨hkc, hac, hFb, hFn, hkb, hab, hkn, han, hN⟩ := hC
  obtain ⟨hkh, hah⟩ := hH
  have hne : rn ≠ h := fun e => by rw [e, hkh] at hkn; cases hkn
  refine Ctr.mk (lb := [some (.ref c), some (.ref h), some (.int x), some (.int y), some (.int z)]) (by decide +kernel) (Nat.le_of_ble_eq_true rfl) rfl rfl ?_
  intro p e s m args below meth c X hrt hlk hnm
  refine v_aload_n X (dk D_Ce_hang 0 rfl) rfl ?_
  refine v_getI X (dk D_Ce_hang 1 rfl) F_Ce_47 rfl hkh hah ?_
  refine v_if_lt (tgt := 32) X (dk D_Ce_hang 2 rfl) (by decide) (fun c4 => absurd c4 (by rw [hl]; exact nI_pos (by omega))) (fun _ => ?_)
  refine v_aload_n X (dk D_Ce_hang 3 rfl) rfl ?_
  refine v_getI X (dk D_Ce_hang 4 rfl) F_Ce_47 rfl hkh hah ?_
  refine v_aload_n X (dk D_Ce_hang 5 rfl) rfl ?_
  refine v_getF X (dk D_Ce_hang 6 rfl) F_Ce_23 rfl hkc hac hFn ?_
  refine v_alen (v := nI _) X (dk D_Ce_hang 7 rfl) hkn rfl han rfl ?_
  refine v_icmp_ge (tgt := 32) X (dk D_Ce_hang 8 rfl) (by decide) (fun c16 => absurd c16 (by rw [hl]; exact nI_ge hp (by omega))) (fun _ => ?_)
  refine v_aload_n X (dk D_Ce_hang 9 rfl) rfl ?_
  refine v_getF X (dk D_Ce_hang 10 rfl) F_Ce_23 rfl hkc hac hFn ?_
  refine v_aload_n X (dk D_Ce_hang 11 rfl) rfl ?_
  refine v_getI X (dk D_Ce_hang 12 rfl) F_Ce_47 rfl hkh hah ?_
  refine v_iload_n X (dk D_Ce_hang 13 rfl) rfl ?_
  refine v_iast X (dk D_Ce_hang 14 rfl) hkn han (by rw [hl]; exact vp_in_nI hp (by omega)) ?_
  refine v_goto (tgt := 37) X (dk D_Ce_hang 15 rfl) (by decide) ?_
  refine v_aload_n X (dk D_Ce_hang 19 rfl) rfl ?_
  refine v_iload_n X (dk D_Ce_hang 20 rfl) rfl ?_
  refine v_putI X (dk D_Ce_hang 21 rfl) F_Ce_47 CK_Ch rfl hkh hah rfl rfl ?_
  refine v_aload_n X (dk D_Ce_hang 22 rfl) rfl ?_
  refine v_dup X (dk D_Ce_hang 23 rfl) rfl ?_
  refine v_getI X (dk D_Ce_hang 24 rfl) F_Ce_55 rfl hkh hah ?_
  refine v_iload X (dk D_Ce_hang 25 rfl) rfl ?_
  refine v_iadd X (dk D_Ce_hang 26 rfl) ?_
  refine v_putI X (dk D_Ce_hang 27 rfl) F_Ce_55 CK_Ch rfl hkh hah rfl rfl ?_
  exact v_vret X hlk hrt (dk D_Ce_hang 28 rfl) ⟨rfl, by rw [hl, nI_clamp (by omega)]⟩
set_option maxHeartbeats 4000000 in
set_option maxRecDepth 100000 in
theorem c_Ce_hang0 (l : Launch) (q : ev_T) {c rb rn N h : Nat} {x y z : Int32} {g : mu_T} (hC : isC g c rb rn N) (hH : isH g h) (hl : gI g h 1 = -1) : Ctr l q M_Ce_hang 0 [.ref c, .ref h, .int x, .int y, .int z] (0, 0, g) (fun v w => v = none ∧ w.2.2 = xI (xI (xI g h 0 x) h 1 y) h 2 (gI (xI (xI g h 0 x) h 1 y) h 2 + z)) := by
  obtain ⟨hkc, hac, hFb, hFn, hkb, hab, hkn, han, hN⟩ := hC
  obtain ⟨hkh, hah⟩ := hH
  refine Ctr.mk (lb := [some (.ref c), some (.ref h), some (.int x), some (.int y), some (.int z)]) (by decide +kernel) (Nat.le_of_ble_eq_true rfl) rfl rfl ?_
  intro p e s m args below meth c X hrt hlk hnm
  refine v_aload_n X (dk D_Ce_hang 0 rfl) rfl ?_
  refine v_getI X (dk D_Ce_hang 1 rfl) F_Ce_47 rfl hkh hah ?_
  refine v_if_lt (tgt := 32) X (dk D_Ce_hang 2 rfl) (by decide) (fun _ => ?_) (fun c4 => absurd (by rw [hl]; decide) c4)
  refine v_aload_n X (dk D_Ce_hang 16 rfl) rfl ?_
  refine v_iload_n X (dk D_Ce_hang 17 rfl) rfl ?_
  refine v_putI X (dk D_Ce_hang 18 rfl) F_Ce_52 CK_Ch rfl hkh hah rfl rfl ?_
  refine v_aload_n X (dk D_Ce_hang 19 rfl) rfl ?_
  refine v_iload_n X (dk D_Ce_hang 20 rfl) rfl ?_
  refine v_putI X (dk D_Ce_hang 21 rfl) F_Ce_47 CK_Ch rfl hkh hah rfl rfl ?_
  refine v_aload_n X (dk D_Ce_hang 22 rfl) rfl ?_
  refine v_dup X (dk D_Ce_hang 23 rfl) rfl ?_
  refine v_getI X (dk D_Ce_hang 24 rfl) F_Ce_55 rfl hkh hah ?_
  refine v_iload X (dk D_Ce_hang 25 rfl) rfl ?_
  refine v_iadd X (dk D_Ce_hang 26 rfl) ?_
  refine v_putI X (dk D_Ce_hang 27 rfl) F_Ce_55 CK_Ch rfl hkh hah rfl rfl ?_
  exact v_vret X hlk hrt (dk D_Ce_hang 28 rfl) ⟨rfl, rfl⟩
end
section
/-! chains of cells as lists -/
/-- from value f on the links lead through ps to value e -/
def lkf (nx : Nat → Int32) : List Nat → Int32 → Int32 → Prop
  | [], e, f => f = e
  | p :: ps, e, f => f = nI p ∧ lkf nx ps e (nx p)
theorem lkf_same {nx ny : Nat → Int32} : ∀ {ps : List Nat} {e f : Int32}, (∀ p ∈ ps, ny p = nx p) → lkf nx ps e f → lkf ny ps e f
  | [], _, _, _, h => h
  | p :: ps, e, f, hs, h => ⟨h.1, by rw [hs p List.mem_cons_self]; exact lkf_same (fun x hx => hs x (List.mem_cons_of_mem _ hx)) h.2⟩
theorem lkf_app {nx : Nat → Int32} : ∀ {ps qs : List Nat} {e f d : Int32}, lkf nx ps d f → lkf nx qs e d → lkf nx (ps ++ qs) e f
  | [], qs, e, f, d, h, k => by rw [show f = d from h]; exact k
  | p :: ps, qs, e, f, d, h, k => ⟨h.1, lkf_app h.2 k⟩
/-- the last link is set anew -/
theorem lkf_end {nx ny : Nat → Int32} {d : Int32} {q : Nat} : ∀ {ps : List Nat} {e f : Int32}, lkf nx (ps ++ [q]) e f → q ∉ ps → (∀ p ∈ ps, ny p = nx p) → ny q = d → lkf ny (ps ++ [q]) d f
  | [], e, f, h, _, _, hq => ⟨h.1, hq⟩
  | p :: ps, e, f, h, hn, hs, hq => ⟨h.1, by rw [hs p List.mem_cons_self]; exact lkf_end h.2 (fun z => hn (List.mem_cons_of_mem _ z)) (fun x hx => hs x (List.mem_cons_of_mem _ hx)) hq⟩
theorem lkf_at {nx : Nat → Int32} : ∀ {ps : List Nat} {e f : Int32}, lkf nx ps e f → (∀ p, ps.head? = some p → f = nI p) ∧ ∀ k p r, ps[k]? = some p → ps[k + 1]? = some r → nx p = nI r
  | [], e, f, h => ⟨fun p hp => (by cases hp), fun k p r hp => (by simp at hp)⟩
  | p :: ps, e, f, h => by
    obtain ⟨h1, h2⟩ := lkf_at h.2
    refine ⟨fun x hx => by cases hx; exact h.1, fun k x r hx hr => ?_⟩
    cases k with
    | zero =>
      cases hx
      refine h1 r ?_
      simpa [List.head?_eq_getElem?] using hr
    | succ k => exact h2 k x r hx hr
/-- a chain h, linked by the row rn, goes through the cells ps -/
def CH (g : mu_T) (rn h : Nat) (ps : List Nat) : Prop := isH g h ∧ gI g h 2 = nI ps.length ∧ (ps = [] → gI g h 0 = -1 ∧ gI g h 1 = -1) ∧ ∀ qs p, ps = qs ++ [p] → gI g h 1 = nI p ∧ ∃ e, lkf (gI g rn) ps e (gI g h 0)
theorem CH.keep {g k : mu_T} {S : List Nat} {rn h : Nat} {ps : List Nat} (c : CH g rn h ps) (z : sm g k S) (hh : h ∉ S) (hn : ∀ p ∈ ps, gI k rn p = gI g rn p) : CH k rn h ps := by
  obtain ⟨h1, h2, h3, h4⟩ := c
  refine ⟨h1.sm z, by rw [z.I hh]; exact h2, fun e => by rw [z.I hh, z.I hh]; exact h3 e, fun qs p e => ?_⟩
  obtain ⟨y1, d, y2⟩ := h4 qs p e
  exact ⟨by rw [z.I hh]; exact y1, d, by rw [z.I hh]; exact lkf_same hn y2⟩
/-- how many cells the chains of S have -/
def tot (S : List Nat) (ch : Nat → List Nat) : Nat := (S.map (fun h => (ch h).length)).sum
theorem tot_up {ch : Nat → List Nat} {h : Nat} {x : List Nat} : ∀ {S : List Nat}, S.Nodup → h ∈ S → tot S (va_up ch h x) + (ch h).length = tot S ch + x.length
  | [], _, hm => by cases hm
  | a :: S, hn, hm => by
    have hn' := List.nodup_cons.mp hn
    have e : ∀ T : List Nat, h ∉ T → tot T (va_up ch h x) = tot T ch := by
      intro T hT
      simp only [tot]
      congr 1
      refine List.map_congr_left fun b hb => ?_
      simp only [va_up]
      rw [if_neg (fun z : b = h => hT (by rw [← z]; exact hb))]
    simp only [tot, List.map_cons, List.sum_cons]
    by_cases ha : h = a
    · subst ha
      have := e S hn'.1
      simp only [tot] at this
      rw [this]
      simp only [va_up, if_true]
      omega
    · rcases List.mem_cons.mp hm with z | z
      · exact absurd z ha
      · have := tot_up (x := x) (ch := ch) hn'.2 z
        simp only [tot] at this
        have e2 : va_up ch h x a = ch a := by simp only [va_up]; rw [if_neg (fun z => ha z.symm)]
        rw [e2]
        omega
/-- the cells of a Cells object: chains S through ch, the free ones fl, those below fr were used -/
def CW (g : mu_T) (c rb rn N : Nat) (S : List Nat) (ch : Nat → List Nat) (fl : List Nat) (fr : Nat) : Prop :=
  isC g c rb rn N ∧ S.Nodup ∧ c ∉ S ∧ (∀ h ∈ S, CH g rn h (ch h)) ∧ gI g c 2 = nI fr ∧ lkf (gI g rn) fl (-1) (gI g c 3) ∧ gI g c 4 = nI (tot S ch) ∧ fr ≤ N ∧ tot S ch + fl.length = fr ∧
  (∀ p ∈ fl, p < fr) ∧ fl.Nodup ∧ (∀ h ∈ S, (ch h).Nodup ∧ ∀ p ∈ ch h, p < fr ∧ p ∉ fl) ∧ ∀ h ∈ S, ∀ k ∈ S, ∀ p, p ∈ ch h → p ∈ ch k → h = k
/-- the bytes of a chain -/
def bys (g : mu_T) (rb : Nat) (ps : List Nat) : List Int32 := ps.map (gI g rb)
theorem CW.ids {g : mu_T} {c rb rn N : Nat} {S : List Nat} {ch : Nat → List Nat} {fl : List Nat} {fr : Nat} (w : CW g c rb rn N S ch fl fr) : rb ∉ S ∧ rn ∉ S ∧ c ≠ rb ∧ c ≠ rn ∧ rb ≠ rn := by
  obtain ⟨⟨h1, h2, h3, h4, h5, h6, h7, h8, h9⟩, -, -, hS, -⟩ := w
  refine ⟨fun z => ?_, fun z => ?_, fun z => ?_, fun z => ?_, fun z => ?_⟩
  · have := (hS _ z).1.1; rw [h5] at this; cases this
  · have := (hS _ z).1.1; rw [h7] at this; cases this
  · rw [z, h5] at h1; cases h1
  · rw [z, h7] at h1; cases h1
  · rw [z, h7] at h5; cases h5
theorem and255_b (x : Int32) : (x &&& 255).toInt8.toInt32 = x.toInt8.toInt32 := by
  have h : (x &&& 255).toInt8 = x.toInt8 := by
    apply Int8.toBitVec_inj.mp
    apply BitVec.eq_of_getLsbD_eq
    intro i hi
    simp only [Int32.toBitVec_toInt8, Int32.toBitVec_and, BitVec.getLsbD_signExtend]
    have h32 : i < 32 := by omega
    simp only [h32, if_true, BitVec.getLsbD_and, hi, decide_true, Bool.true_and]
    have : (Int32.toBitVec 255).getLsbD i = true := by
      rcases (show i = 0 ∨ i = 1 ∨ i = 2 ∨ i = 3 ∨ i = 4 ∨ i = 5 ∨ i = 6 ∨ i = 7 by omega) with rfl | rfl | rfl | rfl | rfl | rfl | rfl | rfl <;> decide +kernel
    rw [this, Bool.and_true]
  rw [h]
end
section
/-! what becomes of the chains -/
theorem nodup_snoc {l : List Nat} {p : Nat} (h : l.Nodup) (hp : p ∉ l) : (l ++ [p]).Nodup := by
  refine List.nodup_append.mpr ⟨h, List.nodup_cons.mpr ⟨List.not_mem_nil, List.nodup_nil⟩, fun a ha b hb e => ?_⟩
  rw [List.mem_singleton] at hb
  exact hp (by rw [← hb, ← e]; exact ha)
theorem va_up_eq {α : Type} (f : Nat → α) (k : Nat) (x : α) : va_up f k x k = x := if_pos rfl
theorem va_up_ne' {α : Type} {f : Nat → α} {k j : Nat} {x : α} (h : j ≠ k) : va_up f k x j = f j := if_neg h
theorem snoc_or (l : List Nat) : l = [] ∨ ∃ qs q, l = qs ++ [q] := by
  rcases List.eq_nil_or_concat l with h | ⟨qs, q, h⟩
  · exact Or.inl h
  · exact Or.inr ⟨qs, q, by rw [h, List.concat_eq_append]⟩
theorem snoc_inj {a b : List Nat} {p q : Nat} (h : a ++ [p] = b ++ [q]) : a = b ∧ p = q := by
  have := List.append_inj' h rfl
  exact ⟨this.1, by simpa using this.2⟩
/-- one cell p more behind chain h -/
theorem CW.add1 {g k : mu_T} {c rb rn N h p fr fr2 : Nat} {S fl fl2 : List Nat} {ch : Nat → List Nat} (w : CW g c rb rn N S ch fl fr) (hh : h ∈ S) (z : sm g k [c, rb, rn, h])
    (hcase : (fl = p :: fl2 ∧ fr2 = fr ∧ gI k c 3 = gI g rn p) ∨ (fl = [] ∧ fl2 = [] ∧ p = fr ∧ fr2 = fr + 1 ∧ fr < N ∧ gI k c 3 = gI g c 3))
    (e2 : gI k c 2 = nI fr2) (e4 : gI k c 4 = nI (tot S ch + 1)) (l1 : gI k h 1 = nI p) (l2 : gI k h 2 = nI ((ch h).length + 1)) (l0 : gI k h 0 = if ch h = [] then nI p else gI g h 0)
    (n1 : gI k rn p = -1) (n2 : ∀ qs x, ch h = qs ++ [x] → gI k rn x = nI p) (n3 : ∀ x, x ≠ p → (∀ qs y, ch h = qs ++ [y] → x ≠ y) → gI k rn x = gI g rn x) : CW k c rb rn N S (va_up ch h (ch h ++ [p])) fl2 fr2 ∧ p ∉ ch h ∧ (∀ j ∈ S, p ∉ ch j) := by
  obtain ⟨i1, i2, i3, i4⟩ := w.ids
  obtain ⟨hC, hS, hcS, hch, w2, w3, w4, w5, w6, w7, w8, w9, w10⟩ := w
  have hpf : p ∉ fl2 ∧ p < fr2 ∧ (∀ j ∈ S, p ∉ ch j) ∧ fr2 ≤ N ∧ tot S ch + 1 + fl2.length = fr2 ∧ (∀ x ∈ fl2, x < fr2) ∧ fl2.Nodup ∧ fr ≤ fr2 ∧ ∀ x, x ∈ fl2 → x ∈ fl := by
    rcases hcase with ⟨e, f, -⟩ | ⟨e, f, m, n, o, -⟩
    · subst e; subst f
      have hn := List.nodup_cons.mp w8
      refine ⟨hn.1, w7 p List.mem_cons_self, fun j hj hp => ((w9 j hj).2 p hp).2 List.mem_cons_self, w5, ?_, fun x hx => w7 x (List.mem_cons_of_mem _ hx), hn.2, Nat.le_refl _, fun x hx => List.mem_cons_of_mem _ hx⟩
      simp only [List.length_cons] at w6
      omega
    · subst e; subst f; subst n
      refine ⟨List.not_mem_nil, by omega, fun j hj hp => ?_, by omega, by simp at w6 ⊢; omega, fun x hx => absurd hx List.not_mem_nil, List.nodup_nil, by omega, fun x hx => hx⟩
      have := ((w9 j hj).2 p hp).1
      omega
  obtain ⟨p1, p2, p3, p4, p5, p6, p7, p8, p9⟩ := hpf
  have hne : ∀ j ∈ S, ∀ x ∈ ch j, j ≠ h → gI k rn x = gI g rn x := fun j hj x hx hjh => by
    refine n3 x (fun e => p3 j hj (by rw [← e]; exact hx)) (fun qs y hy e => hjh ?_)
    exact w10 j hj h hh x hx (by rw [hy, e]; simp)
  have hcS' : ∀ j ∈ S, j ≠ h → j ∉ [c, rb, rn, h] := fun j hj hjh e => by
    simp only [List.mem_cons, List.not_mem_nil, or_false] at e
    rcases e with e | e | e | e
    · exact hcS (by rw [← e]; exact hj)
    · exact i1 (by rw [← e]; exact hj)
    · exact i2 (by rw [← e]; exact hj)
    · exact hjh e
  refine ⟨⟨hC.sm z, hS, hcS, fun j hj => ?_, e2, ?_, ?_, p4, ?_, p6, p7, fun j hj => ?_, fun j hj i hi x hx hy => ?_⟩, p3 h hh, p3⟩
  · by_cases hjh : j = h
    · subst hjh
      rw [va_up_eq]
      obtain ⟨y1, y2, y3, y4⟩ := hch j hj
      refine ⟨y1.sm z, by rw [l2]; simp, fun e => absurd e (by simp), fun qs x hx => ?_⟩
      obtain ⟨hq, hx⟩ := snoc_inj hx
      subst hx
      refine ⟨l1, -1, ?_⟩
      rcases snoc_or (ch j) with e | ⟨us, v, e⟩
      · rw [e] at l0 ⊢
        rw [l0, if_pos rfl]
        exact ⟨rfl, n1⟩
      · obtain ⟨-, d, y5⟩ := y4 us v e
        rw [l0, if_neg (by rw [e]; simp)]
        have hv : v ∉ us := by
          have := (w9 j hj).1
          rw [e] at this
          intro hv
          exact (List.nodup_append.mp this).2.2 v hv v (by simp) rfl
        rw [e] at y5 ⊢
        refine lkf_app (d := nI p) (lkf_end y5 hv (fun x hx => ?_) (n2 us v e)) ⟨rfl, n1⟩
        refine n3 x (fun e2 => p3 j hj (by rw [e, ← e2]; exact List.mem_append_left _ hx)) (fun qs y hy e2 => ?_)
        rw [e] at hy
        obtain ⟨-, hy2⟩ := snoc_inj hy
        exact hv (by rw [hy2, ← e2]; exact hx)
    · rw [va_up_ne' hjh]
      exact (hch j hj).keep z (hcS' j hj hjh) (fun x hx => hne j hj x hx hjh)
  · rcases hcase with ⟨e, -, f⟩ | ⟨e, e', -, -, -, f⟩
    · rw [f]
      rw [e] at w3
      refine lkf_same (fun x hx => ?_) w3.2
      refine n3 x (fun e2 => p1 (by rw [← e2]; exact hx)) (fun qs y hy e2 => ?_)
      exact ((w9 h hh).2 y (by rw [hy]; simp)).2 (by rw [← e2]; exact p9 x hx)
    · rw [e', f]
      rw [e] at w3
      exact w3
  · have := tot_up (ch := ch) (x := ch h ++ [p]) hS hh
    simp only [List.length_append, List.length_cons, List.length_nil] at this
    rw [e4]
    congr 1
    omega
  · have := tot_up (ch := ch) (x := ch h ++ [p]) hS hh
    simp only [List.length_append, List.length_cons, List.length_nil] at this
    omega
  · by_cases hjh : j = h
    · subst hjh
      rw [va_up_eq]
      refine ⟨nodup_snoc (w9 j hj).1 (p3 j hj), fun x hx => ?_⟩
      rcases List.mem_append.mp hx with hx | hx
      · have := (w9 j hj).2 x hx
        exact ⟨by omega, fun e => this.2 (p9 x e)⟩
      · rw [List.mem_singleton] at hx
        subst hx
        exact ⟨p2, p1⟩
    · rw [va_up_ne' hjh]
      refine ⟨(w9 j hj).1, fun x hx => ?_⟩
      have := (w9 j hj).2 x hx
      exact ⟨by omega, fun e => this.2 (p9 x e)⟩
  · have key : ∀ j ∈ S, x ∈ va_up ch h (ch h ++ [p]) j → x = p ∧ j = h ∨ x ∈ ch j := fun j hj hx => by
      by_cases hjh : j = h
      · subst hjh
        rw [va_up_eq] at hx
        rcases List.mem_append.mp hx with hx | hx
        · exact Or.inr hx
        · exact Or.inl ⟨List.mem_singleton.mp hx, rfl⟩
      · rw [va_up_ne' hjh] at hx
        exact Or.inr hx
    rcases key j hj hx with ⟨a1, a2⟩ | a1 <;> rcases key i hi hy with ⟨b1, b2⟩ | b1
    · rw [a2, b2]
    · exact absurd (by rw [← a1]; exact b1) (p3 i hi)
    · exact absurd (by rw [← b1]; exact a1) (p3 j hj)
    · exact w10 j hj i hi x a1 b1
end
section
/-! Cells.add -/
def hangM (g : mu_T) (rn h : Nat) (x y z : Int32) : mu_T := if gI g h 1 < 0 then xI (xI (xI g h 0 x) h 1 y) h 2 (gI (xI (xI g h 0 x) h 1 y) h 2 + z) else xI (xI (xI g rn (gI g h 1).toNatClampNeg x) h 1 y) h 2 (gI (xI (xI g rn (gI g h 1).toNatClampNeg x) h 1 y) h 2 + z)
theorem c_Ce_hangM (l : Launch) (q : ev_T) {c rb rn N h : Nat} {x y z : Int32} {g : mu_T} (hC : isC g c rb rn N) (hH : isH g h) (hl : gI g h 1 = -1 ∨ ∃ p, p < N ∧ gI g h 1 = nI p) : Ctr l q M_Ce_hang 0 [.ref c, .ref h, .int x, .int y, .int z] (0, 0, g) (fun v w => v = none ∧ w.2.2 = hangM g rn h x y z) := by
  have hN := hC.2.2.2.2.2.2.2.2
  rcases hl with hl | ⟨p, hp, hl⟩
  · exact (c_Ce_hang0 l q hC hH hl).weak fun v w hw => ⟨hw.1, by rw [hw.2, hangM, if_pos (by rw [hl]; decide)]⟩
  · exact (c_Ce_hang l q hC hH hl hp).weak fun v w hw => ⟨hw.1, by rw [hw.2, hangM, if_neg (by rw [hl]; exact nI_pos (by omega)), hl, nI_clamp (by omega)]⟩
theorem hangM_facts {g : mu_T} {rn h : Nat} {x y z : Int32} (hne : h ≠ rn) : sm g (hangM g rn h x y z) [rn, h] ∧ gI (hangM g rn h x y z) h 1 = y ∧ gI (hangM g rn h x y z) h 2 = gI g h 2 + z ∧ gI (hangM g rn h x y z) h 0 = (if gI g h 1 < 0 then x else gI g h 0) ∧ ∀ a, gI (hangM g rn h x y z) rn a = if ¬ gI g h 1 < 0 ∧ a = (gI g h 1).toNatClampNeg then x else gI g rn a := by
  by_cases c : gI g h 1 < 0
  · have e : hangM g rn h x y z = xI (xI (xI g h 0 x) h 1 y) h 2 (gI (xI (xI g h 0 x) h 1 y) h 2 + z) := if_pos c
    rw [e]
    refine ⟨(((sm.rf g _).xI (by simp)).xI (by simp)).xI (by simp), ?_, ?_, ?_, fun a => ?_⟩
    · rw [gI_nk (by decide), gI_eq]
    · rw [gI_eq, gI_nk (by decide), gI_nk (by decide)]
    · rw [gI_nk (by decide), gI_nk (by decide), gI_eq, if_pos c]
    · rw [gI_na (Ne.symm hne), gI_na (Ne.symm hne), gI_na (Ne.symm hne), if_neg (fun z => z.1 c)]
  · have e : hangM g rn h x y z = xI (xI (xI g rn (gI g h 1).toNatClampNeg x) h 1 y) h 2 (gI (xI (xI g rn (gI g h 1).toNatClampNeg x) h 1 y) h 2 + z) := if_neg c
    rw [e]
    refine ⟨(((sm.rf g _).xI (by simp)).xI (by simp)).xI (by simp), ?_, ?_, ?_, fun a => ?_⟩
    · rw [gI_nk (by decide), gI_eq]
    · rw [gI_eq, gI_nk (by decide), gI_na hne]
    · rw [gI_nk (by decide), gI_nk (by decide), gI_na hne, if_neg c]
    · rw [gI_na (Ne.symm hne), gI_na (Ne.symm hne)]
      by_cases ha : a = (gI g h 1).toNatClampNeg
      · rw [if_pos ⟨c, ha⟩, ha, gI_eq]
      · rw [if_neg (fun z => ha z.2), gI_nk ha]
theorem CH.last {g : mu_T} {rn h N : Nat} {ps : List Nat} (c : CH g rn h ps) (hp : ∀ p ∈ ps, p < N) : gI g h 1 = -1 ∨ ∃ p, p < N ∧ gI g h 1 = nI p := by
  rcases snoc_or ps with e | ⟨qs, p, e⟩
  · exact Or.inl (c.2.2.1 e).2
  · exact Or.inr ⟨p, hp p (by rw [e]; simp), (c.2.2.2 qs p e).1⟩
/-- one turn of the loop of Cells.add: cell p gets the byte y -/
def addM (u : mu_T) (c rb rn h p : Nat) (y : Int32) : mu_T := xI (hangM (xI (xI u rb p y) rn p (-1)) rn h (nI p) (nI p) 1) c 4 (gI (hangM (xI (xI u rb p y) rn p (-1)) rn h (nI p) (nI p) 1) c 4 + 1)
theorem addM_facts {g u : mu_T} {c rb rn N h p fr fr2 : Nat} {S fl fl2 : List Nat} {ch : Nat → List Nat} {y : Int32} (w : CW g c rb rn N S ch fl fr) (hh : h ∈ S) (z0 : sm g u [c]) (hp : p < N)
    (hcase : (fl = p :: fl2 ∧ fr2 = fr ∧ gI u c 3 = gI g rn p) ∨ (fl = [] ∧ fl2 = [] ∧ p = fr ∧ fr2 = fr + 1 ∧ fr < N ∧ gI u c 3 = gI g c 3)) (e2 : gI u c 2 = nI fr2) (e4 : gI u c 4 = gI g c 4) :
    sm g (addM u c rb rn h p y) [c, rb, rn, h] ∧ CW (addM u c rb rn h p y) c rb rn N S (va_up ch h (ch h ++ [p])) fl2 fr2 ∧ bys (addM u c rb rn h p y) rb (ch h ++ [p]) = bys g rb (ch h) ++ [y] ∧ ∀ j ∈ S, j ≠ h → bys (addM u c rb rn h p y) rb (ch j) = bys g rb (ch j) := by
  obtain ⟨i1, i2, i3, i4, i5⟩ := w.ids
  have hch := w.2.2.2.1
  have hcS := w.2.2.1
  have hN := w.1.2.2.2.2.2.2.2.2
  have hc4 := w.2.2.2.2.2.2.1
  have w9 := w.2.2.2.2.2.2.2.2.2.2.2.1
  have w6 := w.2.2.2.2.2.2.2.2.1
  have w5 := w.2.2.2.2.2.2.2.1
  have j1 : h ≠ rb := fun e => i1 (by rw [← e]; exact hh)
  have j2 : h ≠ rn := fun e => i2 (by rw [← e]; exact hh)
  have j3 : h ≠ c := fun e => hcS (by rw [← e]; exact hh)
  obtain ⟨f1, f2, f3, f4, f5⟩ := hangM_facts (g := xI (xI u rb p y) rn p (-1)) (x := nI p) (y := nI p) (z := 1) j2
  have z1 : sm g (addM u c rb rn h p y) [c, rb, rn, h] := by
    refine sm.xI ?_ (by simp)
    exact ((((z0.mono (U := [c, rb, rn, h]) (by simp)).xI (by simp)).xI (by simp))).tr f1 (fun _ q => q) (by simp)
  obtain ⟨y1, y2, y3, y4⟩ := hch h hh
  have hz : ∀ k, gI (xI (xI u rb p y) rn p (-1)) h k = gI g h k := fun k => by rw [gI_na j2, gI_na j1, z0.I (by simp [j3])]
  have hrb : ∀ x, gI (addM u c rb rn h p y) rb x = if x = p then y else gI g rb x := fun x => by
    show gI (xI _ c 4 _) rb x = _
    rw [gI_na (Ne.symm i3), f1.I (by simp [i5, Ne.symm j1]), gI_na i5]
    by_cases hx : x = p
    · rw [if_pos hx, hx, gI_eq]
    · rw [if_neg hx, gI_nk hx, z0.I (by simp [Ne.symm i3])]
  have hrn : ∀ x, gI (addM u c rb rn h p y) rn x = if ¬ gI g h 1 < 0 ∧ x = (gI g h 1).toNatClampNeg then nI p else if x = p then -1 else gI g rn x := fun x => by
    show gI (xI _ c 4 _) rn x = _
    rw [gI_na (Ne.symm i4), f5 x, hz]
    by_cases hx : ¬ gI g h 1 < 0 ∧ x = (gI g h 1).toNatClampNeg
    · rw [if_pos hx, if_pos hx]
    · rw [if_neg hx, if_neg hx]
      by_cases hp : x = p
      · rw [if_pos hp, hp, gI_eq]
      · rw [if_neg hp, gI_nk hp, gI_na (Ne.symm i5), z0.I (by simp [Ne.symm i4])]
  have hcc : ∀ k, k ≠ 4 → gI (addM u c rb rn h p y) c k = gI u c k := fun k hk => by
    show gI (xI _ c 4 _) c k = _
    rw [gI_nk hk, f1.I (by simp [i4, Ne.symm j3]), gI_na i4, gI_na i3]
  have hlast : ∀ qs q, ch h = qs ++ [q] → gI g h 1 = nI q ∧ q < N := fun qs q e => ⟨(y4 qs q e).1, by have := ((w9 h hh).2 q (by rw [e]; simp)).1; omega⟩
  have hpn : ∀ j ∈ S, p ∉ ch j := fun j hj hpj => by
    have h9 := (w9 j hj).2 p hpj
    rcases hcase with ⟨e, -⟩ | ⟨-, -, e, -⟩
    · exact h9.2 (by rw [e]; exact List.mem_cons_self)
    · omega
  have htot : tot S ch ≤ N := by omega
  obtain ⟨cw, -, -⟩ := w.add1 (k := addM u c rb rn h p y) (p := p) (fl2 := fl2) (fr2 := fr2) hh z1
    (by
      rcases hcase with ⟨a1, a2, a3⟩ | ⟨a1, a2, a3, a4, a5, a6⟩
      · exact Or.inl ⟨a1, a2, by rw [hcc 3 (by decide)]; exact a3⟩
      · exact Or.inr ⟨a1, a2, a3, a4, a5, by rw [hcc 3 (by decide)]; exact a6⟩)
    (by rw [hcc 2 (by decide)]; exact e2)
    (by
      show gI (xI _ c 4 _) c 4 = _
      rw [gI_eq, f1.I (by simp [i4, Ne.symm j3]), gI_na i4, gI_na i3, e4, hc4, nI_1])
    (by show gI (xI _ c 4 _) h 1 = _; rw [gI_na j3, f2])
    (by show gI (xI _ c 4 _) h 2 = _; rw [gI_na j3, f3, hz, y2, nI_1])
    (by
      show gI (xI _ c 4 _) h 0 = _
      rw [gI_na j3, f4, hz, hz]
      rcases snoc_or (ch h) with e | ⟨qs, q, e⟩
      · rw [if_pos e, if_pos (by rw [(y3 e).2]; decide)]
      · rw [if_neg (show ¬ gI g h 1 < 0 by rw [(hlast qs q e).1]; exact nI_pos (by have := (hlast qs q e).2; omega)), if_neg (show ¬ ch h = [] by rw [e]; simp)])
    (by
      rw [hrn, if_neg, if_pos rfl]
      rintro ⟨a1, a2⟩
      rcases snoc_or (ch h) with e | ⟨qs, q, e⟩
      · exact a1 (by rw [(y3 e).2]; decide)
      · rw [(hlast qs q e).1, nI_clamp (by have := (hlast qs q e).2; omega)] at a2
        exact hpn h hh (by rw [a2, e]; simp))
    (by
      intro qs x e
      rw [hrn, if_pos ⟨by rw [(hlast qs x e).1]; exact nI_pos (by have := (hlast qs x e).2; omega), by rw [(hlast qs x e).1, nI_clamp (by have := (hlast qs x e).2; omega)]⟩])
    (by
      intro x hx hq
      rw [hrn, if_neg, if_neg hx]
      rintro ⟨a1, a2⟩
      rcases snoc_or (ch h) with e | ⟨qs, q, e⟩
      · exact a1 (by rw [(y3 e).2]; decide)
      · rw [(hlast qs q e).1, nI_clamp (by have := (hlast qs q e).2; omega)] at a2
        exact hq qs q e a2)
  refine ⟨z1, cw, ?_, fun j hj hjh => ?_⟩
  · rw [bys, List.map_append]
    congr 1
    · refine List.map_congr_left fun x hx => ?_
      rw [hrb, if_neg (fun e => hpn h hh (by rw [← e]; exact hx))]
    · simp [hrb]
  · refine List.map_congr_left fun x hx => ?_
    rw [hrb, if_neg (fun e => hpn j hj (by rw [← e]; exact hx))]
theorem vu_self {α : Type} (f : Nat → α) (k : Nat) : va_up f k (f k) = f := by
  funext j
  by_cases h : j = k
  · rw [h, va_up_eq]
  · rw [va_up_ne' h]
set_option maxHeartbeats 4000000 in
set_option maxRecDepth 100000 in
theorem k_Ce_add (l : Launch) (q : ev_T) {c rb rn N h b r n k st fr : Nat} {S fl : List Nat} {ch : Nat → List Nat} {ys : List Int32} {ov : Bool} {g : mu_T} (hW : CW g c rb rn N S ch fl fr) (hh : h ∈ S) (hB : RB g b r n ys ov) (hyb : ∀ j, j < ys.length → (ys.getD j 0).toInt8.toInt32 = ys.getD j 0) (hfree0 : b ∉ [c, rb, rn, h] ∧ r ∉ [c, rb, rn, h]) (hst : st + k ≤ ys.length) (hk30 : k < 1073741824) : Ctr l q M_Ce_add 1 [.ref c, .ref h, .ref b, .int (nI st), .int (nI k)] (0, 0, g) (fun v w => v = some (.int (if tot S ch + k ≤ N then 1 else 0)) ∧ if tot S ch + k ≤ N then sm g w.2.2 [c, rb, rn, h] ∧ ∃ (ps fl2 : List Nat) (fr2 : Nat), CW w.2.2 c rb rn N S (va_up ch h (ch h ++ ps)) fl2 fr2 ∧ ps.length = k ∧ bys w.2.2 rb (ch h ++ ps) = bys g rb (ch h) ++ (ys.drop st).take k ∧ ∀ j ∈ S, j ≠ h → bys w.2.2 rb (ch j) = bys g rb (ch j) else w.2.2 = g) := by
  have hW0 := hW
  have hCg := hW.1
  obtain ⟨hkc, hac, hFb, hFn, hkb, hab, hkn, han, hN⟩ := id hCg
  have hused : gI g c 4 = nI (tot S ch) := hW.2.2.2.2.2.2.1
  have htN : tot S ch ≤ N := by have h1 := hW.2.2.2.2.2.2.2.1; have h2 := hW.2.2.2.2.2.2.2.2.1; omega
  have hSn := hW.2.1
  have hkh := (hW.2.2.2.1 h hh).1.1
  have hyl := hB.lt
  have hkB := hB.1.1
  obtain ⟨hbS0, hrS0⟩ := hfree0
  have hbS : b ∉ [c, rb, rn, h] := hbS0
  have hrS : r ∉ [c, rb, rn, h] := hrS0
  have hbc : b ≠ c := fun e => hbS (by simp [e])
  have hrc : r ≠ c := fun e => hrS (by simp [e])
  obtain ⟨i1, i2, i3, i4, i5⟩ := hW.ids
  have jhc : h ≠ c := fun e => hW.2.2.1 (by rw [← e]; exact hh)
  have jhb : h ≠ rb := fun e => i1 (by rw [← e]; exact hh)
  have jhn : h ≠ rn := fun e => i2 (by rw [← e]; exact hh)
  refine Ctr.mk (lb := [some (.ref c), some (.ref h), some (.ref b), some (.int (nI st)), some (.int (nI k)), none, none]) (by decide +kernel) (Nat.le_of_ble_eq_true rfl) rfl rfl ?_
  intro pp ee ss mm aa bb mt cd X hrt hlk hnm
  have loop : tot S ch + k ≤ N → ∀ (d j : Nat) (u : mu_T) (ps fl2 : List Nat) (fr2 : Nat), j + d = k → sm g u [c, rb, rn, h] → CW u c rb rn N S (va_up ch h (ch h ++ ps)) fl2 fr2 → ps.length = j → bys u rb (ch h ++ ps) = bys g rb (ch h) ++ (ys.drop st).take j → (∀ i ∈ S, i ≠ h → bys u rb (ch i) = bys g rb (ch i)) → Vv pp l ee (rmT 1 0 0) ss mm aa bb mt cd 7 q (MQ bb (Qw q (fun v w => v = some (.int (if tot S ch + k ≤ N then 1 else 0)) ∧ if tot S ch + k ≤ N then sm g w.2.2 [c, rb, rn, h] ∧ ∃ (ps fl2 : List Nat) (fr2 : Nat), CW w.2.2 c rb rn N S (va_up ch h (ch h ++ ps)) fl2 fr2 ∧ ps.length = k ∧ bys w.2.2 rb (ch h ++ ps) = bys g rb (ch h) ++ (ys.drop st).take k ∧ ∀ j ∈ S, j ≠ h → bys w.2.2 rb (ch j) = bys g rb (ch j) else w.2.2 = g)) aa ss 0 0 (fun a => q.1 ≤ a)) 20 [some (.ref c), some (.ref h), some (.ref b), some (.int (nI st)), some (.int (nI k)), some (.int (nI j)), none] [] (0, 0, u) := by
    intro hroom d
    induction d with
    | zero =>
      intro j u ps fl2 fr2 hjd hs hW hpl hby0 hbo
      refine v_iload X (dk D_Ce_add 12 rfl) rfl ?_
      refine v_iload X (dk D_Ce_add 13 rfl) rfl ?_
      refine v_icmp_ge (tgt := 139) X (dk D_Ce_add 14 rfl) (by decide) (fun _ => ?_) (fun c24 => absurd (nI_le (by omega) (by omega)) c24)
      refine v_iconst (v := 1) X (dk D_Ce_add 75 rfl) (by decide) ?_
      exact v_zret X hlk hrt rfl (dk D_Ce_add 76 rfl) ⟨by rw [if_pos hroom], by rw [if_pos hroom]; exact ⟨hs, ps, fl2, fr2, hW, by omega, by rw [hby0, show j = k by omega], hbo⟩⟩
    | succ d ih =>
      intro j u ps fl2 fr2 hjd hs hW hpl hby0 hbo
      have hCu := hW.1
      have hacu := hCu.2.1
      have habu := hCu.2.2.2.2.2.1
      have hanu := hCu.2.2.2.2.2.2.2.1
      have hFb : gF u c 0 = some rb := hCu.2.2.1
      have hFn : gF u c 1 = some rn := hCu.2.2.2.1
      have hCHu := hW.2.2.2.1 h hh
      have hahu := hCHu.1.2
      have w5 := hW.2.2.2.2.2.2.2.1
      have w6 := hW.2.2.2.2.2.2.2.2.1
      have w3 := hW.2.2.2.2.2.1
      have w7 := hW.2.2.2.2.2.2.2.2.2.1
      have htt : tot S (va_up ch h (ch h ++ ps)) = tot S ch + j := by have := tot_up (ch := ch) (x := ch h ++ ps) hSn hh; rw [List.length_append] at this; omega
      have htk : (ys.drop st).take (j + 1) = (ys.drop st).take j ++ [ys.getD (st + j) 0] := by
        rw [tk_one _ (by rw [List.length_drop]; omega)]
        simp only [List.getD_eq_getElem?_getD, List.getElem?_drop]
      have hby : (atL ys (nI (st + j))).toInt8.toInt32.toInt8.toInt32 = ys.getD (st + j) 0 := by rw [atL_nI (by omega) (by omega), and255_b, hyb _ (by omega), hyb _ (by omega)]
      cases fl2 with
      | cons p fl3 =>
        have hfree : gI u c 3 = nI p := w3.1
        have hpN : p < N := by have := w7 p List.mem_cons_self; omega
        have z0 : sm u (xI u c 3 (gI u rn p)) [c] := (sm.rf u [c]).xI (by simp)
        have hB1 : RB (xI u c 3 (gI u rn p)) b r n ys ov := (hB.sm hs hbS hrS).sm z0 (by simp [hbc]) (by simp [hrc])
        have z3 : sm u (xI (xI (xI u c 3 (gI u rn p)) rb p (ys.getD (st + j) 0)) rn p (-1)) [c, rb, rn] := ((z0.mono (by simp)).xI (by simp)).xI (by simp)
        have hC3 := hCu.sm z3
        have hH3 := hCHu.1.sm z3
        have hl3 : gI (xI (xI (xI u c 3 (gI u rn p)) rb p (ys.getD (st + j) 0)) rn p (-1)) h 1 = -1 ∨ ∃ x, x < N ∧ gI (xI (xI (xI u c 3 (gI u rn p)) rb p (ys.getD (st + j) 0)) rn p (-1)) h 1 = nI x := by
          rw [z3.I (by simp [jhc, jhb, jhn])]
          exact hCHu.last (fun x hx => by have := ((hW.2.2.2.2.2.2.2.2.2.2.2.1 h hh).2 x hx).1; omega)
        have hac4 : c < gN (hangM (xI (xI (xI u c 3 (gI u rn p)) rb p (ys.getD (st + j) 0)) rn p (-1)) rn h (nI p) (nI p) 1) := by rw [(hangM_facts jhn).1.N]; exact hacu
        obtain ⟨f1, f2, f3, f4⟩ := addM_facts (y := ys.getD (st + j) 0) (fl2 := fl3) (fr2 := fr2) hW hh z0 hpN (Or.inl ⟨rfl, rfl, gI_eq _ _ _ _⟩) ((gI_nk (by decide)).trans hW.2.2.2.2.1) (gI_nk (by decide))
        rw [va_up_eq, bx_uu] at f2
        rw [List.append_assoc] at f2
        rw [va_up_eq, List.append_assoc, hby0, List.append_assoc, ← htk] at f3
        have f4 : ∀ i ∈ S, i ≠ h → bys (addM (xI u c 3 (gI u rn p)) c rb rn h p (ys.getD (st + j) 0)) rb (ch i) = bys g rb (ch i) := fun i hi hih => by have := f4 i hi hih; rw [va_up_ne' hih] at this; exact this.trans (hbo i hi hih)
        refine v_iload X (dk D_Ce_add 12 rfl) rfl ?_
        refine v_iload X (dk D_Ce_add 13 rfl) rfl ?_
        refine v_icmp_ge (tgt := 139) X (dk D_Ce_add 14 rfl) (by decide) (fun c24 => absurd c24 (nI_ge (by omega) (by omega))) (fun _ => ?_)
        refine v_aload_n X (dk D_Ce_add 15 rfl) rfl ?_
        refine v_getI X (dk D_Ce_add 16 rfl) F_Ce_7 rfl hkc hacu ?_
        refine v_if_lt (tgt := 41) X (dk D_Ce_add 17 rfl) (by decide) (fun c31 => absurd c31 (by rw [hfree]; exact nI_pos (by omega))) (fun _ => ?_)
        refine v_aload_n X (dk D_Ce_add 18 rfl) rfl ?_
        refine v_getI X (dk D_Ce_add 19 rfl) F_Ce_7 rfl hkc hacu ?_
        refine v_goto (tgt := 45) X (dk D_Ce_add 20 rfl) (by decide) ?_
        rw [hfree]
        refine v_istore (lb := [some (.ref c), some (.ref h), some (.ref b), some (.int (nI st)), some (.int (nI k)), some (.int (nI j)), some (.int (nI p))]) X (dk D_Ce_add 23 rfl) (by decide) rfl ?_
        refine v_aload_n X (dk D_Ce_add 24 rfl) rfl ?_
        refine v_iload X (dk D_Ce_add 25 rfl) rfl ?_
        refine v_invV (As := [.int (nI p)]) (st := []) X (c_Ce_isCell l q (i := nI p) (g := u) hCu) (dk D_Ce_add 26 rfl) G_Ce_33 K_Ce_isCell V_Ce_isCell hkc rfl hacu rfl rfl (Nat.le_of_ble_eq_true rfl) (Nat.le_of_ble_eq_true rfl) (Nat.le_of_ble_eq_true rfl) (Nat.le_of_ble_eq_true rfl) (Nat.le_of_ble_eq_true rfl) ?_
        rintro v w ⟨rfl, hw⟩
        rw [hw, show (if ¬ nI p < 0 ∧ ¬ nI N ≤ nI p then (1 : Int32) else 0) = 1 from if_pos ⟨nI_pos (by omega), nI_ge hpN (by omega)⟩]
        show Vv _ _ _ _ _ _ _ _ _ _ _ _ _ _ _ [.int 1] (0, 0, u)
        refine v_if_ne (tgt := 58) X (dk D_Ce_add 27 rfl) (by decide) (fun _ => ?_) (fun c53 => absurd c53 (by decide))
        refine v_aload_n X (dk D_Ce_add 30 rfl) rfl ?_
        refine v_getI X (dk D_Ce_add 31 rfl) F_Ce_7 rfl hkc hacu ?_
        refine v_if_lt (tgt := 79) X (dk D_Ce_add 32 rfl) (by decide) (fun c62 => absurd c62 (by rw [hfree]; exact nI_pos (by omega))) (fun _ => ?_)
        refine v_aload_n X (dk D_Ce_add 33 rfl) rfl ?_
        refine v_aload_n X (dk D_Ce_add 34 rfl) rfl ?_
        refine v_getF X (dk D_Ce_add 35 rfl) F_Ce_23 rfl hkc hacu hFn ?_
        refine v_iload X (dk D_Ce_add 36 rfl) rfl ?_
        refine v_iald X (dk D_Ce_add 37 rfl) hkn hanu (vp_in_nI hpN (by omega)) ?_
        rw [nI_clamp (show p < 2147483648 by omega)]
        refine v_putI X (dk D_Ce_add 38 rfl) F_Ce_7 CK_Ce rfl hkc hacu rfl rfl ?_
        refine v_goto (tgt := 89) X (dk D_Ce_add 39 rfl) (by decide) ?_
        refine v_aload_n X (dk D_Ce_add 46 rfl) rfl ?_
        refine v_getF X (dk D_Ce_add 47 rfl) F_Ce_19 rfl hkc hacu hFb ?_
        refine v_iload X (dk D_Ce_add 48 rfl) rfl ?_
        refine v_aload_n X (dk D_Ce_add 49 rfl) rfl ?_
        refine v_iload_n X (dk D_Ce_add 50 rfl) rfl ?_
        refine v_iload X (dk D_Ce_add 51 rfl) rfl ?_
        refine v_iadd X (dk D_Ce_add 52 rfl) ?_
        rw [nI_add]
        refine v_invV (As := [.int (nI (st + j))]) (st := [.int (nI p), .ref rb]) X (k_at l q (i := nI (st + j)) hB1) (dk D_Ce_add 53 rfl) G_Ce_37 K_By_at V_By_at hkB rfl hB1.1.2.1 rfl rfl (Nat.le_of_ble_eq_true rfl) (Nat.le_of_ble_eq_true rfl) (Nat.le_of_ble_eq_true rfl) (Nat.le_of_ble_eq_true rfl) (Nat.le_of_ble_eq_true rfl) ?_
        rintro v w ⟨rfl, hw⟩
        rw [hw]
        show Vv _ _ _ _ _ _ _ _ _ _ _ _ _ _ _ [.int (atL ys (nI (st + j))), .int (nI p), .ref rb] (0, 0, (xI u c 3 (gI u rn p)))
        refine v_i2b X (dk D_Ce_add 54 rfl) rfl ?_
        refine v_bast X (dk D_Ce_add 55 rfl) hkb habu (vp_in_nI hpN (by omega)) rfl ?_
        refine v_aload_n X (dk D_Ce_add 56 rfl) rfl ?_
        refine v_getF X (dk D_Ce_add 57 rfl) F_Ce_23 rfl hkc hacu hFn ?_
        refine v_iload X (dk D_Ce_add 58 rfl) rfl ?_
        refine v_iconst (v := -1) X (dk D_Ce_add 59 rfl) (by decide) ?_
        refine v_iast X (dk D_Ce_add 60 rfl) hkn hanu (vp_in_nI hpN (by omega)) ?_
        refine v_aload_n X (dk D_Ce_add 61 rfl) rfl ?_
        refine v_aload_n X (dk D_Ce_add 62 rfl) rfl ?_
        refine v_iload X (dk D_Ce_add 63 rfl) rfl ?_
        refine v_iload X (dk D_Ce_add 64 rfl) rfl ?_
        refine v_iconst (v := 1) X (dk D_Ce_add 65 rfl) (by decide) ?_
        rw [hby, nI_clamp (show p < 2147483648 by omega)]
        refine v_invV (As := [.ref h, .int (nI p), .int (nI p), .int 1]) (st := []) X (c_Ce_hangM l q (x := nI p) (y := nI p) (z := 1) (hC3) (hH3) hl3) (dk D_Ce_add 66 rfl) G_Ce_43 K_Ce_hang V_Ce_hang hkc rfl hC3.2.1 rfl rfl (Nat.le_of_ble_eq_true rfl) (Nat.le_of_ble_eq_true rfl) (Nat.le_of_ble_eq_true rfl) (Nat.le_of_ble_eq_true rfl) (Nat.le_of_ble_eq_true rfl) ?_
        rintro v w ⟨rfl, hw⟩
        rw [hw]
        show Vv _ _ _ _ _ _ _ _ _ _ _ _ _ _ _ [] (0, 0, hangM (xI (xI (xI u c 3 (gI u rn p)) rb p (ys.getD (st + j) 0)) rn p (-1)) rn h (nI p) (nI p) 1)
        refine v_aload_n X (dk D_Ce_add 67 rfl) rfl ?_
        refine v_dup X (dk D_Ce_add 68 rfl) rfl ?_
        refine v_getI X (dk D_Ce_add 69 rfl) F_Ce_30 rfl hkc hac4 ?_
        refine v_iconst (v := 1) X (dk D_Ce_add 70 rfl) (by decide) ?_
        refine v_iadd X (dk D_Ce_add 71 rfl) ?_
        refine v_putI X (dk D_Ce_add 72 rfl) F_Ce_30 CK_Ce rfl hkc hac4 rfl rfl ?_
        refine v_iinc (v := nI (j + 1)) (lb := [some (.ref c), some (.ref h), some (.ref b), some (.int (nI st)), some (.int (nI k)), some (.int (nI (j + 1))), some (.int (nI p))]) X (dk D_Ce_add 73 rfl) rfl (nI_1 j) (by decide) rfl ?_
        refine v_goto (tgt := 20) X (dk D_Ce_add 74 rfl) (by decide) ?_
        exact v_weak (la := [some (.ref c), some (.ref h), some (.ref b), some (.int (nI st)), some (.int (nI k)), some (.int (nI (j + 1))), none]) ⟨rfl, rfl, rfl, rfl, rfl, rfl, trivial⟩ (ih (j + 1) _ (ps ++ [p]) _ _ (by omega) (hs.tr f1 (fun _ z => z) (fun _ z => z)) f2 (by simp [hpl]) f3 f4)
      | nil =>
        have hfree : gI u c 3 = -1 := w3
        obtain ⟨p, hpp⟩ : ∃ p, p = fr2 := ⟨_, rfl⟩
        have hfr : gI u c 2 = nI p := by rw [hpp]; exact hW.2.2.2.2.1
        have hpN : p < N := by simp only [List.length_nil] at w6; omega
        have z0 : sm u (xI u c 2 (nI (p + 1))) [c] := (sm.rf u [c]).xI (by simp)
        have hB1 : RB (xI u c 2 (nI (p + 1))) b r n ys ov := (hB.sm hs hbS hrS).sm z0 (by simp [hbc]) (by simp [hrc])
        have z3 : sm u (xI (xI (xI u c 2 (nI (p + 1))) rb p (ys.getD (st + j) 0)) rn p (-1)) [c, rb, rn] := ((z0.mono (by simp)).xI (by simp)).xI (by simp)
        have hC3 := hCu.sm z3
        have hH3 := hCHu.1.sm z3
        have hl3 : gI (xI (xI (xI u c 2 (nI (p + 1))) rb p (ys.getD (st + j) 0)) rn p (-1)) h 1 = -1 ∨ ∃ x, x < N ∧ gI (xI (xI (xI u c 2 (nI (p + 1))) rb p (ys.getD (st + j) 0)) rn p (-1)) h 1 = nI x := by
          rw [z3.I (by simp [jhc, jhb, jhn])]
          exact hCHu.last (fun x hx => by have := ((hW.2.2.2.2.2.2.2.2.2.2.2.1 h hh).2 x hx).1; omega)
        have hac4 : c < gN (hangM (xI (xI (xI u c 2 (nI (p + 1))) rb p (ys.getD (st + j) 0)) rn p (-1)) rn h (nI p) (nI p) 1) := by rw [(hangM_facts jhn).1.N]; exact hacu
        obtain ⟨f1, f2, f3, f4⟩ := addM_facts (y := ys.getD (st + j) 0) (fl2 := []) (fr2 := p + 1) hW hh z0 hpN (Or.inr ⟨rfl, rfl, hpp, by omega, by omega, gI_nk (by decide)⟩) (gI_eq _ _ _ _) (gI_nk (by decide))
        rw [va_up_eq, bx_uu] at f2
        rw [List.append_assoc] at f2
        rw [va_up_eq, List.append_assoc, hby0, List.append_assoc, ← htk] at f3
        have f4 : ∀ i ∈ S, i ≠ h → bys (addM (xI u c 2 (nI (p + 1))) c rb rn h p (ys.getD (st + j) 0)) rb (ch i) = bys g rb (ch i) := fun i hi hih => by have := f4 i hi hih; rw [va_up_ne' hih] at this; exact this.trans (hbo i hi hih)
        refine v_iload X (dk D_Ce_add 12 rfl) rfl ?_
        refine v_iload X (dk D_Ce_add 13 rfl) rfl ?_
        refine v_icmp_ge (tgt := 139) X (dk D_Ce_add 14 rfl) (by decide) (fun c24 => absurd c24 (nI_ge (by omega) (by omega))) (fun _ => ?_)
        refine v_aload_n X (dk D_Ce_add 15 rfl) rfl ?_
        refine v_getI X (dk D_Ce_add 16 rfl) F_Ce_7 rfl hkc hacu ?_
        refine v_if_lt (tgt := 41) X (dk D_Ce_add 17 rfl) (by decide) (fun _ => ?_) (fun c31 => absurd (by rw [hfree]; decide) c31)
        refine v_aload_n X (dk D_Ce_add 21 rfl) rfl ?_
        refine v_getI X (dk D_Ce_add 22 rfl) F_Ce_27 rfl hkc hacu ?_
        rw [hfr]
        refine v_istore (lb := [some (.ref c), some (.ref h), some (.ref b), some (.int (nI st)), some (.int (nI k)), some (.int (nI j)), some (.int (nI p))]) X (dk D_Ce_add 23 rfl) (by decide) rfl ?_
        refine v_aload_n X (dk D_Ce_add 24 rfl) rfl ?_
        refine v_iload X (dk D_Ce_add 25 rfl) rfl ?_
        refine v_invV (As := [.int (nI p)]) (st := []) X (c_Ce_isCell l q (i := nI p) (g := u) hCu) (dk D_Ce_add 26 rfl) G_Ce_33 K_Ce_isCell V_Ce_isCell hkc rfl hacu rfl rfl (Nat.le_of_ble_eq_true rfl) (Nat.le_of_ble_eq_true rfl) (Nat.le_of_ble_eq_true rfl) (Nat.le_of_ble_eq_true rfl) (Nat.le_of_ble_eq_true rfl) ?_
        rintro v w ⟨rfl, hw⟩
        rw [hw, show (if ¬ nI p < 0 ∧ ¬ nI N ≤ nI p then (1 : Int32) else 0) = 1 from if_pos ⟨nI_pos (by omega), nI_ge hpN (by omega)⟩]
        show Vv _ _ _ _ _ _ _ _ _ _ _ _ _ _ _ [.int 1] (0, 0, u)
        refine v_if_ne (tgt := 58) X (dk D_Ce_add 27 rfl) (by decide) (fun _ => ?_) (fun c53 => absurd c53 (by decide))
        refine v_aload_n X (dk D_Ce_add 30 rfl) rfl ?_
        refine v_getI X (dk D_Ce_add 31 rfl) F_Ce_7 rfl hkc hacu ?_
        refine v_if_lt (tgt := 79) X (dk D_Ce_add 32 rfl) (by decide) (fun _ => ?_) (fun c62 => absurd (by rw [hfree]; decide) c62)
        refine v_aload_n X (dk D_Ce_add 40 rfl) rfl ?_
        refine v_dup X (dk D_Ce_add 41 rfl) rfl ?_
        refine v_getI X (dk D_Ce_add 42 rfl) F_Ce_27 rfl hkc hacu ?_
        refine v_iconst (v := 1) X (dk D_Ce_add 43 rfl) (by decide) ?_
        refine v_iadd X (dk D_Ce_add 44 rfl) ?_
        rw [hfr, nI_1]
        refine v_putI X (dk D_Ce_add 45 rfl) F_Ce_27 CK_Ce rfl hkc hacu rfl rfl ?_
        refine v_aload_n X (dk D_Ce_add 46 rfl) rfl ?_
        refine v_getF X (dk D_Ce_add 47 rfl) F_Ce_19 rfl hkc hacu hFb ?_
        refine v_iload X (dk D_Ce_add 48 rfl) rfl ?_
        refine v_aload_n X (dk D_Ce_add 49 rfl) rfl ?_
        refine v_iload_n X (dk D_Ce_add 50 rfl) rfl ?_
        refine v_iload X (dk D_Ce_add 51 rfl) rfl ?_
        refine v_iadd X (dk D_Ce_add 52 rfl) ?_
        rw [nI_add]
        refine v_invV (As := [.int (nI (st + j))]) (st := [.int (nI p), .ref rb]) X (k_at l q (i := nI (st + j)) hB1) (dk D_Ce_add 53 rfl) G_Ce_37 K_By_at V_By_at hkB rfl hB1.1.2.1 rfl rfl (Nat.le_of_ble_eq_true rfl) (Nat.le_of_ble_eq_true rfl) (Nat.le_of_ble_eq_true rfl) (Nat.le_of_ble_eq_true rfl) (Nat.le_of_ble_eq_true rfl) ?_
        rintro v w ⟨rfl, hw⟩
        rw [hw]
        show Vv _ _ _ _ _ _ _ _ _ _ _ _ _ _ _ [.int (atL ys (nI (st + j))), .int (nI p), .ref rb] (0, 0, (xI u c 2 (nI (p + 1))))
        refine v_i2b X (dk D_Ce_add 54 rfl) rfl ?_
        refine v_bast X (dk D_Ce_add 55 rfl) hkb habu (vp_in_nI hpN (by omega)) rfl ?_
        refine v_aload_n X (dk D_Ce_add 56 rfl) rfl ?_
        refine v_getF X (dk D_Ce_add 57 rfl) F_Ce_23 rfl hkc hacu hFn ?_
        refine v_iload X (dk D_Ce_add 58 rfl) rfl ?_
        refine v_iconst (v := -1) X (dk D_Ce_add 59 rfl) (by decide) ?_
        refine v_iast X (dk D_Ce_add 60 rfl) hkn hanu (vp_in_nI hpN (by omega)) ?_
        refine v_aload_n X (dk D_Ce_add 61 rfl) rfl ?_
        refine v_aload_n X (dk D_Ce_add 62 rfl) rfl ?_
        refine v_iload X (dk D_Ce_add 63 rfl) rfl ?_
        refine v_iload X (dk D_Ce_add 64 rfl) rfl ?_
        refine v_iconst (v := 1) X (dk D_Ce_add 65 rfl) (by decide) ?_
        rw [hby, nI_clamp (show p < 2147483648 by omega)]
        refine v_invV (As := [.ref h, .int (nI p), .int (nI p), .int 1]) (st := []) X (c_Ce_hangM l q (x := nI p) (y := nI p) (z := 1) (hC3) (hH3) hl3) (dk D_Ce_add 66 rfl) G_Ce_43 K_Ce_hang V_Ce_hang hkc rfl hC3.2.1 rfl rfl (Nat.le_of_ble_eq_true rfl) (Nat.le_of_ble_eq_true rfl) (Nat.le_of_ble_eq_true rfl) (Nat.le_of_ble_eq_true rfl) (Nat.le_of_ble_eq_true rfl) ?_
        rintro v w ⟨rfl, hw⟩
        rw [hw]
        show Vv _ _ _ _ _ _ _ _ _ _ _ _ _ _ _ [] (0, 0, hangM (xI (xI (xI u c 2 (nI (p + 1))) rb p (ys.getD (st + j) 0)) rn p (-1)) rn h (nI p) (nI p) 1)
        refine v_aload_n X (dk D_Ce_add 67 rfl) rfl ?_
        refine v_dup X (dk D_Ce_add 68 rfl) rfl ?_
        refine v_getI X (dk D_Ce_add 69 rfl) F_Ce_30 rfl hkc hac4 ?_
        refine v_iconst (v := 1) X (dk D_Ce_add 70 rfl) (by decide) ?_
        refine v_iadd X (dk D_Ce_add 71 rfl) ?_
        refine v_putI X (dk D_Ce_add 72 rfl) F_Ce_30 CK_Ce rfl hkc hac4 rfl rfl ?_
        refine v_iinc (v := nI (j + 1)) (lb := [some (.ref c), some (.ref h), some (.ref b), some (.int (nI st)), some (.int (nI k)), some (.int (nI (j + 1))), some (.int (nI p))]) X (dk D_Ce_add 73 rfl) rfl (nI_1 j) (by decide) rfl ?_
        refine v_goto (tgt := 20) X (dk D_Ce_add 74 rfl) (by decide) ?_
        exact v_weak (la := [some (.ref c), some (.ref h), some (.ref b), some (.int (nI st)), some (.int (nI k)), some (.int (nI (j + 1))), none]) ⟨rfl, rfl, rfl, rfl, rfl, rfl, trivial⟩ (ih (j + 1) _ (ps ++ [p]) _ _ (by omega) (hs.tr f1 (fun _ z => z) (fun _ z => z)) f2 (by simp [hpl]) f3 f4)
  refine v_iload X (dk D_Ce_add 0 rfl) rfl ?_
  refine v_aload_n X (dk D_Ce_add 1 rfl) rfl ?_
  refine v_getF X (dk D_Ce_add 2 rfl) F_Ce_19 rfl hkc hac hFb ?_
  refine v_alen (v := nI _) X (dk D_Ce_add 3 rfl) hkb rfl hab rfl ?_
  refine v_aload_n X (dk D_Ce_add 4 rfl) rfl ?_
  refine v_getI X (dk D_Ce_add 5 rfl) F_Ce_30 rfl hkc hac ?_
  refine v_isub X (dk D_Ce_add 6 rfl) ?_
  rw [hused, pk_sub htN]
  refine v_icmp_le (tgt := 17) X (dk D_Ce_add 7 rfl) (by decide) (fun c12 => ?_) (fun c12 => ?_)
  · have hroom : tot S ch + k ≤ N := by rcases Nat.lt_or_ge (N - tot S ch) k with z | z; exact absurd c12 (nI_ge z (by omega)); omega
    refine v_iconst (v := nI 0) X (dk D_Ce_add 10 rfl) (by decide) ?_
    refine v_istore (lb := [some (.ref c), some (.ref h), some (.ref b), some (.int (nI st)), some (.int (nI k)), some (.int (nI 0)), none]) X (dk D_Ce_add 11 rfl) (by decide) rfl ?_
    exact v_weak (la := [some (.ref c), some (.ref h), some (.ref b), some (.int (nI st)), some (.int (nI k)), some (.int (nI 0)), none]) ⟨rfl, rfl, rfl, rfl, rfl, rfl, trivial⟩ (loop hroom k 0 g [] fl fr (by omega) (sm.rf g _) (by rw [List.append_nil, vu_self]; exact hW0) rfl (by simp) (fun _ _ _ => rfl))
  · have hroom : ¬ tot S ch + k ≤ N := fun z => c12 (nI_le (by omega) (by omega))
    refine v_iconst (v := 0) X (dk D_Ce_add 8 rfl) (by decide) ?_
    exact v_zret X hlk hrt rfl (dk D_Ce_add 9 rfl) ⟨by rw [if_neg hroom], by rw [if_neg hroom]⟩
end
section
/-! Cells.join, Cells.release -/
theorem loosen_facts (g : mu_T) (k : Nat) : sm g (xI (xI (xI g k 0 (-1)) k 1 (-1)) k 2 0) [k] ∧ gI (xI (xI (xI g k 0 (-1)) k 1 (-1)) k 2 0) k 0 = -1 ∧ gI (xI (xI (xI g k 0 (-1)) k 1 (-1)) k 2 0) k 1 = -1 ∧ gI (xI (xI (xI g k 0 (-1)) k 1 (-1)) k 2 0) k 2 = 0 :=
  ⟨(((sm.rf g _).xI (by simp)).xI (by simp)).xI (by simp), by rw [gI_nk (by decide), gI_nk (by decide), gI_eq], by rw [gI_nk (by decide), gI_eq], gI_eq _ _ _ _⟩
theorem CH.nil {g : mu_T} {rn h : Nat} (i : isH g h) (h0 : gI g h 0 = -1) (h1 : gI g h 1 = -1) (h2 : gI g h 2 = 0) : CH g rn h [] := ⟨i, h2, fun _ => ⟨h0, h1⟩, fun qs p e => absurd e (by simp)⟩
theorem nodup_app {a b : List Nat} (ha : a.Nodup) (hb : b.Nodup) (h : ∀ x, x ∈ a → x ∉ b) : (a ++ b).Nodup := List.nodup_append.mpr ⟨ha, hb, fun x hx y hy e => h x hx (by rw [e]; exact hy)⟩
/-- chain k behind chain h -/
theorem CW.join {g u : mu_T} {c rb rn N h k fr : Nat} {S fl : List Nat} {ch : Nat → List Nat} (w : CW g c rb rn N S ch fl fr) (hh : h ∈ S) (hk : k ∈ S) (hhk : h ≠ k) (hne : ch k ≠ []) (z : sm g u [rn, h, k])
    (k0 : gI u k 0 = -1) (k1 : gI u k 1 = -1) (k2 : gI u k 2 = 0) (l1 : gI u h 1 = gI g k 1) (l2 : gI u h 2 = gI g h 2 + gI g k 2) (l0 : gI u h 0 = if gI g h 1 < 0 then gI g k 0 else gI g h 0)
    (hn : ∀ x, gI u rn x = if ¬ gI g h 1 < 0 ∧ x = (gI g h 1).toNatClampNeg then gI g k 0 else gI g rn x) : CW u c rb rn N S (va_up (va_up ch h (ch h ++ ch k)) k []) fl fr := by
  obtain ⟨i1, i2, i3, i4, i5⟩ := w.ids
  obtain ⟨hC, hS, hcS, hch, w2, w3, w4, w5, w6, w7, w8, w9, w10⟩ := w
  have hN := hC.2.2.2.2.2.2.2.2
  have jc : c ∉ [rn, h, k] := by
    simp only [List.mem_cons, List.not_mem_nil, or_false]
    rintro (e | e | e)
    · exact i4 e
    · exact hcS (by rw [e]; exact hh)
    · exact hcS (by rw [e]; exact hk)
  have hlast : ∀ j ∈ S, ∀ qs q, ch j = qs ++ [q] → gI g j 1 = nI q ∧ q < N := fun j hj qs q e => ⟨((hch j hj).2.2.2 qs q e).1, by have := ((w9 j hj).2 q (by rw [e]; simp)).1; omega⟩
  have hkeep : ∀ x, (∀ qs q, ch h = qs ++ [q] → x ≠ q) → gI u rn x = gI g rn x := fun x hx => by
    rw [hn, if_neg]
    rintro ⟨a1, a2⟩
    rcases snoc_or (ch h) with e | ⟨qs, q, e⟩
    · exact a1 (by rw [((hch h hh).2.2.1 e).2]; decide)
    · rw [(hlast h hh qs q e).1, nI_clamp (by have := (hlast h hh qs q e).2; omega)] at a2
      exact hx qs q e a2
  have hnoth : ∀ j ∈ S, j ≠ h → ∀ x ∈ ch j, gI u rn x = gI g rn x := fun j hj hjh x hx => hkeep x (fun qs q e e2 => hjh (w10 j hj h hh x hx (by rw [e, e2]; simp)))
  have hup : ∀ j, va_up (va_up ch h (ch h ++ ch k)) k [] j = if j = k then [] else if j = h then ch h ++ ch k else ch j := fun j => rfl
  have htot : tot S (va_up (va_up ch h (ch h ++ ch k)) k []) = tot S ch := by
    have t1 := tot_up (ch := ch) (x := ch h ++ ch k) hS hh
    have t2 := tot_up (ch := va_up ch h (ch h ++ ch k)) (x := []) hS hk
    rw [va_up_ne' (Ne.symm hhk), List.length_nil] at t2
    rw [List.length_append] at t1
    omega
  refine ⟨hC.sm z, hS, hcS, fun j hj => ?_, by rw [z.I jc]; exact w2, ?_, by rw [z.I jc, htot]; exact w4, w5, by rw [htot]; exact w6, w7, w8, fun j hj => ?_, fun j hj i hi x hx hy => ?_⟩
  · rw [hup]
    by_cases hjk : j = k
    · subst hjk
      rw [if_pos rfl]
      exact CH.nil ((hch j hj).1.sm z) k0 k1 k2
    · rw [if_neg hjk]
      by_cases hjh : j = h
      · subst hjh
        rw [if_pos rfl]
        obtain ⟨y1, y2, y3, y4⟩ := hch j hj
        obtain ⟨x1, x2, x3, x4⟩ := hch k hk
        rcases snoc_or (ch k) with e | ⟨us, v, e⟩
        · exact absurd e hne
        obtain ⟨x5, d, x6⟩ := x4 us v e
        refine ⟨y1.sm z, by rw [l2, y2, x2, nI_add, List.length_append], fun e2 => absurd (List.append_eq_nil_iff.mp e2).2 hne, fun qs p hqp => ?_⟩
        have hp : p = v := by
          rw [e, ← List.append_assoc] at hqp
          exact (snoc_inj hqp).2.symm
        refine ⟨by rw [l1, x5, hp], d, ?_⟩
        have x7 : lkf (gI u rn) (ch k) d (gI g k 0) := lkf_same (fun x hx => hnoth k hk (Ne.symm hhk) x hx) x6
        rcases snoc_or (ch j) with e2 | ⟨ws, t, e2⟩
        · rw [l0, if_pos (by rw [(y3 e2).2]; decide), e2, List.nil_append]
          exact x7
        · obtain ⟨y5, d2, y6⟩ := y4 ws t e2
          have ht := (hlast j hj ws t e2).2
          rw [l0, if_neg (by rw [y5]; exact nI_pos (by omega))]
          refine lkf_app (d := gI g k 0) ?_ x7
          have hv : t ∉ ws := by
            have := (w9 j hj).1
            rw [e2] at this
            exact fun hv => (List.nodup_append.mp this).2.2 t hv t (by simp) rfl
          rw [e2] at y6 ⊢
          refine lkf_end y6 hv (fun x hx => hkeep x (fun qs q e3 e4 => ?_)) (by rw [hn, if_pos ⟨by rw [y5]; exact nI_pos (by omega), by rw [y5, nI_clamp (by omega)]⟩])
          rw [e2] at e3
          exact hv (by rw [(snoc_inj e3).2, ← e4]; exact hx)
      · rw [if_neg hjh]
        refine (hch j hj).keep z ?_ (fun x hx => hnoth j hj hjh x hx)
        simp only [List.mem_cons, List.not_mem_nil, or_false]
        rintro (e | e | e)
        · exact i2 (by rw [← e]; exact hj)
        · exact hjh e
        · exact hjk e
  · rw [z.I jc]
    refine lkf_same (fun x hx => hkeep x (fun qs q e e2 => ?_)) w3
    exact ((w9 h hh).2 q (by rw [e]; simp)).2 (by rw [← e2]; exact hx)
  · rw [hup]
    by_cases hjk : j = k
    · rw [if_pos hjk]; exact ⟨List.nodup_nil, fun x hx => absurd hx List.not_mem_nil⟩
    · rw [if_neg hjk]
      by_cases hjh : j = h
      · rw [if_pos hjh]
        refine ⟨nodup_app (w9 h hh).1 (w9 k hk).1 (fun x hx hy => hhk (w10 h hh k hk x hx hy)), fun x hx => ?_⟩
        rcases List.mem_append.mp hx with hx | hx
        · exact (w9 h hh).2 x hx
        · exact (w9 k hk).2 x hx
      · rw [if_neg hjh]; exact w9 j hj
  · have key : ∀ j ∈ S, x ∈ va_up (va_up ch h (ch h ++ ch k)) k [] j → j ≠ k ∧ (x ∈ ch j ∨ (j = h ∧ x ∈ ch k)) := fun j hj hx => by
      rw [hup] at hx
      by_cases hjk : j = k
      · rw [if_pos hjk] at hx; exact absurd hx List.not_mem_nil
      · rw [if_neg hjk] at hx
        refine ⟨hjk, ?_⟩
        by_cases hjh : j = h
        · rw [if_pos hjh] at hx
          rcases List.mem_append.mp hx with hx | hx
          · exact Or.inl (by rw [hjh]; exact hx)
          · exact Or.inr ⟨hjh, hx⟩
        · rw [if_neg hjh] at hx; exact Or.inl hx
    obtain ⟨a1, a2⟩ := key j hj hx
    obtain ⟨b1, b2⟩ := key i hi hy
    rcases a2 with a2 | ⟨a2, a3⟩ <;> rcases b2 with b2 | ⟨b2, b3⟩
    · exact w10 j hj i hi x a2 b2
    · exact absurd (w10 j hj k hk x a2 b3) a1
    · exact absurd (w10 i hi k hk x b2 a3) b1
    · rw [a2, b2]
/-- the cells of chain h are free -/
theorem CW.free {g u : mu_T} {c rb rn N h fr : Nat} {S fl : List Nat} {ch : Nat → List Nat} (w : CW g c rb rn N S ch fl fr) (hh : h ∈ S) (hne : ch h ≠ []) (z : sm g u [c, rn, h])
    (k0 : gI u h 0 = -1) (k1 : gI u h 1 = -1) (k2 : gI u h 2 = 0) (e2 : gI u c 2 = gI g c 2) (e3 : gI u c 3 = gI g h 0) (e4 : gI u c 4 = gI g c 4 - gI g h 2) (hn : ∀ x, gI u rn x = if x = (gI g h 1).toNatClampNeg then gI g c 3 else gI g rn x) : CW u c rb rn N S (va_up ch h []) (ch h ++ fl) fr := by
  obtain ⟨i1, i2, i3, i4, i5⟩ := w.ids
  obtain ⟨hC, hS, hcS, hch, w2, w3, w4, w5, w6, w7, w8, w9, w10⟩ := w
  have hN := hC.2.2.2.2.2.2.2.2
  rcases snoc_or (ch h) with e | ⟨us, v, e⟩
  · exact absurd e hne
  obtain ⟨y1, y2, y3, y4⟩ := hch h hh
  obtain ⟨y5, d, y6⟩ := y4 us v e
  have hv : v < N := by have := ((w9 h hh).2 v (by rw [e]; simp)).1; omega
  have hn' : ∀ x, gI u rn x = if x = v then gI g c 3 else gI g rn x := fun x => by rw [hn, y5, nI_clamp (by omega)]
  have hkeep : ∀ x, x ≠ v → gI u rn x = gI g rn x := fun x hx => by rw [hn', if_neg hx]
  have hvin : v ∈ ch h := by rw [e]; simp
  have htot : tot S (va_up ch h []) + (ch h).length = tot S ch := by
    have t1 := tot_up (ch := ch) (x := []) hS hh
    rw [List.length_nil] at t1
    omega
  refine ⟨hC.sm z, hS, hcS, fun j hj => ?_, by rw [e2]; exact w2, ?_, ?_, w5, by rw [List.length_append]; omega, fun p hp => ?_, nodup_app (w9 h hh).1 w8 (fun x hx => ((w9 h hh).2 x hx).2), fun j hj => ?_, fun j hj i hi x hx hy => ?_⟩
  · by_cases hjh : j = h
    · subst hjh
      rw [va_up_eq]
      exact CH.nil (y1.sm z) k0 k1 k2
    · rw [va_up_ne' hjh]
      refine (hch j hj).keep z ?_ (fun x hx => hkeep x (fun e2 => hjh (w10 j hj h hh x hx (by rw [e2]; exact hvin))))
      simp only [List.mem_cons, List.not_mem_nil, or_false]
      rintro (e | e | e)
      · exact hcS (by rw [← e]; exact hj)
      · exact i2 (by rw [← e]; exact hj)
      · exact hjh e
  · rw [e3]
    have hv2 : v ∉ us := by
      have := (w9 h hh).1
      rw [e] at this
      exact fun hv => (List.nodup_append.mp this).2.2 v hv v (by simp) rfl
    refine lkf_app (d := gI g c 3) ?_ (lkf_same (fun x hx => hkeep x (fun e2 => ((w9 h hh).2 v hvin).2 (by rw [← e2]; exact hx))) w3)
    rw [e] at y6 ⊢
    exact lkf_end y6 hv2 (fun x hx => hkeep x (fun e2 => hv2 (by rw [← e2]; exact hx))) (by rw [hn', if_pos rfl])
  · rw [e4, w4, y2, pk_sub (by omega)]
    congr 1
    omega
  · rcases List.mem_append.mp hp with hp | hp
    · exact ((w9 h hh).2 p hp).1
    · exact w7 p hp
  · by_cases hjh : j = h
    · subst hjh
      rw [va_up_eq]
      exact ⟨List.nodup_nil, fun x hx => absurd hx List.not_mem_nil⟩
    · rw [va_up_ne' hjh]
      refine ⟨(w9 j hj).1, fun x hx => ⟨((w9 j hj).2 x hx).1, fun e2 => ?_⟩⟩
      rcases List.mem_append.mp e2 with e2 | e2
      · exact hjh (w10 j hj h hh x hx e2)
      · exact ((w9 j hj).2 x hx).2 e2
  · have key : ∀ j ∈ S, x ∈ va_up ch h [] j → x ∈ ch j := fun j hj hx => by
      by_cases hjh : j = h
      · subst hjh; rw [va_up_eq] at hx; exact absurd hx List.not_mem_nil
      · rw [va_up_ne' hjh] at hx; exact hx
    exact w10 j hj i hi x (key j hj hx) (key i hi hy)
theorem cnt0 {g : mu_T} {c rb rn N k fr : Nat} {S fl : List Nat} {ch : Nat → List Nat} (w : CW g c rb rn N S ch fl fr) (hk : k ∈ S) (h : gI g k 2 ≤ 0) : ch k = [] := by
  obtain ⟨hC, hS, hcS, hch, w2, w3, w4, w5, w6, w7, w8, w9, w10⟩ := w
  have hN := hC.2.2.2.2.2.2.2.2
  rw [(hch k hk).2.1] at h
  rcases Nat.eq_zero_or_pos (ch k).length with z | z
  · exact List.length_eq_zero_iff.mp z
  · have t1 := tot_up (ch := ch) (x := []) hS hk
    rw [List.length_nil] at t1
    exact absurd h (nI_nle z (by omega))
theorem cnt1 {g : mu_T} {c rb rn N k fr : Nat} {S fl : List Nat} {ch : Nat → List Nat} (w : CW g c rb rn N S ch fl fr) (hk : k ∈ S) (h : ¬ gI g k 2 ≤ 0) : ch k ≠ [] := fun e => h (by
  rw [(w.2.2.2.1 k hk).2.1, e]; decide)
theorem up_nil {ch : Nat → List Nat} {h k : Nat} (hhk : h ≠ k) (e : ch k = []) : va_up (va_up ch h (ch h ++ ch k)) k [] = ch := by
  funext j
  by_cases hj : j = k
  · rw [hj, va_up_eq, e]
  · rw [va_up_ne' hj, e, List.append_nil]
    by_cases hh : j = h
    · rw [hh, va_up_eq]
    · rw [va_up_ne' hh]
set_option maxHeartbeats 4000000 in
set_option maxRecDepth 100000 in
theorem k_Ce_join (l : Launch) (q : ev_T) {c rb rn N h k fr : Nat} {S fl : List Nat} {ch : Nat → List Nat} {g : mu_T} (hW : CW g c rb rn N S ch fl fr) (hh : h ∈ S) (hk : k ∈ S) (hhk : h ≠ k) : Ctr l q M_Ce_join 1 [.ref c, .ref h, .ref k] (0, 0, g) (fun v w => v = none ∧ sm g w.2.2 [rn, h, k] ∧ CW w.2.2 c rb rn N S (va_up (va_up ch h (ch h ++ ch k)) k []) fl fr) := by
  have hCg := hW.1
  obtain ⟨hkc, hac, hFb, hFn, hkb, hab, hkn, han, hN⟩ := id hCg
  have hCHh := hW.2.2.2.1 h hh
  have hCHk := hW.2.2.2.1 k hk
  have hHh := hCHh.1
  obtain ⟨hkh, hah⟩ := id hHh
  obtain ⟨hkk, hak⟩ := id hCHk.1
  obtain ⟨i1, i2, i3, i4, i5⟩ := hW.ids
  have jhn : h ≠ rn := fun e => i2 (by rw [← e]; exact hh)
  have jkn : k ≠ rn := fun e => i2 (by rw [← e]; exact hk)
  have w5 := hW.2.2.2.2.2.2.2.1
  have hl3 := hCHh.last (N := N) (fun x hx => by have := ((hW.2.2.2.2.2.2.2.2.2.2.2.1 h hh).2 x hx).1; omega)
  obtain ⟨f1, f2, f3, f4, f5⟩ := hangM_facts (g := g) (x := gI g k 0) (y := gI g k 1) (z := gI g k 2) jhn
  have hHk2 : isH (hangM g rn h (gI g k 0) (gI g k 1) (gI g k 2)) k := hCHk.1.sm f1
  obtain ⟨g1, g2, g3, g4⟩ := loosen_facts (hangM g rn h (gI g k 0) (gI g k 1) (gI g k 2)) k
  have z : sm g (xI (xI (xI (hangM g rn h (gI g k 0) (gI g k 1) (gI g k 2)) k 0 (-1)) k 1 (-1)) k 2 0) [rn, h, k] := f1.tr g1 (by simp) (by simp)
  have hJ : ch k ≠ [] → (none : Option Value) = none ∧ sm g (xI (xI (xI (hangM g rn h (gI g k 0) (gI g k 1) (gI g k 2)) k 0 (-1)) k 1 (-1)) k 2 0) [rn, h, k] ∧ CW (xI (xI (xI (hangM g rn h (gI g k 0) (gI g k 1) (gI g k 2)) k 0 (-1)) k 1 (-1)) k 2 0) c rb rn N S (va_up (va_up ch h (ch h ++ ch k)) k []) fl fr := fun hne =>
    ⟨rfl, z, hW.join hh hk hhk hne z g2 g3 g4 (by rw [g1.I (by simp [hhk]), f2]) (by rw [g1.I (by simp [hhk]), f3]) (by rw [g1.I (by simp [hhk]), f4]) (fun x => by rw [g1.I (by simp [Ne.symm jkn]), f5])⟩
  refine Ctr.mk (lb := [some (.ref c), some (.ref h), some (.ref k)]) (by decide +kernel) (Nat.le_of_ble_eq_true rfl) rfl rfl ?_
  intro pp ee ss mm aa bb mt cd X hrt hlk hnm
  refine v_aload_n X (dk D_Ce_join 0 rfl) rfl ?_
  refine v_getI X (dk D_Ce_join 1 rfl) F_Ce_55 rfl hkk hak ?_
  refine v_if_le (tgt := 28) X (dk D_Ce_join 2 rfl) (by decide) (fun c4 => ?_) (fun c4 => ?_)
  · exact v_vret X hlk hrt (dk D_Ce_join 14 rfl) ⟨rfl, sm.rf _ _, by rw [show va_up (va_up ch h (ch h ++ ch k)) k [] = ch from up_nil hhk (cnt0 hW hk c4)]; exact hW⟩
  · refine v_aload_n X (dk D_Ce_join 3 rfl) rfl ?_
    refine v_aload_n X (dk D_Ce_join 4 rfl) rfl ?_
    refine v_aload_n X (dk D_Ce_join 5 rfl) rfl ?_
    refine v_getI X (dk D_Ce_join 6 rfl) F_Ce_52 rfl hkk hak ?_
    refine v_aload_n X (dk D_Ce_join 7 rfl) rfl ?_
    refine v_getI X (dk D_Ce_join 8 rfl) F_Ce_47 rfl hkk hak ?_
    refine v_aload_n X (dk D_Ce_join 9 rfl) rfl ?_
    refine v_getI X (dk D_Ce_join 10 rfl) F_Ce_55 rfl hkk hak ?_
    refine v_invV (As := [.ref h, .int (gI g k 0), .int (gI g k 1), .int (gI g k 2)]) (st := []) X (c_Ce_hangM l q (x := gI g k 0) (y := gI g k 1) (z := gI g k 2) hCg hHh hl3) (dk D_Ce_join 11 rfl) G_Ce_43 K_Ce_hang V_Ce_hang hkc rfl hac rfl rfl (Nat.le_of_ble_eq_true rfl) (Nat.le_of_ble_eq_true rfl) (Nat.le_of_ble_eq_true rfl) (Nat.le_of_ble_eq_true rfl) (Nat.le_of_ble_eq_true rfl) ?_
    rintro v w ⟨rfl, hw⟩
    rw [hw]
    show Vv _ _ _ _ _ _ _ _ _ _ _ _ _ _ _ [] (0, 0, hangM g rn h (gI g k 0) (gI g k 1) (gI g k 2))
    refine v_aload_n X (dk D_Ce_join 12 rfl) rfl ?_
    refine v_invV (As := []) (st := []) X (c_Ch_loosen l q hHk2) (dk D_Ce_join 13 rfl) G_Ce_58 K_Ch_loosen V_Ch_loosen hkk rfl hHk2.2 rfl rfl (Nat.le_of_ble_eq_true rfl) (Nat.le_of_ble_eq_true rfl) (Nat.le_of_ble_eq_true rfl) (Nat.le_of_ble_eq_true rfl) (Nat.le_of_ble_eq_true rfl) ?_
    rintro v w ⟨rfl, hw⟩
    rw [hw]
    exact v_vret X hlk hrt (dk D_Ce_join 14 rfl) (hJ (cnt1 hW hk c4))
theorem CW.same0 {g u : mu_T} {c rb rn N h fr : Nat} {S fl : List Nat} {ch : Nat → List Nat} (w : CW g c rb rn N S ch fl fr) (hh : h ∈ S) (e : ch h = []) (z : sm g u [h]) (k0 : gI u h 0 = -1) (k1 : gI u h 1 = -1) (k2 : gI u h 2 = 0) : CW u c rb rn N S ch fl fr := by
  obtain ⟨i1, i2, i3, i4, i5⟩ := w.ids
  obtain ⟨hC, hS, hcS, hch, w2, w3, w4, w5, w6, w7, w8, w9, w10⟩ := w
  have jc : c ∉ [h] := by simp only [List.mem_singleton]; exact fun x => hcS (by rw [x]; exact hh)
  have jn : rn ∉ [h] := by simp only [List.mem_singleton]; exact fun x => i2 (by rw [x]; exact hh)
  refine ⟨hC.sm z, hS, hcS, fun j hj => ?_, by rw [z.I jc]; exact w2, by rw [z.I jc]; exact lkf_same (fun x _ => z.I jn x) w3, by rw [z.I jc]; exact w4, w5, w6, w7, w8, w9, w10⟩
  by_cases hjh : j = h
  · subst hjh
    rw [e]
    exact CH.nil ((hch j hj).1.sm z) k0 k1 k2
  · exact (hch j hj).keep z (by simp [hjh]) (fun x _ => z.I jn x)
set_option maxHeartbeats 4000000 in
set_option maxRecDepth 100000 in
theorem k_Ce_release (l : Launch) (q : ev_T) {c rb rn N h fr : Nat} {S fl : List Nat} {ch : Nat → List Nat} {g : mu_T} (hW : CW g c rb rn N S ch fl fr) (hh : h ∈ S) : Ctr l q M_Ce_release 1 [.ref c, .ref h] (0, 0, g) (fun v w => v = none ∧ sm g w.2.2 [c, rn, h] ∧ CW w.2.2 c rb rn N S (va_up ch h []) (ch h ++ fl) fr) := by
  have hCg := hW.1
  obtain ⟨hkc, hac, hFb, hFn, hkb, hab, hkn, han, hN⟩ := id hCg
  have hCHh := hW.2.2.2.1 h hh
  have hHh := hCHh.1
  obtain ⟨hkh, hah⟩ := id hHh
  obtain ⟨i1, i2, i3, i4, i5⟩ := hW.ids
  have jhn : h ≠ rn := fun e => i2 (by rw [← e]; exact hh)
  have jhc : h ≠ c := fun e => hW.2.2.1 (by rw [← e]; exact hh)
  have w5 := hW.2.2.2.2.2.2.2.1
  obtain ⟨gX, hgX⟩ : ∃ gX, gX = xI (xI (xI g rn (gI g h 1).toNatClampNeg (gI g c 3)) c 3 (gI g h 0)) c 4 (gI g c 4 - gI g h 2) := ⟨_, rfl⟩
  have z4 : sm g gX [c, rn] := by rw [hgX]; exact (((sm.rf g _).xI (by simp)).xI (by simp)).xI (by simp)
  have hH4 : isH gX h := hHh.sm z4
  refine Ctr.mk (lb := [some (.ref c), some (.ref h)]) (by decide +kernel) (Nat.le_of_ble_eq_true rfl) rfl rfl ?_
  intro pp ee ss mm aa bb mt cd X hrt hlk hnm
  rcases snoc_or (ch h) with e | ⟨us, x0, e⟩
  · have hic : (if ¬ gI g h 1 < 0 ∧ ¬ nI N ≤ gI g h 1 then (1 : Int32) else 0) = 0 := if_neg (fun z => z.1 (by rw [(hCHh.2.2.1 e).2]; decide))
    obtain ⟨g1, g2, g3, g4⟩ := loosen_facts g h
    have hE : CW (xI (xI (xI g h 0 (-1)) h 1 (-1)) h 2 0) c rb rn N S (va_up ch h []) (ch h ++ fl) fr := by
      rw [e, List.nil_append, show va_up ch h [] = ch from by rw [← e]; exact vu_self ch h]
      exact hW.same0 hh e g1 g2 g3 g4
    refine v_aload_n X (dk D_Ce_release 0 rfl) rfl ?_
    refine v_aload_n X (dk D_Ce_release 1 rfl) rfl ?_
    refine v_getI X (dk D_Ce_release 2 rfl) F_Ce_47 rfl hkh hah ?_
    refine v_invV (As := [.int (gI g h 1)]) (st := []) X (c_Ce_isCell l q (i := gI g h 1) hCg) (dk D_Ce_release 3 rfl) G_Ce_33 K_Ce_isCell V_Ce_isCell hkc rfl hac rfl rfl (Nat.le_of_ble_eq_true rfl) (Nat.le_of_ble_eq_true rfl) (Nat.le_of_ble_eq_true rfl) (Nat.le_of_ble_eq_true rfl) (Nat.le_of_ble_eq_true rfl) ?_
    rintro v w ⟨rfl, hw⟩
    rw [hw, show (if ¬ gI g h 1 < 0 ∧ ¬ nI N ≤ gI g h 1 then (1 : Int32) else 0) = 0 from hic]
    show Vv _ _ _ _ _ _ _ _ _ _ _ _ _ _ _ [.int 0] (0, 0, g)
    refine v_if_eq (tgt := 45) X (dk D_Ce_release 4 rfl) (by decide) (fun _ => ?_) (fun c8 => absurd rfl c8)
    refine v_aload_n X (dk D_Ce_release 23 rfl) rfl ?_
    refine v_invV (As := []) (st := []) X (c_Ch_loosen l q hHh) (dk D_Ce_release 24 rfl) G_Ce_58 K_Ch_loosen V_Ch_loosen hkh rfl hHh.2 rfl rfl (Nat.le_of_ble_eq_true rfl) (Nat.le_of_ble_eq_true rfl) (Nat.le_of_ble_eq_true rfl) (Nat.le_of_ble_eq_true rfl) (Nat.le_of_ble_eq_true rfl) ?_
    rintro v w ⟨rfl, hw⟩
    rw [hw]
    exact v_vret X hlk hrt (dk D_Ce_release 25 rfl) ⟨rfl, g1.mono (by simp), hE⟩
  · have hl := ((hCHh.2.2.2) us x0 e).1
    have hvN : x0 < N := by have := ((hW.2.2.2.2.2.2.2.2.2.2.2.1 h hh).2 x0 (by rw [e]; simp)).1; omega
    have hic : (if ¬ gI g h 1 < 0 ∧ ¬ nI N ≤ gI g h 1 then (1 : Int32) else 0) = 1 := if_pos ⟨by rw [hl]; exact nI_pos (by omega), by rw [hl]; exact nI_ge hvN (by omega)⟩
    obtain ⟨g1, g2, g3, g4⟩ := loosen_facts gX h
    have hR : (none : Option Value) = none ∧ sm g (xI (xI (xI gX h 0 (-1)) h 1 (-1)) h 2 0) [c, rn, h] ∧ CW (xI (xI (xI gX h 0 (-1)) h 1 (-1)) h 2 0) c rb rn N S (va_up ch h []) (ch h ++ fl) fr := by
      have z : sm g (xI (xI (xI gX h 0 (-1)) h 1 (-1)) h 2 0) [c, rn, h] := z4.tr g1 (by simp) (by simp)
      refine ⟨rfl, z, hW.free hh (by rw [e]; simp) z g2 g3 g4 ?_ ?_ ?_ (fun x => ?_)⟩
      · rw [g1.I (by simp [Ne.symm jhc]), hgX, gI_nk (by decide), gI_nk (by decide), gI_na i4]
      · rw [g1.I (by simp [Ne.symm jhc]), hgX, gI_nk (by decide), gI_eq]
      · rw [g1.I (by simp [Ne.symm jhc]), hgX, gI_eq]
      · rw [g1.I (by simp [Ne.symm jhn]), hgX, gI_na (Ne.symm i4), gI_na (Ne.symm i4)]
        by_cases hx : x = (gI g h 1).toNatClampNeg
        · rw [if_pos hx, hx, gI_eq]
        · rw [if_neg hx, gI_nk hx]
    refine v_aload_n X (dk D_Ce_release 0 rfl) rfl ?_
    refine v_aload_n X (dk D_Ce_release 1 rfl) rfl ?_
    refine v_getI X (dk D_Ce_release 2 rfl) F_Ce_47 rfl hkh hah ?_
    refine v_invV (As := [.int (gI g h 1)]) (st := []) X (c_Ce_isCell l q (i := gI g h 1) hCg) (dk D_Ce_release 3 rfl) G_Ce_33 K_Ce_isCell V_Ce_isCell hkc rfl hac rfl rfl (Nat.le_of_ble_eq_true rfl) (Nat.le_of_ble_eq_true rfl) (Nat.le_of_ble_eq_true rfl) (Nat.le_of_ble_eq_true rfl) (Nat.le_of_ble_eq_true rfl) ?_
    rintro v w ⟨rfl, hw⟩
    rw [hw, show (if ¬ gI g h 1 < 0 ∧ ¬ nI N ≤ gI g h 1 then (1 : Int32) else 0) = 1 from hic]
    show Vv _ _ _ _ _ _ _ _ _ _ _ _ _ _ _ [.int 1] (0, 0, g)
    refine v_if_eq (tgt := 45) X (dk D_Ce_release 4 rfl) (by decide) (fun c8 => absurd c8 (by decide)) (fun _ => ?_)
    refine v_aload_n X (dk D_Ce_release 5 rfl) rfl ?_
    refine v_getF X (dk D_Ce_release 6 rfl) F_Ce_23 rfl hkc hac hFn ?_
    refine v_aload_n X (dk D_Ce_release 7 rfl) rfl ?_
    refine v_getI X (dk D_Ce_release 8 rfl) F_Ce_47 rfl hkh hah ?_
    refine v_aload_n X (dk D_Ce_release 9 rfl) rfl ?_
    refine v_getI X (dk D_Ce_release 10 rfl) F_Ce_7 rfl hkc hac ?_
    refine v_iast X (dk D_Ce_release 11 rfl) hkn han (by rw [hl]; exact vp_in_nI hvN (by omega)) ?_
    refine v_aload_n X (dk D_Ce_release 12 rfl) rfl ?_
    refine v_aload_n X (dk D_Ce_release 13 rfl) rfl ?_
    refine v_getI X (dk D_Ce_release 14 rfl) F_Ce_52 rfl hkh hah ?_
    refine v_putI X (dk D_Ce_release 15 rfl) F_Ce_7 CK_Ce rfl hkc hac rfl rfl ?_
    refine v_aload_n X (dk D_Ce_release 16 rfl) rfl ?_
    refine v_dup X (dk D_Ce_release 17 rfl) rfl ?_
    refine v_getI X (dk D_Ce_release 18 rfl) F_Ce_30 rfl hkc hac ?_
    refine v_aload_n X (dk D_Ce_release 19 rfl) rfl ?_
    refine v_getI X (dk D_Ce_release 20 rfl) F_Ce_55 rfl hkh hah ?_
    refine v_isub X (dk D_Ce_release 21 rfl) ?_
    refine v_putI X (dk D_Ce_release 22 rfl) F_Ce_30 CK_Ce rfl hkc hac rfl rfl ?_
    rw [show xI (xI (xI g rn (gI g h 1).toNatClampNeg (gI g c 3)) c 3 (gI (xI g rn (gI g h 1).toNatClampNeg (gI g c 3)) h 0)) c 4 (gI (xI (xI g rn (gI g h 1).toNatClampNeg (gI g c 3)) c 3 (gI (xI g rn (gI g h 1).toNatClampNeg (gI g c 3)) h 0)) c 4 - gI (xI (xI g rn (gI g h 1).toNatClampNeg (gI g c 3)) c 3 (gI (xI g rn (gI g h 1).toNatClampNeg (gI g c 3)) h 0)) h 2) = gX from by rw [hgX, gI_na jhn, gI_nk (show (4 : Nat) ≠ 3 by decide), gI_na i4, gI_na jhc, gI_na jhn]]
    refine v_aload_n X (dk D_Ce_release 23 rfl) rfl ?_
    refine v_invV (As := []) (st := []) X (c_Ch_loosen l q hH4) (dk D_Ce_release 24 rfl) G_Ce_58 K_Ch_loosen V_Ch_loosen hkh rfl hH4.2 rfl rfl (Nat.le_of_ble_eq_true rfl) (Nat.le_of_ble_eq_true rfl) (Nat.le_of_ble_eq_true rfl) (Nat.le_of_ble_eq_true rfl) (Nat.le_of_ble_eq_true rfl) ?_
    rintro v w ⟨rfl, hw⟩
    rw [hw]
    exact v_vret X hlk hrt (dk D_Ce_release 25 rfl) hR
end
section
/-! the shape of all that is made: final references -/
def fR0 (a k : Nat) : Option Nat := if 31 ≤ a ∧ a < 982 ∧ (a - 31) % 3 = 0 then (if k = 0 then some (a + 1) else if k = 1 then some (a + 2) else none) else match a, k with
  | 0, 0 => some 1
  | 0, 1 => some 3
  | 0, 2 => some 5
  | 0, 3 => some 7
  | 0, 4 => some 17
  | 0, 5 => some 25
  | 0, 6 => some 982
  | 0, 7 => some 997
  | 0, 8 => some 1002
  | 1, 0 => some 2
  | 3, 0 => some 4
  | 5, 0 => some 6
  | 7, 0 => some 8
  | 7, 1 => some 10
  | 7, 2 => some 12
  | 7, 8 => some 16
  | 8, 0 => some 9
  | 10, 0 => some 11
  | 12, 0 => some 13
  | 14, 0 => some 15
  | 17, 0 => some 18
  | 17, 3 => some 20
  | 17, 5 => some 21
  | 17, 6 => some 22
  | 17, 7 => some 23
  | 17, 8 => some 24
  | 18, 0 => some 19
  | 25, 0 => some 26
  | 25, 3 => some 29
  | 25, 4 => some 30
  | 26, 0 => some 27
  | 26, 1 => some 28
  | 982, 1 => some 983
  | 982, 2 => some 986
  | 983, 0 => some 984
  | 983, 1 => some 985
  | 997, 3 => some 1000
  | 997, 5 => some 1001
  | 998, 0 => some 999
  | 1003, 1 => some 1004
  | 1003, 5 => some 1005
  | 1003, 7 => some 1006
  | 1003, 12 => some 1007
  | 1003, 14 => some 1008
  | 1003, 17 => some 1009
  | 1003, 19 => some 1010
  | 1003, 22 => some 1011
  | 1003, 23 => some 1012
  | 1003, 24 => some 1013
  | 1003, 25 => some 1014
  | 1003, 26 => some 1015
  | 1003, 30 => some 1016
  | 1003, 31 => some 1017
  | 1003, 35 => some 1018
  | 1003, 38 => some 1019
  | 1003, 45 => some 1020
  | 1003, 46 => some 1021
  | _, _ => none
def Shp (g : mu_T) : Prop := gN g = 1022 ∧ ∀ a k, gF g a k = fR0 a k
theorem Shp.lt {g : mu_T} (h : Shp g) {a : Nat} (ha : a < 1022) : a < gN g := by rw [h.1]; exact ha
theorem Shp.sm {g k : mu_T} {S : List Nat} (h : Shp g) (z : sm g k S) : Shp k := ⟨by rw [z.N]; exact h.1, fun a j => by rw [z.F]; exact h.2 a j⟩
theorem Shp.B {g : mu_T} (h : Shp g) {b n : Nat} (hk : kdT b = .inl 1) (hb : b < 1022) (hf : fR0 b 0 = some (b + 1)) (hr : kdT (b + 1) = .inr (1, n)) (hr2 : b + 1 < 1022) (hn : n < 2147483648) : isB g b (b + 1) n := ⟨hk, h.lt hb, (h.2 b 0).trans hf, hr, h.lt hr2, hn⟩
section VAR
variable {p : Program} {l : Launch} {e : Env} {R : Room} {s : State} {m : MethodId} {args : Array Value} {below : List Frame} {meth : Method} {c : Code} {nL : Nat} {q : ev_T} {Qf : State → Prop} {pc : Nat} {la : List (Option Value)} {st : List Value} {bc bs : Nat} {g : mu_T} {cc : ByteArray} {own : String}
theorem v_aaldR (X : Cx p s m args c cc nL own q) {a t len b : Nat} {i : Int32} {C : String} (hd : decode cc pc = .ok (.aaload, 1)) (hk : kdT a = .inr (t, len)) (hty : tyT[t]? = some (.object C)) (ht : ¬ t < 3) (ha : a < gN g) (hin : vp_in i len) (hr : gR g a i.toNatClampNeg = some b) (kk : Vv p l e R s m args below meth c nL q Qf (pc + 1) la (.ref b :: st) (bc, bs, g)) : Vv p l e R s m args below meth c nL q Qf pc la (.int i :: .ref a :: st) (bc, bs, g) :=
  v_aald X hd hk hty ht ha hin hr kk
end VAR
/-! Diversions -/
def SD : List Nat := [987, 988, 989, 990, 991, 992, 993, 994, 995, 996]
/-- all cells of the diversions -/
def DS : List Nat := [982, 983, 984, 985, 987, 988, 989, 990, 991, 992, 993, 994, 995, 996]
theorem SD_mem {i : Nat} (h : i < 10) : 987 + i ∈ SD := by
  rcases (show i = 0 ∨ i = 1 ∨ i = 2 ∨ i = 3 ∨ i = 4 ∨ i = 5 ∨ i = 6 ∨ i = 7 ∨ i = 8 ∨ i = 9 by omega) with rfl | rfl | rfl | rfl | rfl | rfl | rfl | rfl | rfl | rfl <;> decide
theorem SD_of {j : Nat} (h : j ∈ SD) : ∃ i, i < 10 ∧ j = 987 + i := by
  simp only [SD, List.mem_cons, List.not_mem_nil, or_false] at h
  rcases h with rfl | rfl | rfl | rfl | rfl | rfl | rfl | rfl | rfl | rfl
  all_goals first | exact ⟨0, by decide, rfl⟩ | exact ⟨1, by decide, rfl⟩ | exact ⟨2, by decide, rfl⟩ | exact ⟨3, by decide, rfl⟩ | exact ⟨4, by decide, rfl⟩ | exact ⟨5, by decide, rfl⟩ | exact ⟨6, by decide, rfl⟩ | exact ⟨7, by decide, rfl⟩ | exact ⟨8, by decide, rfl⟩ | exact ⟨9, by decide, rfl⟩
theorem SD_DS {i : Nat} (h : i < 10) : 987 + i ∈ DS := by
  rcases (show i = 0 ∨ i = 1 ∨ i = 2 ∨ i = 3 ∨ i = 4 ∨ i = 5 ∨ i = 6 ∨ i = 7 ∨ i = 8 ∨ i = 9 by omega) with rfl | rfl | rfl | rfl | rfl | rfl | rfl | rfl | rfl | rfl <;> decide
/-- the row of the ten chains -/
def DR (g : mu_T) : Prop := ∀ i, i < 10 → gR g 986 i = some (987 + i)
/-- the diversions hold X, the current one is cur -/
def DV (g : mu_T) (cur : Int32) (X : Nat → List Int32) : Prop := gI g 982 0 = cur ∧ (cur = -1 ∨ ∃ c, c < 10 ∧ cur = nI c) ∧ ∃ ch fl fr, CW g 983 984 985 32768 SD ch fl fr ∧ ∀ i, i < 10 → bys g 984 (ch (987 + i)) = X i
def dvt (X : Nat → List Int32) : Nat := (X 0).length + ((X 1).length + ((X 2).length + ((X 3).length + ((X 4).length + ((X 5).length + ((X 6).length + ((X 7).length + ((X 8).length + (X 9).length))))))))
theorem dvt_tot {g : mu_T} {ch : Nat → List Nat} {X : Nat → List Int32} (h : ∀ i, i < 10 → bys g 984 (ch (987 + i)) = X i) : tot SD ch = dvt X := by
  have e : ∀ i, i < 10 → (ch (987 + i)).length = (X i).length := fun i hi => by rw [← h i hi, bys, List.length_map]
  simp only [tot, SD, List.map_cons, List.map_nil, List.sum_cons, List.sum_nil, dvt]
  rw [← e 0 (by decide), ← e 1 (by decide), ← e 2 (by decide), ← e 3 (by decide), ← e 4 (by decide), ← e 5 (by decide), ← e 6 (by decide), ← e 7 (by decide), ← e 8 (by decide), ← e 9 (by decide)]
  simp only [Nat.add_zero]
theorem DV.sm {g k : mu_T} {S : List Nat} {cur : Int32} {X : Nat → List Int32} (h : DV g cur X) (z : sm g k S) (hS : ∀ a ∈ DS, a ∉ S) : DV k cur X := by
  obtain ⟨h1, h2, ch, fl, fr, hW, hX⟩ := h
  obtain ⟨hC, hSn, hcS, hch, w2, w3, w4, w5, w6, w7, w8, w9, w10⟩ := hW
  have j1 := hS 982 (by decide)
  have j2 := hS 983 (by decide)
  have j3 := hS 984 (by decide)
  have j4 := hS 985 (by decide)
  refine ⟨by rw [z.I j1]; exact h1, h2, ch, fl, fr, ⟨hC.sm z, hSn, hcS, fun j hj => (hch j hj).keep z (hS j (by obtain ⟨i, hi, rfl⟩ := SD_of hj; exact SD_DS hi)) (fun x _ => z.I j4 x), by rw [z.I j2]; exact w2, by rw [z.I j2]; exact lkf_same (fun x _ => z.I j4 x) w3, by rw [z.I j2]; exact w4, w5, w6, w7, w8, w9, w10⟩, fun i hi => ?_⟩
  rw [← hX i hi]
  exact List.map_congr_left fun x _ => z.I j3 x
end
section
/-! Diversions: forget, add, bring, gather -/
theorem isC_D {g : mu_T} (hS : Shp g) : isC g 983 984 985 32768 := ⟨rfl, hS.lt (by decide), hS.2 983 0, hS.2 983 1, rfl, hS.lt (by decide), rfl, hS.lt (by decide), by decide⟩
theorem isH_D {g : mu_T} (hS : Shp g) {i : Nat} (h : i < 10) : isH g (987 + i) := by
  refine ⟨?_, hS.lt (by omega)⟩
  rcases (show i = 0 ∨ i = 1 ∨ i = 2 ∨ i = 3 ∨ i = 4 ∨ i = 5 ∨ i = 6 ∨ i = 7 ∨ i = 8 ∨ i = 9 by omega) with rfl | rfl | rfl | rfl | rfl | rfl | rfl | rfl | rfl | rfl <;> rfl
theorem DR.sm {g k : mu_T} {S : List Nat} (h : DR g) (z : sm g k S) (h9 : 986 ∉ S := by first | decide | (simp; omega)) : DR k := fun i hi => by rw [z.R h9]; exact h i hi
theorem CW_empty {g : mu_T} (hS : Shp g) (h2 : gI g 983 2 = 0) (h3 : gI g 983 3 = -1) (h4 : gI g 983 4 = 0) (hc : ∀ j, j < 10 → gI g (987 + j) 0 = -1 ∧ gI g (987 + j) 1 = -1 ∧ gI g (987 + j) 2 = 0) : CW g 983 984 985 32768 SD (fun _ => []) [] 0 := by
  refine ⟨isC_D hS, by decide, by decide, fun j hj => ?_, h2, h3, h4, by decide, rfl, fun p hp => absurd hp List.not_mem_nil, List.nodup_nil, fun j hj => ⟨List.nodup_nil, fun p hp => absurd hp List.not_mem_nil⟩, fun j hj i hi p hp => absurd hp List.not_mem_nil⟩
  obtain ⟨i, hi, rfl⟩ := SD_of hj
  obtain ⟨a, b, c⟩ := hc i hi
  exact CH.nil (isH_D hS hi) a b c
set_option maxHeartbeats 4000000 in
set_option maxRecDepth 100000 in
theorem k_Di_forget (l : Launch) (q : ev_T) {g : mu_T} (hS : Shp g) (hR : DR g) : Ctr l q M_Di_forget 1 [.ref 982] (0, 0, g) (fun v w => v = none ∧ sm g w.2.2 DS ∧ DV w.2.2 0 (fun _ => [])) := by
  have z1 : sm g (xI (xI (xI g 983 2 0) 983 3 (-1)) 983 4 0) DS := (((sm.rf g _).xI (by decide)).xI (by decide)).xI (by decide)
  refine Ctr.mk (lb := [some (.ref 982), none]) (by decide +kernel) (Nat.le_of_ble_eq_true rfl) rfl rfl ?_
  intro pp ee ss mm aa bb mt cd X hrt hlk hnm
  have loop : ∀ (d j : Nat) (u : mu_T), j + d = 10 → sm g u DS → Shp u → DR u → gI u 983 2 = 0 → gI u 983 3 = -1 → gI u 983 4 = 0 → (∀ i, i < j → gI u (987 + i) 0 = -1 ∧ gI u (987 + i) 1 = -1 ∧ gI u (987 + i) 2 = 0) → Vv pp l ee (rmT 1 0 0) ss mm aa bb mt cd 2 q (MQ bb (Qw q (fun v w => v = none ∧ sm g w.2.2 DS ∧ DV w.2.2 0 (fun _ => []))) aa ss 0 0 (fun a => q.1 ≤ a)) 9 [some (.ref 982), some (.int (nI j))] [] (0, 0, u) := by
    intro d
    induction d with
    | zero =>
      intro j u hjd hs hSu hRu e2 e3 e4 hc
      refine v_iload_n X (dk D_Di_forget 5 rfl) rfl ?_
      refine v_aload_n X (dk D_Di_forget 6 rfl) rfl ?_
      refine v_getF X (dk D_Di_forget 7 rfl) F_Di_23 rfl rfl (hSu.lt (by decide)) (hSu.2 982 2) ?_
      refine v_alen (v := nI _) X (dk D_Di_forget 8 rfl) rfl rfl (hSu.lt (by decide)) rfl ?_
      refine v_icmp_ge (tgt := 33) X (dk D_Di_forget 9 rfl) (by decide) (fun _ => ?_) (fun c15 => absurd (nI_le (a := 10) (by omega) (by omega)) c15)
      refine v_aload_n X (dk D_Di_forget 17 rfl) rfl ?_
      refine v_iconst (v := 0) X (dk D_Di_forget 18 rfl) (by decide) ?_
      refine v_putI X (dk D_Di_forget 19 rfl) F_Di_34 CK_Di rfl rfl (hSu.lt (by decide)) rfl rfl ?_
      exact v_vret X hlk hrt (dk D_Di_forget 20 rfl) ⟨rfl, hs.xI (by decide), gI_eq _ _ _ _, Or.inr ⟨0, by decide, rfl⟩, _, _, _, CW_empty (hSu.sm ((sm.rf u [982]).xI (by simp))) ((gI_na (by decide)).trans e2) ((gI_na (by decide)).trans e3) ((gI_na (by decide)).trans e4) (fun i hi => ⟨(gI_na (by omega)).trans (hc i (by omega)).1, (gI_na (by omega)).trans (hc i (by omega)).2.1, (gI_na (by omega)).trans (hc i (by omega)).2.2⟩), fun i hi => rfl⟩
    | succ d ih =>
      intro j u hjd hs hSu hRu e2 e3 e4 hc
      obtain ⟨g1, g2, g3, g4⟩ := loosen_facts u (987 + j)
      refine v_iload_n X (dk D_Di_forget 5 rfl) rfl ?_
      refine v_aload_n X (dk D_Di_forget 6 rfl) rfl ?_
      refine v_getF X (dk D_Di_forget 7 rfl) F_Di_23 rfl rfl (hSu.lt (by decide)) (hSu.2 982 2) ?_
      refine v_alen (v := nI _) X (dk D_Di_forget 8 rfl) rfl rfl (hSu.lt (by decide)) rfl ?_
      refine v_icmp_ge (tgt := 33) X (dk D_Di_forget 9 rfl) (by decide) (fun c15 => absurd c15 (nI_ge (b := 10) (by omega) (by omega))) (fun _ => ?_)
      refine v_aload_n X (dk D_Di_forget 10 rfl) rfl ?_
      refine v_getF X (dk D_Di_forget 11 rfl) F_Di_23 rfl rfl (hSu.lt (by decide)) (hSu.2 982 2) ?_
      refine v_iload_n X (dk D_Di_forget 12 rfl) rfl ?_
      refine v_aaldR (b := 987 + j) X (dk D_Di_forget 13 rfl) rfl rfl (by decide) (hSu.lt (by decide)) (vp_in_nI (show j < 10 by omega) (by decide)) (by rw [nI_clamp (by omega)]; exact hRu j (by omega)) ?_
      refine v_invV (As := []) (st := []) X (c_Ch_loosen l q (isH_D hSu (i := j) (by omega))) (dk D_Di_forget 14 rfl) G_Di_31 K_Ch_loosen V_Ch_loosen (isH_D hSu (i := j) (by omega)).1 rfl (isH_D hSu (i := j) (by omega)).2 rfl rfl (Nat.le_of_ble_eq_true rfl) (Nat.le_of_ble_eq_true rfl) (Nat.le_of_ble_eq_true rfl) (Nat.le_of_ble_eq_true rfl) (Nat.le_of_ble_eq_true rfl) ?_
      rintro v w ⟨rfl, hw⟩
      rw [hw]
      show Vv _ _ _ _ _ _ _ _ _ _ _ _ _ _ _ [] (0, 0, xI (xI (xI u (987 + j) 0 (-1)) (987 + j) 1 (-1)) (987 + j) 2 0)
      refine v_iinc (v := nI (j + 1)) (lb := [some (.ref 982), some (.int (nI (j + 1)))]) X (dk D_Di_forget 15 rfl) rfl (nI_1 j) (by decide) rfl ?_
      refine v_goto (tgt := 9) X (dk D_Di_forget 16 rfl) (by decide) ?_
      refine ih (j + 1) _ (by omega) (hs.tr g1 (fun _ z => z) (fun a z => by rw [List.mem_singleton] at z; rw [z]; exact SD_DS (by omega))) (hSu.sm g1) (hRu.sm g1) ((g1.I (by simp; omega) 2).trans e2) ((g1.I (by simp; omega) 3).trans e3) ((g1.I (by simp; omega) 4).trans e4) (fun i hi => ?_)
      by_cases hij : i = j
      · subst hij; exact ⟨g2, g3, g4⟩
      · rw [g1.I (by simp; omega), g1.I (by simp; omega), g1.I (by simp; omega)]; exact hc i (by omega)
  refine v_aload_n X (dk D_Di_forget 0 rfl) rfl ?_
  refine v_getF X (dk D_Di_forget 1 rfl) F_Di_15 rfl rfl (hS.lt (by decide)) (hS.2 982 1) ?_
  refine v_invV (As := []) (st := []) X (c_Ce_forget l q (isC_D hS)) (dk D_Di_forget 2 rfl) G_Di_28 K_Ce_forget V_Ce_forget rfl rfl (hS.lt (by decide)) rfl rfl (Nat.le_of_ble_eq_true rfl) (Nat.le_of_ble_eq_true rfl) (Nat.le_of_ble_eq_true rfl) (Nat.le_of_ble_eq_true rfl) (Nat.le_of_ble_eq_true rfl) ?_
  rintro v w ⟨rfl, hw⟩
  rw [hw]
  show Vv _ _ _ _ _ _ _ _ _ _ _ _ _ _ _ [] (0, 0, xI (xI (xI g 983 2 0) 983 3 (-1)) 983 4 0)
  refine v_iconst (v := nI 0) X (dk D_Di_forget 3 rfl) (by decide) ?_
  refine v_istore_n (lb := [some (.ref 982), some (.int (nI 0))]) X (dk D_Di_forget 4 rfl) (by decide) rfl ?_
  exact loop 10 0 _ (by omega) z1 (hS.sm z1) (hR.sm z1) (by rw [gI_nk (by decide), gI_nk (by decide), gI_eq]) (by rw [gI_nk (by decide), gI_eq]) (gI_eq _ _ _ _) (fun i hi => absurd hi (by omega))
theorem d_add {g : mu_T} {w : mm_T} {cur : Int32} {D : Nat → List Int32} {ys : List Int32} {ch : Nat → List Nat} {fl : List Nat} {fr ci : Nat} (hci : ci < 10) (hcur : cur = nI ci) (hX : ∀ i, i < 10 → bys g 984 (ch (987 + i)) = D i) (h1 : gI g 982 0 = cur) 
    (hw : if tot SD ch + ys.length ≤ 32768 then sm g w.2.2 [983, 984, 985, 987 + ci] ∧ ∃ (ps fl2 : List Nat) (fr2 : Nat), CW w.2.2 983 984 985 32768 SD (va_up ch (987 + ci) (ch (987 + ci) ++ ps)) fl2 fr2 ∧ ps.length = ys.length ∧ bys w.2.2 984 (ch (987 + ci) ++ ps) = bys g 984 (ch (987 + ci)) ++ (ys.drop 0).take ys.length ∧ ∀ j ∈ SD, j ≠ 987 + ci → bys w.2.2 984 (ch j) = bys g 984 (ch j) else w.2.2 = g) (hW : CW g 983 984 985 32768 SD ch fl fr) :
    (some (Value.int (if tot SD ch + ys.length ≤ 32768 then 1 else 0)) : Option Value) = some (.int (if cur = -1 ∨ dvt D + ys.length ≤ 32768 then 1 else 0)) ∧ sm g w.2.2 DS ∧ DV w.2.2 cur (if cur = -1 ∨ ¬ dvt D + ys.length ≤ 32768 then D else va_up D cur.toNatClampNeg (D cur.toNatClampNeg ++ ys)) := by
  have hne : ¬ cur = -1 := fun e => by
    rw [hcur] at e
    have := nI_pos (n := ci) (by omega)
    rw [e] at this
    exact this (by decide)
  have ht := dvt_tot hX
  rw [ht] at hw ⊢
  by_cases hr : dvt D + ys.length ≤ 32768
  · rw [if_pos hr] at hw
    obtain ⟨z, ps, fl2, fr2, q1, q2, q3, q4⟩ := hw
    have z2 : sm g w.2.2 DS := z.mono (fun a ha => by
      simp only [List.mem_cons, List.not_mem_nil, or_false] at ha
      rcases ha with rfl | rfl | rfl | rfl
      · decide
      · decide
      · decide
      · exact SD_DS hci)
    refine ⟨by rw [if_pos hr, if_pos (Or.inr hr)], z2, ?_⟩
    rw [if_neg (n2 hne (fun x => x hr))]
    refine ⟨by rw [z.I (by simp; omega)]; exact h1, Or.inr ⟨ci, hci, hcur⟩, _, fl2, fr2, q1, fun i hi => ?_⟩
    rw [hcur, nI_clamp (by omega)]
    by_cases hic : i = ci
    · subst hic
      rw [va_up_eq, va_up_eq, q3, hX i hi, List.drop_zero, List.take_length]
    · rw [va_up_ne' (by omega), va_up_ne' hic, q4 _ (SD_mem hi) (by omega), hX i hi]
  · rw [if_neg hr] at hw
    refine ⟨by rw [if_neg hr, if_neg (n2 hne hr)], by rw [hw]; exact sm.rf _ _, ?_⟩
    rw [if_pos (Or.inr hr), hw]
    exact ⟨h1, Or.inr ⟨ci, hci, hcur⟩, ch, fl, fr, hW, hX⟩
set_option maxHeartbeats 4000000 in
set_option maxRecDepth 100000 in
theorem k_Di_add (l : Launch) (q : ev_T) {b r n : Nat} {cur : Int32} {D : Nat → List Int32} {ys : List Int32} {ov : Bool} {g : mu_T} (hS : Shp g) (hR : DR g) (hD : DV g cur D) (hB : RB g b r n ys ov) (hyb : ∀ j, j < ys.length → (ys.getD j 0).toInt8.toInt32 = ys.getD j 0) (hbr : b < 980 ∧ r < 980) (hn30 : n < 1073741824) : Ctr l q M_Di_add 2 [.ref 982, .ref b] (0, 0, g) (fun v w => v = some (.int (if cur = -1 ∨ dvt D + ys.length ≤ 32768 then 1 else 0)) ∧ sm g w.2.2 DS ∧ DV w.2.2 cur (if cur = -1 ∨ ¬ dvt D + ys.length ≤ 32768 then D else va_up D cur.toNatClampNeg (D cur.toNatClampNeg ++ ys))) := by
  refine Ctr.mk (lb := [some (.ref 982), some (.ref b)]) (by decide +kernel) (Nat.le_of_ble_eq_true rfl) rfl rfl ?_
  intro pp ee ss mm aa bb mt cd X hrt hlk hnm
  obtain ⟨h1, h2, ch, fl, fr, hW, hX⟩ := hD
  rcases h2 with hcur | ⟨ci, hci, hcur⟩
  · refine v_aload_n X (dk D_Di_add 0 rfl) rfl ?_
    refine v_getI X (dk D_Di_add 1 rfl) F_Di_34 rfl rfl (hS.lt (by decide)) ?_
    refine v_if_lt (tgt := 19) X (dk D_Di_add 2 rfl) (by decide) (fun _ => ?_) (fun c4 => absurd (by rw [h1, hcur]; decide) c4)
    refine v_iconst (v := 1) X (dk D_Di_add 9 rfl) (by decide) ?_
    exact v_zret X hlk hrt rfl (dk D_Di_add 10 rfl) ⟨by rw [if_pos (Or.inl hcur)], sm.rf _ _, by rw [if_pos (Or.inl hcur)]; exact ⟨h1, Or.inl hcur, ch, fl, fr, hW, hX⟩⟩
  · have hcu : gI g 982 0 = nI ci := h1.trans hcur
    have hfree0 : b ∉ [983, 984, 985, 987 + ci] ∧ r ∉ [983, 984, 985, 987 + ci] := ⟨by simp only [List.mem_cons, List.not_mem_nil, or_false]; omega, by simp only [List.mem_cons, List.not_mem_nil, or_false]; omega⟩
    have hyl : ys.length ≤ n := hB.2.1
    refine v_aload_n X (dk D_Di_add 0 rfl) rfl ?_
    refine v_getI X (dk D_Di_add 1 rfl) F_Di_34 rfl rfl (hS.lt (by decide)) ?_
    refine v_if_lt (tgt := 19) X (dk D_Di_add 2 rfl) (by decide) (fun c4 => absurd c4 (by rw [hcu]; exact nI_pos (by omega))) (fun _ => ?_)
    refine v_aload_n X (dk D_Di_add 3 rfl) rfl ?_
    refine v_getI X (dk D_Di_add 4 rfl) F_Di_34 rfl rfl (hS.lt (by decide)) ?_
    refine v_aload_n X (dk D_Di_add 5 rfl) rfl ?_
    refine v_getF X (dk D_Di_add 6 rfl) F_Di_23 rfl rfl (hS.lt (by decide)) (hS.2 982 2) ?_
    refine v_alen (v := nI _) X (dk D_Di_add 7 rfl) rfl rfl (hS.lt (by decide)) rfl ?_
    refine v_icmp_lt (tgt := 21) X (dk D_Di_add 8 rfl) (by decide) (fun _ => ?_) (fun c16 => absurd (by rw [hcu]; exact nI_lt hci (by decide)) c16)
    refine v_aload_n X (dk D_Di_add 11 rfl) rfl ?_
    refine v_getF X (dk D_Di_add 12 rfl) F_Di_15 rfl rfl (hS.lt (by decide)) (hS.2 982 1) ?_
    refine v_aload_n X (dk D_Di_add 13 rfl) rfl ?_
    refine v_getF X (dk D_Di_add 14 rfl) F_Di_23 rfl rfl (hS.lt (by decide)) (hS.2 982 2) ?_
    refine v_aload_n X (dk D_Di_add 15 rfl) rfl ?_
    refine v_getI X (dk D_Di_add 16 rfl) F_Di_34 rfl rfl (hS.lt (by decide)) ?_
    refine v_aaldR (b := 987 + ci) X (dk D_Di_add 17 rfl) rfl rfl (by decide) (hS.lt (by decide)) (by rw [hcu]; exact vp_in_nI hci (by decide)) (by rw [hcu, nI_clamp (by omega)]; exact hR ci hci) ?_
    refine v_aload_n X (dk D_Di_add 18 rfl) rfl ?_
    refine v_iconst (v := nI 0) X (dk D_Di_add 19 rfl) (by decide) ?_
    refine v_aload_n X (dk D_Di_add 20 rfl) rfl ?_
    refine v_getI X (dk D_Di_add 21 rfl) F_Di_38 rfl hB.1.1 hB.1.2.1 ?_
    rw [hB.2.2.1]
    refine v_invV (As := [.ref (987 + ci), .ref b, .int (nI 0), .int (nI ys.length)]) (st := []) X (k_Ce_add l q (st := 0) (k := ys.length) hW (SD_mem hci) hB hyb hfree0 (by omega) (by omega)) (dk D_Di_add 22 rfl) G_Di_43 K_Ce_add V_Ce_add rfl rfl (hS.lt (by decide)) rfl rfl (Nat.le_of_ble_eq_true rfl) (Nat.le_of_ble_eq_true rfl) (Nat.le_of_ble_eq_true rfl) (Nat.le_of_ble_eq_true rfl) (Nat.le_of_ble_eq_true rfl) ?_
    rintro v w ⟨rfl, hw⟩
    show Vv _ _ _ _ _ _ _ _ _ _ _ _ _ _ _ [.int (if tot SD ch + ys.length ≤ 32768 then 1 else 0)] (0, 0, w.2.2)
    exact v_zret X hlk hrt (by split <;> rfl) (dk D_Di_add 23 rfl) (d_add hci hcur hX h1 hw hW)
end
section
/-! Diversions: bring, gather -/
/-- what 'bring' makes of the diversions -/
def brX (cur : Int32) (D : Nat → List Int32) (v : Int32) : Nat → List Int32 := if v < 1 ∨ nI 10 ≤ v ∨ v = cur then D else if cur = -1 then va_up D v.toNatClampNeg [] else va_up (va_up D cur.toNatClampNeg (D cur.toNatClampNeg ++ D v.toNatClampNeg)) v.toNatClampNeg []
theorem v_k {v : Int32} (h1 : ¬ v < 1) (h2 : ¬ nI 10 ≤ v) : ∃ k, 1 ≤ k ∧ k < 10 ∧ v = nI k := by
  have h0 : ¬ v < 0 := fun z => h1 (Int32.lt_trans z (by decide))
  obtain ⟨k, hk, rfl⟩ := nI_of h0
  refine ⟨k, ?_, ?_, rfl⟩
  · rcases Nat.eq_zero_or_pos k with z | z
    · subst z; exact absurd (by decide) h1
    · exact z
  · rcases Nat.lt_or_ge k 10 with z | z
    · exact z
    · exact absurd (nI_le z hk) h2
theorem bys_keep {g u : mu_T} {S : List Nat} (z : sm g u S) (h : 984 ∉ S) (ps : List Nat) : bys u 984 ps = bys g 984 ps := List.map_congr_left fun x _ => z.I h x
theorem d_free {g u : mu_T} {cur : Int32} {D : Nat → List Int32} {ch : Nat → List Nat} {fl : List Nat} {fr k : Nat} (hk : k < 10) (h1k : 1 ≤ k) (hcur : cur = -1) (h1 : gI g 982 0 = cur) (hX : ∀ i, i < 10 → bys g 984 (ch (987 + i)) = D i) (z : sm g u [983, 985, 987 + k]) (hW : CW u 983 984 985 32768 SD (va_up ch (987 + k) []) (ch (987 + k) ++ fl) fr) : sm g u DS ∧ DV u cur (brX cur D (nI k)) := by
  have hn1 : ¬ nI k < 1 := nI_nlt (b := 1) h1k (by omega)
  have hn2 : ¬ nI 10 ≤ nI k := nI_ge hk (by decide)
  have hn3 : ¬ nI k = cur := fun e => by rw [hcur] at e; exact absurd (by rw [e]; decide) (nI_pos (n := k) (by omega))
  refine ⟨z.mono (fun a ha => ?_), by rw [z.I (by simp; omega)]; exact h1, Or.inl hcur, _, _, _, hW, fun i hi => ?_⟩
  · simp only [List.mem_cons, List.not_mem_nil, or_false] at ha
    rcases ha with rfl | rfl | rfl
    · decide
    · decide
    · exact SD_DS hk
  · rw [bys_keep z (by simp; omega), brX, if_neg (n3 hn1 hn2 hn3), if_pos hcur, nI_clamp (by omega)]
    by_cases hik : i = k
    · subst hik; rw [va_up_eq, va_up_eq]; rfl
    · rw [va_up_ne' (by omega), va_up_ne' hik, hX i hi]
theorem d_join {g u : mu_T} {cur : Int32} {D : Nat → List Int32} {ch : Nat → List Nat} {fl : List Nat} {fr k ci : Nat} (hk : k < 10) (h1k : 1 ≤ k) (hci : ci < 10) (hkc : ci ≠ k) (hcur : cur = nI ci) (h1 : gI g 982 0 = cur) (hX : ∀ i, i < 10 → bys g 984 (ch (987 + i)) = D i) (z : sm g u [985, 987 + ci, 987 + k]) (hW : CW u 983 984 985 32768 SD (va_up (va_up ch (987 + ci) (ch (987 + ci) ++ ch (987 + k))) (987 + k) []) fl fr) : sm g u DS ∧ DV u cur (brX cur D (nI k)) := by
  have hn1 : ¬ nI k < 1 := nI_nlt (b := 1) h1k (by omega)
  have hn2 : ¬ nI 10 ≤ nI k := nI_ge hk (by decide)
  have hn3 : ¬ nI k = cur := fun e => by rw [hcur, nI_eq (by omega) (by omega)] at e; exact hkc e.symm
  have hn4 : ¬ cur = -1 := fun e => by rw [hcur] at e; exact absurd (by rw [e]; decide) (nI_pos (n := ci) (by omega))
  refine ⟨z.mono (fun a ha => ?_), by rw [z.I (by simp; omega)]; exact h1, Or.inr ⟨ci, hci, hcur⟩, _, _, _, hW, fun i hi => ?_⟩
  · simp only [List.mem_cons, List.not_mem_nil, or_false] at ha
    rcases ha with rfl | rfl | rfl
    · decide
    · exact SD_DS hci
    · exact SD_DS hk
  · rw [bys_keep z (by simp; omega), brX, if_neg (n3 hn1 hn2 hn3), if_neg hn4, hcur, nI_clamp (by omega), nI_clamp (by omega)]
    by_cases hik : i = k
    · subst hik; rw [va_up_eq, va_up_eq]; rfl
    · rw [va_up_ne' (by omega), va_up_ne' hik]
      by_cases hic : i = ci
      · subst hic
        rw [va_up_eq, va_up_eq, bys, List.map_append]
        exact congr (congrArg HAppend.hAppend (hX i hi)) (hX k hk)
      · rw [va_up_ne' (by omega), va_up_ne' hic, hX i hi]
set_option maxHeartbeats 4000000 in
set_option maxRecDepth 100000 in
theorem k_Di_bring (l : Launch) (q : ev_T) {cur x : Int32} {D : Nat → List Int32} {g : mu_T} (hS : Shp g) (hR : DR g) (hD : DV g cur D) : Ctr l q M_Di_bring 2 [.ref 982, .int x] (0, 0, g) (fun v w => v = none ∧ sm g w.2.2 DS ∧ DV w.2.2 cur (brX cur D x)) := by
  refine Ctr.mk (lb := [some (.ref 982), some (.int x)]) (by decide +kernel) (Nat.le_of_ble_eq_true rfl) rfl rfl ?_
  intro pp ee ss mm aa bb mt cd X hrt hlk hnm
  obtain ⟨h1, h2, ch, fl, fr, hW, hX⟩ := id hD
  rcases h2 with hcur | ⟨ci, hci, hcur⟩
  · refine v_iload_n X (dk D_Di_bring 0 rfl) rfl ?_
    refine v_iconst (v := 1) X (dk D_Di_bring 1 rfl) (by decide) ?_
    refine v_icmp_lt (tgt := 22) X (dk D_Di_bring 2 rfl) (by decide) (fun c2 => ?_) (fun c2 => ?_)
    · exact v_vret X hlk hrt (dk D_Di_bring 12 rfl) ⟨rfl, sm.rf _ _, by rw [brX, if_pos (Or.inl c2)]; exact hD⟩
    · refine v_iload_n X (dk D_Di_bring 3 rfl) rfl ?_
      refine v_aload_n X (dk D_Di_bring 4 rfl) rfl ?_
      refine v_getF X (dk D_Di_bring 5 rfl) F_Di_23 rfl rfl (hS.lt (by decide)) (hS.2 982 2) ?_
      refine v_alen (v := nI _) X (dk D_Di_bring 6 rfl) rfl rfl (hS.lt (by decide)) rfl ?_
      refine v_icmp_ge (tgt := 22) X (dk D_Di_bring 7 rfl) (by decide) (fun c11 => ?_) (fun c11 => ?_)
      · exact v_vret X hlk hrt (dk D_Di_bring 12 rfl) ⟨rfl, sm.rf _ _, by rw [brX, if_pos (Or.inr (Or.inl c11))]; exact hD⟩
      · refine v_iload_n X (dk D_Di_bring 8 rfl) rfl ?_
        refine v_aload_n X (dk D_Di_bring 9 rfl) rfl ?_
        refine v_getI X (dk D_Di_bring 10 rfl) F_Di_34 rfl rfl (hS.lt (by decide)) ?_
        refine v_icmp_ne (tgt := 23) X (dk D_Di_bring 11 rfl) (by decide) (fun c19 => ?_) (fun c19 => ?_)
        · refine v_aload_n X (dk D_Di_bring 13 rfl) rfl ?_
          refine v_getI X (dk D_Di_bring 14 rfl) F_Di_34 rfl rfl (hS.lt (by decide)) ?_
          refine v_if_lt (tgt := 42) X (dk D_Di_bring 15 rfl) (by decide) (fun _ => ?_) (fun c27 => absurd (by rw [h1, hcur]; decide) c27)
          refine v_aload_n X (dk D_Di_bring 22 rfl) rfl ?_
          refine v_getF X (dk D_Di_bring 23 rfl) F_Di_15 rfl rfl (hS.lt (by decide)) (hS.2 982 1) ?_
          refine v_aload_n X (dk D_Di_bring 24 rfl) rfl ?_
          refine v_getF X (dk D_Di_bring 25 rfl) F_Di_23 rfl rfl (hS.lt (by decide)) (hS.2 982 2) ?_
          refine v_iload_n X (dk D_Di_bring 26 rfl) rfl ?_
          obtain ⟨k, hk1, hk10, hxk⟩ := v_k c2 c11
          refine v_aaldR (b := 987 + k) X (dk D_Di_bring 27 rfl) rfl rfl (by decide) (hS.lt (by decide)) (by rw [hxk]; exact vp_in_nI (by omega) (by decide)) (by rw [hxk]; rw [nI_clamp (by omega)]; exact hR _ (by omega)) ?_
          refine v_invV (As := [.ref (987 + k)]) (st := []) X (k_Ce_release l q hW (SD_mem hk10)) (dk D_Di_bring 28 rfl) G_Di_47 K_Ce_release V_Ce_release rfl rfl (hS.lt (by decide)) rfl rfl (Nat.le_of_ble_eq_true rfl) (Nat.le_of_ble_eq_true rfl) (Nat.le_of_ble_eq_true rfl) (Nat.le_of_ble_eq_true rfl) (Nat.le_of_ble_eq_true rfl) ?_
          rintro v w ⟨rfl, hw1, hw2⟩
          show Vv _ _ _ _ _ _ _ _ _ _ _ _ _ _ _ [] (0, 0, w.2.2)
          refine v_goto (tgt := 80) X (dk D_Di_bring 29 rfl) (by decide) ?_
          exact v_vret X hlk hrt (dk D_Di_bring 42 rfl) ⟨rfl, by rw [hxk]; exact d_free hk10 hk1 hcur h1 hX hw1 hw2⟩
        · exact v_vret X hlk hrt (dk D_Di_bring 12 rfl) ⟨rfl, sm.rf _ _, by rw [brX, if_pos (Or.inr (Or.inr (c19.trans h1)))]; exact hD⟩
  · have hcu : gI g 982 0 = nI ci := h1.trans hcur
    refine v_iload_n X (dk D_Di_bring 0 rfl) rfl ?_
    refine v_iconst (v := 1) X (dk D_Di_bring 1 rfl) (by decide) ?_
    refine v_icmp_lt (tgt := 22) X (dk D_Di_bring 2 rfl) (by decide) (fun c2 => ?_) (fun c2 => ?_)
    · exact v_vret X hlk hrt (dk D_Di_bring 12 rfl) ⟨rfl, sm.rf _ _, by rw [brX, if_pos (Or.inl c2)]; exact hD⟩
    · refine v_iload_n X (dk D_Di_bring 3 rfl) rfl ?_
      refine v_aload_n X (dk D_Di_bring 4 rfl) rfl ?_
      refine v_getF X (dk D_Di_bring 5 rfl) F_Di_23 rfl rfl (hS.lt (by decide)) (hS.2 982 2) ?_
      refine v_alen (v := nI _) X (dk D_Di_bring 6 rfl) rfl rfl (hS.lt (by decide)) rfl ?_
      refine v_icmp_ge (tgt := 22) X (dk D_Di_bring 7 rfl) (by decide) (fun c11 => ?_) (fun c11 => ?_)
      · exact v_vret X hlk hrt (dk D_Di_bring 12 rfl) ⟨rfl, sm.rf _ _, by rw [brX, if_pos (Or.inr (Or.inl c11))]; exact hD⟩
      · refine v_iload_n X (dk D_Di_bring 8 rfl) rfl ?_
        refine v_aload_n X (dk D_Di_bring 9 rfl) rfl ?_
        refine v_getI X (dk D_Di_bring 10 rfl) F_Di_34 rfl rfl (hS.lt (by decide)) ?_
        refine v_icmp_ne (tgt := 23) X (dk D_Di_bring 11 rfl) (by decide) (fun c19 => ?_) (fun c19 => ?_)
        · refine v_aload_n X (dk D_Di_bring 13 rfl) rfl ?_
          refine v_getI X (dk D_Di_bring 14 rfl) F_Di_34 rfl rfl (hS.lt (by decide)) ?_
          refine v_if_lt (tgt := 42) X (dk D_Di_bring 15 rfl) (by decide) (fun c27 => absurd c27 (by rw [hcu]; exact nI_pos (by omega))) (fun _ => ?_)
          refine v_aload_n X (dk D_Di_bring 16 rfl) rfl ?_
          refine v_getI X (dk D_Di_bring 17 rfl) F_Di_34 rfl rfl (hS.lt (by decide)) ?_
          refine v_aload_n X (dk D_Di_bring 18 rfl) rfl ?_
          refine v_getF X (dk D_Di_bring 19 rfl) F_Di_23 rfl rfl (hS.lt (by decide)) (hS.2 982 2) ?_
          refine v_alen (v := nI _) X (dk D_Di_bring 20 rfl) rfl rfl (hS.lt (by decide)) rfl ?_
          refine v_icmp_lt (tgt := 58) X (dk D_Di_bring 21 rfl) (by decide) (fun _ => ?_) (fun c39 => absurd (by rw [hcu]; exact nI_lt hci (by decide)) c39)
          refine v_aload_n X (dk D_Di_bring 30 rfl) rfl ?_
          refine v_getF X (dk D_Di_bring 31 rfl) F_Di_15 rfl rfl (hS.lt (by decide)) (hS.2 982 1) ?_
          refine v_aload_n X (dk D_Di_bring 32 rfl) rfl ?_
          refine v_getF X (dk D_Di_bring 33 rfl) F_Di_23 rfl rfl (hS.lt (by decide)) (hS.2 982 2) ?_
          refine v_aload_n X (dk D_Di_bring 34 rfl) rfl ?_
          refine v_getI X (dk D_Di_bring 35 rfl) F_Di_34 rfl rfl (hS.lt (by decide)) ?_
          refine v_aaldR (b := 987 + ci) X (dk D_Di_bring 36 rfl) rfl rfl (by decide) (hS.lt (by decide)) (by rw [hcu]; exact vp_in_nI (by omega) (by decide)) (by rw [hcu]; rw [nI_clamp (by omega)]; exact hR _ (by omega)) ?_
          refine v_aload_n X (dk D_Di_bring 37 rfl) rfl ?_
          refine v_getF X (dk D_Di_bring 38 rfl) F_Di_23 rfl rfl (hS.lt (by decide)) (hS.2 982 2) ?_
          refine v_iload_n X (dk D_Di_bring 39 rfl) rfl ?_
          obtain ⟨k, hk1, hk10, hxk⟩ := v_k c2 c11
          refine v_aaldR (b := 987 + k) X (dk D_Di_bring 40 rfl) rfl rfl (by decide) (hS.lt (by decide)) (by rw [hxk]; exact vp_in_nI (by omega) (by decide)) (by rw [hxk]; rw [nI_clamp (by omega)]; exact hR _ (by omega)) ?_
          have hck : ci ≠ k := fun e => c19 (by rw [hcu, hxk, e])
          refine v_invV (As := [.ref (987 + ci), .ref (987 + k)]) (st := []) X (k_Ce_join l q hW (SD_mem hci) (SD_mem hk10) (by omega)) (dk D_Di_bring 41 rfl) G_Di_51 K_Ce_join V_Ce_join rfl rfl (hS.lt (by decide)) rfl rfl (Nat.le_of_ble_eq_true rfl) (Nat.le_of_ble_eq_true rfl) (Nat.le_of_ble_eq_true rfl) (Nat.le_of_ble_eq_true rfl) (Nat.le_of_ble_eq_true rfl) ?_
          rintro v w ⟨rfl, hw1, hw2⟩
          show Vv _ _ _ _ _ _ _ _ _ _ _ _ _ _ _ [] (0, 0, w.2.2)
          exact v_vret X hlk hrt (dk D_Di_bring 42 rfl) ⟨rfl, by rw [hxk]; exact d_join hk10 hk1 hci hck hcur h1 hX hw1 hw2⟩
        · exact v_vret X hlk hrt (dk D_Di_bring 12 rfl) ⟨rfl, sm.rf _ _, by rw [brX, if_pos (Or.inr (Or.inr (c19.trans h1)))]; exact hD⟩
end
section
/-! Diversions: gather -/
def catX (D : Nat → List Int32) : Nat → List Int32
  | 0 => []
  | i + 1 => catX D i ++ D i
def isByte (x : Int32) : Prop := x.toInt8.toInt32 = x
theorem CH.at {g : mu_T} {rn h : Nat} {ps : List Nat} (c : CH g rn h ps) : (∀ (h0 : 0 < ps.length), gI g h 0 = nI (ps.getD 0 0)) ∧ ∀ k, k + 1 < ps.length → gI g rn (ps.getD k 0) = nI (ps.getD (k + 1) 0) := by
  rcases snoc_or ps with e | ⟨qs, p, e⟩
  · subst e; exact ⟨fun h => absurd h (by simp), fun k hk => absurd hk (by simp)⟩
  · obtain ⟨-, d, hl⟩ := c.2.2.2 qs p e
    obtain ⟨a1, a2⟩ := lkf_at hl
    refine ⟨fun h0 => a1 _ ?_, fun k hk => a2 k _ _ ?_ ?_⟩
    · rw [List.head?_eq_getElem?, List.getD_eq_getElem?_getD, List.getElem?_eq_getElem h0]; rfl
    · rw [List.getD_eq_getElem?_getD, List.getElem?_eq_getElem (by omega)]; rfl
    · rw [List.getD_eq_getElem?_getD, List.getElem?_eq_getElem hk]; rfl
theorem getD_mem' {l : List Nat} {k : Nat} (h : k < l.length) : l.getD k 0 ∈ l := by
  rw [List.getD_eq_getElem?_getD, List.getElem?_eq_getElem h]; exact List.getElem_mem h
theorem getD_mem {l : List Int32} {k : Nat} (h : k < l.length) : l.getD k 0 ∈ l := by
  rw [List.getD_eq_getElem?_getD, List.getElem?_eq_getElem h]; exact List.getElem_mem h
theorem bys_getD {g : mu_T} {rb : Nat} {ps : List Nat} {k : Nat} (h : k < ps.length) : (bys g rb ps).getD k 0 = gI g rb (ps.getD k 0) := by
  simp only [bys, List.getD_eq_getElem?_getD, List.getElem?_map, List.getElem?_eq_getElem h]; rfl
set_option maxHeartbeats 4000000 in
set_option maxRecDepth 100000 in
theorem k_Di_gather (l : Launch) (q : ev_T) {cur : Int32} {D : Nat → List Int32} {xs : List Int32} {ov : Bool} {g : mu_T} (hS : Shp g) (hR : DR g) (hD : DV g cur D) (hB : RB g 3 4 32768 xs ov) (hDb : ∀ i, i < 10 → ∀ x ∈ D i, isByte x) : Ctr l q M_Di_gather 1 [.ref 982, .ref 3] (0, 0, g) (fun v w => v = none ∧ sm g w.2.2 [3, 4] ∧ RB w.2.2 3 4 32768 (adL 32768 (xs, ov) (catX D 10)).1 (adL 32768 (xs, ov) (catX D 10)).2) := by
  obtain ⟨h1, h2, ch, fl, fr, hW, hX⟩ := hD
  refine Ctr.mk (lb := [some (.ref 982), some (.ref 3), none, none, none]) (by decide +kernel) (Nat.le_of_ble_eq_true rfl) rfl rfl ?_
  intro pp ee ss mm aa bb mt cd X hrt hlk hnm
  have outer : ∀ (d i : Nat) (u : mu_T), i + d = 10 → sm g u [3, 4] → RB u 3 4 32768 (adL 32768 (xs, ov) (catX D i)).1 (adL 32768 (xs, ov) (catX D i)).2 → Vv pp l ee (rmT 1 0 0) ss mm aa bb mt cd 5 q (MQ bb (Qw q (fun v w => v = none ∧ sm g w.2.2 [3, 4] ∧ RB w.2.2 3 4 32768 (adL 32768 (xs, ov) (catX D 10)).1 (adL 32768 (xs, ov) (catX D 10)).2)) aa ss 0 0 (fun a => q.1 ≤ a)) 2 [some (.ref 982), some (.ref 3), some (.int (nI i)), none, none] [] (0, 0, u) := by
    intro d
    induction d with
    | zero =>
      intro i u hid hs hRB
      have hSu := hS.sm hs
      refine v_iload_n X (dk D_Di_gather 2 rfl) rfl ?_
      refine v_aload_n X (dk D_Di_gather 3 rfl) rfl ?_
      refine v_getF X (dk D_Di_gather 4 rfl) F_Di_23 rfl rfl (hSu.lt (by decide)) (hSu.2 982 2) ?_
      refine v_alen (v := nI _) X (dk D_Di_gather 5 rfl) rfl rfl (hSu.lt (by decide)) rfl ?_
      refine v_icmp_ge (tgt := 71) X (dk D_Di_gather 6 rfl) (by decide) (fun _ => ?_) (fun c8 => absurd (nI_le (a := 10) (by omega) (by omega)) c8)
      exact v_vret X hlk hrt (dk D_Di_gather 37 rfl) ⟨rfl, hs, by rw [show i = 10 by omega] at hRB; exact hRB⟩
    | succ d ihi =>
      intro i u hid hs hRB
      have hSu := hS.sm hs
      have hRu := hR.sm hs
      have hi : i < 10 := by omega
      have hch := hW.2.2.2.1 _ (SD_mem hi)
      have hlen : (ch (987 + i)).length = (D i).length := by rw [← hX i hi, bys, List.length_map]
      have hb5 := hW.2.2.2.2.2.2.2.1
      have hb6 := hW.2.2.2.2.2.2.2.2.1
      have hll : (D i).length ≤ 32768 := by have t := tot_up (ch := ch) (x := []) hW.2.1 (SD_mem hi); rw [List.length_nil] at t; omega
      have inner : ∀ (e k : Nat) (x : Int32) (u : mu_T), k + e = (D i).length → sm g u [3, 4] → RB u 3 4 32768 (adL 32768 (xs, ov) (catX D i ++ (D i).take k)).1 (adL 32768 (xs, ov) (catX D i ++ (D i).take k)).2 → (k < (ch (987 + i)).length → x = nI ((ch (987 + i)).getD k 0)) → Vv pp l ee (rmT 1 0 0) ss mm aa bb mt cd 5 q (MQ bb (Qw q (fun v w => v = none ∧ sm g w.2.2 [3, 4] ∧ RB w.2.2 3 4 32768 (adL 32768 (xs, ov) (catX D 10)).1 (adL 32768 (xs, ov) (catX D 10)).2)) aa ss 0 0 (fun a => q.1 ≤ a)) 24 [some (.ref 982), some (.ref 3), some (.int (nI i)), some (.int x), some (.int (nI k))] [] (0, 0, u) := by
        intro e
        induction e with
        | zero =>
          intro k x u hke hs hRB hxk
          have hSu := hS.sm hs
          have hRu := hR.sm hs
          have hcn : gI u (987 + i) 2 = nI (ch (987 + i)).length := by rw [hs.I (by simp; omega)]; exact (hW.2.2.2.1 _ (SD_mem hi)).2.1
          refine v_iload X (dk D_Di_gather 15 rfl) rfl ?_
          refine v_aload_n X (dk D_Di_gather 16 rfl) rfl ?_
          refine v_getF X (dk D_Di_gather 17 rfl) F_Di_23 rfl rfl (hSu.lt (by decide)) (hSu.2 982 2) ?_
          refine v_iload_n X (dk D_Di_gather 18 rfl) rfl ?_
          refine v_aaldR (b := 987 + i) X (dk D_Di_gather 19 rfl) rfl rfl (by decide) (hSu.lt (by decide)) (vp_in_nI hi (by decide)) (by rw [nI_clamp (by omega)]; exact hRu i hi) ?_
          refine v_getI X (dk D_Di_gather 20 rfl) F_Di_58 rfl (isH_D hSu hi).1 (isH_D hSu hi).2 ?_
          refine v_icmp_ge (tgt := 65) X (dk D_Di_gather 21 rfl) (by decide) (fun _ => ?_) (fun c35 => absurd (by rw [hcn]; exact nI_le (by omega) (by omega)) c35)
          refine v_iinc (v := nI (i + 1)) (lb := [some (.ref 982), some (.ref 3), some (.int (nI (i + 1))), some (.int x), some (.int (nI k))]) X (dk D_Di_gather 35 rfl) rfl (nI_1 i) (by decide) rfl ?_
          refine v_goto (tgt := 2) X (dk D_Di_gather 36 rfl) (by decide) ?_
          exact v_weak (la := [some (.ref 982), some (.ref 3), some (.int (nI (i + 1))), none, none]) ⟨rfl, rfl, rfl, trivial⟩ (ihi (i + 1) u (by omega) hs (by rw [show k = (D i).length by omega, List.take_length] at hRB; exact hRB))
        | succ e ih =>
          intro k x u hke hs hRB hxk
          have hSu := hS.sm hs
          have hRu := hR.sm hs
          have hcn : gI u (987 + i) 2 = nI (ch (987 + i)).length := by rw [hs.I (by simp; omega)]; exact (hW.2.2.2.1 _ (SD_mem hi)).2.1
          have hkl : k < (ch (987 + i)).length := by omega
          obtain ⟨p, hp⟩ : ∃ p, p = (ch (987 + i)).getD k 0 := ⟨_, rfl⟩
          have hx : x = nI p := by rw [hp]; exact hxk hkl
          have hpN : p < 32768 := by have h9 := ((hW.2.2.2.2.2.2.2.2.2.2.2.1 _ (SD_mem hi)).2 p (by rw [hp]; exact getD_mem' hkl)).1; have h5 := hW.2.2.2.2.2.2.2.1; omega
          have hpb : (gI g 984 p).toInt8.toInt32 = gI g 984 p := by have hm : (D i).getD k 0 ∈ D i := getD_mem (by omega); rw [← hX i hi, bys_getD hkl, ← hp] at hm; exact hDb i hi _ (by rw [← hX i hi]; exact hm)
          refine v_iload X (dk D_Di_gather 15 rfl) rfl ?_
          refine v_aload_n X (dk D_Di_gather 16 rfl) rfl ?_
          refine v_getF X (dk D_Di_gather 17 rfl) F_Di_23 rfl rfl (hSu.lt (by decide)) (hSu.2 982 2) ?_
          refine v_iload_n X (dk D_Di_gather 18 rfl) rfl ?_
          refine v_aaldR (b := 987 + i) X (dk D_Di_gather 19 rfl) rfl rfl (by decide) (hSu.lt (by decide)) (vp_in_nI hi (by decide)) (by rw [nI_clamp (by omega)]; exact hRu i hi) ?_
          refine v_getI X (dk D_Di_gather 20 rfl) F_Di_58 rfl (isH_D hSu hi).1 (isH_D hSu hi).2 ?_
          refine v_icmp_ge (tgt := 65) X (dk D_Di_gather 21 rfl) (by decide) (fun c35 => absurd c35 (by rw [hcn]; exact nI_ge (by omega) (by omega))) (fun _ => ?_)
          refine v_aload_n X (dk D_Di_gather 22 rfl) rfl ?_
          refine v_aload_n X (dk D_Di_gather 23 rfl) rfl ?_
          refine v_getF X (dk D_Di_gather 24 rfl) F_Di_15 rfl rfl (hSu.lt (by decide)) (hSu.2 982 1) ?_
          refine v_iload_n X (dk D_Di_gather 25 rfl) rfl ?_
          refine v_invV (As := [.int x]) (st := [.ref 3]) X (c_Ce_at l q (i := x) (isC_D hSu)) (dk D_Di_gather 26 rfl) G_Di_59 K_Ce_at V_Ce_at rfl rfl (hSu.lt (by decide)) rfl rfl (Nat.le_of_ble_eq_true rfl) (Nat.le_of_ble_eq_true rfl) (Nat.le_of_ble_eq_true rfl) (Nat.le_of_ble_eq_true rfl) (Nat.le_of_ble_eq_true rfl) ?_
          rintro v w ⟨rfl, hw⟩
          rw [hw, show (if ¬ x < 0 ∧ ¬ nI 32768 ≤ x then gI u 984 x.toNatClampNeg &&& 255 else -1) = gI g 984 p &&& 255 from by rw [hx, if_pos ⟨nI_pos (by omega), nI_ge hpN (by decide)⟩, nI_clamp (by omega), hs.I (by decide)]]
          show Vv _ _ _ _ _ _ _ _ _ _ _ _ _ _ _ [.int (gI g 984 p &&& 255), .ref 3] (0, 0, u)
          refine v_invV (As := [.int (gI g 984 p &&& 255)]) (st := []) X (k_add l q (x := gI g 984 p &&& 255) hRB) (dk D_Di_gather 27 rfl) G_Di_63 K_By_add V_By_add rfl rfl (hSu.lt (by decide)) rfl rfl (Nat.le_of_ble_eq_true rfl) (Nat.le_of_ble_eq_true rfl) (Nat.le_of_ble_eq_true rfl) (Nat.le_of_ble_eq_true rfl) (Nat.le_of_ble_eq_true rfl) ?_
          rintro v w2 ⟨rfl, hw1, hw2⟩
          show Vv _ _ _ _ _ _ _ _ _ _ _ _ _ _ _ [] (0, 0, w2.2.2)
          refine v_aload_n X (dk D_Di_gather 28 rfl) rfl ?_
          refine v_getF X (dk D_Di_gather 29 rfl) F_Di_15 rfl rfl ((hSu.sm hw1).lt (by decide)) ((hSu.sm hw1).2 982 1) ?_
          refine v_iload_n X (dk D_Di_gather 30 rfl) rfl ?_
          refine v_invV (As := [.int x]) (st := []) X (c_Ce_behind l q (i := x) (isC_D (hSu.sm hw1))) (dk D_Di_gather 31 rfl) G_Di_65 K_Ce_behind V_Ce_behind rfl rfl ((hSu.sm hw1).lt (by decide)) rfl rfl (Nat.le_of_ble_eq_true rfl) (Nat.le_of_ble_eq_true rfl) (Nat.le_of_ble_eq_true rfl) (Nat.le_of_ble_eq_true rfl) (Nat.le_of_ble_eq_true rfl) ?_
          rintro v w3 ⟨rfl, hw⟩
          rw [hw, show (if ¬ x < 0 ∧ ¬ nI 32768 ≤ x then gI w2.2.2 985 x.toNatClampNeg else -1) = gI g 985 p from by rw [hx, if_pos ⟨nI_pos (by omega), nI_ge hpN (by decide)⟩, nI_clamp (by omega), hw1.I (by decide), hs.I (by decide)]]
          show Vv _ _ _ _ _ _ _ _ _ _ _ _ _ _ _ [.int (gI g 985 p)] (0, 0, w2.2.2)
          refine v_istore_n (lb := [some (.ref 982), some (.ref 3), some (.int (nI i)), some (.int (gI g 985 p)), some (.int (nI k))]) X (dk D_Di_gather 32 rfl) (by decide) rfl ?_
          refine v_iinc (v := nI (k + 1)) (lb := [some (.ref 982), some (.ref 3), some (.int (nI i)), some (.int (gI g 985 p)), some (.int (nI (k + 1)))]) X (dk D_Di_gather 33 rfl) rfl (nI_1 k) (by decide) rfl ?_
          refine v_goto (tgt := 24) X (dk D_Di_gather 34 rfl) (by decide) ?_
          exact ih (k + 1) _ _ (by omega) (hs.tr hw1 (fun _ z => z) (fun _ z => z)) (by rw [tk_one _ (by omega), ← List.append_assoc, adL_app, show (D i).getD k 0 = gI g 984 p from by rw [← hX i hi, bys_getD hkl, hp]]; rw [and255_b, hpb] at hw2; exact hw2) (fun hk1 => by rw [hp]; exact hch.at.2 k hk1)
      refine v_iload_n X (dk D_Di_gather 2 rfl) rfl ?_
      refine v_aload_n X (dk D_Di_gather 3 rfl) rfl ?_
      refine v_getF X (dk D_Di_gather 4 rfl) F_Di_23 rfl rfl (hSu.lt (by decide)) (hSu.2 982 2) ?_
      refine v_alen (v := nI _) X (dk D_Di_gather 5 rfl) rfl rfl (hSu.lt (by decide)) rfl ?_
      refine v_icmp_ge (tgt := 71) X (dk D_Di_gather 6 rfl) (by decide) (fun c8 => absurd c8 (nI_ge (b := 10) hi (by decide))) (fun _ => ?_)
      refine v_aload_n X (dk D_Di_gather 7 rfl) rfl ?_
      refine v_getF X (dk D_Di_gather 8 rfl) F_Di_23 rfl rfl (hSu.lt (by decide)) (hSu.2 982 2) ?_
      refine v_iload_n X (dk D_Di_gather 9 rfl) rfl ?_
      refine v_aaldR (b := 987 + i) X (dk D_Di_gather 10 rfl) rfl rfl (by decide) (hSu.lt (by decide)) (vp_in_nI hi (by decide)) (by rw [nI_clamp (by omega)]; exact hRu i hi) ?_
      refine v_getI X (dk D_Di_gather 11 rfl) F_Di_55 rfl (isH_D hSu hi).1 (isH_D hSu hi).2 ?_
      refine v_istore_n (lb := [some (.ref 982), some (.ref 3), some (.int (nI i)), some (.int (gI u (987 + i) 0)), none]) X (dk D_Di_gather 12 rfl) (by decide) rfl ?_
      refine v_iconst (v := nI 0) X (dk D_Di_gather 13 rfl) (by decide) ?_
      refine v_istore (lb := [some (.ref 982), some (.ref 3), some (.int (nI i)), some (.int (gI u (987 + i) 0)), some (.int (nI 0))]) X (dk D_Di_gather 14 rfl) (by decide) rfl ?_
      exact inner (D i).length 0 _ u (by omega) hs (by rw [List.take_zero, List.append_nil]; exact hRB) (fun h0 => by rw [hs.I (by simp; omega)]; exact hch.at.1 h0)
  refine v_iconst (v := nI 0) X (dk D_Di_gather 0 rfl) (by decide) ?_
  refine v_istore_n (lb := [some (.ref 982), some (.ref 3), some (.int (nI 0)), none, none]) X (dk D_Di_gather 1 rfl) (by decide) rfl ?_
  exact outer 10 0 g (by omega) (sm.rf g _) hB
end
section
/-! Calls: the open calls, the innermost one first -/
/-- an open call: its name, its arguments, how deep in ( ), whether a token came for the last argument -/
abbrev Fr : Type := List Int32 × List (List Int32) × Nat × Bool
def hl : List Fr → List Int32
  | [] => []
  | f :: r => hl r ++ (f.1 ++ f.2.1.flatten)
def na : List Fr → Nat
  | [] => 0
  | f :: r => na r + f.2.1.length
def frOK (g : mu_T) : List Fr → Prop
  | [] => True
  | f :: r => gI g 21 r.length = nI (hl r).length ∧ gI g 22 r.length = nI (na r) ∧ gI g 23 r.length = nI f.2.2.1 ∧ (f.2.1 ≠ [] → gI g 24 r.length = if f.2.2.2 = true then 1 else 0) ∧ (∀ j, j < f.2.1.length → gI g 20 (na r + j) = nI ((hl r).length + f.1.length + (f.2.1.take j).flatten.length)) ∧ f.2.2.1 < 1073741824 ∧ frOK g r
def CA (g : mu_T) (fs : List Fr) (cm : Bool) : Prop := RB g 18 19 16384 (hl fs) false ∧ gI g 17 1 = nI fs.length ∧ fs.length ≤ 50 ∧ gI g 17 2 = (if cm = true then 1 else 0) ∧ gI g 17 4 = nI (na fs) ∧ na fs ≤ 8192 ∧ frOK g fs
/-- the cells of the calls -/
def CS : List Nat := [17, 18, 19, 20, 21, 22, 23, 24]
theorem frOK.sm {g k : mu_T} {S : List Nat} (z : sm g k S) (h20 : 20 ∉ S) (h21 : 21 ∉ S) (h22 : 22 ∉ S) (h23 : 23 ∉ S) (h24 : 24 ∉ S) : ∀ {fs : List Fr}, frOK g fs → frOK k fs
  | [], _ => trivial
  | f :: r, ⟨a, b, c, d, e, n, x⟩ => ⟨by rw [z.I h21]; exact a, by rw [z.I h22]; exact b, by rw [z.I h23]; exact c, fun hn => by rw [z.I h24]; exact d hn, fun j hj => by rw [z.I h20]; exact e j hj, n, frOK.sm z h20 h21 h22 h23 h24 x⟩
theorem CA.sm {g k : mu_T} {S : List Nat} {fs : List Fr} {cm : Bool} (h : CA g fs cm) (z : sm g k S) (hS : ∀ a ∈ CS, a ∉ S) : CA k fs cm := by
  obtain ⟨a, b, c, d, e, f, x⟩ := h
  have j17 := hS 17 (by decide)
  exact ⟨a.sm z (hS 18 (by decide)) (hS 19 (by decide)), by rw [z.I j17]; exact b, c, by rw [z.I j17]; exact d, by rw [z.I j17]; exact e, f, x.sm z (hS 20 (by decide)) (hS 21 (by decide)) (hS 22 (by decide)) (hS 23 (by decide)) (hS 24 (by decide))⟩
set_option maxHeartbeats 4000000 in
set_option maxRecDepth 100000 in
theorem k_hasTop (l : Launch) (q : ev_T) {fs : List Fr} {cm : Bool} {g : mu_T} (hS : Shp g) (hC : CA g fs cm) : Ctr l q M_Ca_hasTop 0 [.ref 17] (0, 0, g) (fun v w => v = some (.int (if fs = [] then 0 else 1)) ∧ w.2.2 = g) := by
  have hop := hC.2.1
  have h50 := hC.2.2.1
  refine Ctr.mk (lb := [some (.ref 17)]) (by decide +kernel) (Nat.le_of_ble_eq_true rfl) rfl rfl ?_
  intro pp ee ss mm aa bb mt cd X hrt hlk hnm
  refine v_aload_n X (dk D_Ca_hasTop 0 rfl) rfl ?_
  refine v_getI X (dk D_Ca_hasTop 1 rfl) F_Ca_40 rfl rfl (hS.lt (by decide)) ?_
  refine v_if_le (tgt := 20) X (dk D_Ca_hasTop 2 rfl) (by decide) (fun c4 => ?_) (fun c4 => ?_)
  · refine v_iconst (v := 0) X (dk D_Ca_hasTop 9 rfl) (by decide) ?_
    exact v_zret X hlk hrt rfl (dk D_Ca_hasTop 10 rfl) ⟨by rw [hop] at c4; rw [if_pos (by cases fs; rfl; exact absurd c4 (nI_nle (Nat.succ_pos _) (by omega)))], rfl⟩
  · refine v_aload_n X (dk D_Ca_hasTop 3 rfl) rfl ?_
    refine v_getI X (dk D_Ca_hasTop 4 rfl) F_Ca_40 rfl rfl (hS.lt (by decide)) ?_
    refine v_bipush (v := 50) X (dk D_Ca_hasTop 5 rfl) (by decide) ?_
    refine v_icmp_gt (tgt := 20) X (dk D_Ca_hasTop 6 rfl) (by decide) (fun c13 => ?_) (fun c13 => ?_)
    · refine v_iconst (v := 0) X (dk D_Ca_hasTop 9 rfl) (by decide) ?_
      exact v_zret X hlk hrt rfl (dk D_Ca_hasTop 10 rfl) ⟨by rw [hop] at c13; exact absurd c13 (nI_nlt (a := 50) (by omega) (by decide)), rfl⟩
    · refine v_iconst (v := 1) X (dk D_Ca_hasTop 7 rfl) (by decide) ?_
      refine v_goto (tgt := 21) X (dk D_Ca_hasTop 8 rfl) (by decide) ?_
      exact v_zret X hlk hrt rfl (dk D_Ca_hasTop 10 rfl) ⟨by rw [hop] at c4; rw [if_neg (by intro e; rw [e] at c4; exact c4 (by decide))], rfl⟩
set_option maxHeartbeats 4000000 in
set_option maxRecDepth 100000 in
theorem k_hasToken (l : Launch) (q : ev_T) {f : Fr} {r : List Fr} {cm : Bool} {g : mu_T} (hS : Shp g) (hC : CA g (f :: r) cm) (hne : f.2.1 ≠ []) : Ctr l q M_Ca_hasToken 1 [.ref 17] (0, 0, g) (fun v w => v = some (.int (if f.2.2.2 = true then 1 else 0)) ∧ w.2.2 = g) := by
  have hop : gI g 17 1 = nI (r.length + 1) := hC.2.1
  have h50 : r.length + 1 ≤ 50 := hC.2.2.1
  obtain ⟨o1, o2, o3, o4, o5, o6, o7⟩ := hC.2.2.2.2.2.2
  have har : gI g 17 4 = nI (na r + f.2.1.length) := hC.2.2.2.2.1
  have hna : na r + f.2.1.length ≤ 8192 := hC.2.2.2.2.2.1
  refine Ctr.mk (lb := [some (.ref 17)]) (by decide +kernel) (Nat.le_of_ble_eq_true rfl) rfl rfl ?_
  intro pp ee ss mm aa bb mt cd X hrt hlk hnm
  refine v_aload_n X (dk D_Ca_hasToken 0 rfl) rfl ?_
  refine v_invV (As := []) (st := []) X (k_hasTop l q hS hC) (dk D_Ca_hasToken 1 rfl) G_Ca_62 K_Ca_hasTop V_Ca_hasTop rfl rfl (hS.lt (by decide)) rfl rfl (Nat.le_of_ble_eq_true rfl) (Nat.le_of_ble_eq_true rfl) (Nat.le_of_ble_eq_true rfl) (Nat.le_of_ble_eq_true rfl) (Nat.le_of_ble_eq_true rfl) ?_
  rintro v w ⟨rfl, hw⟩
  rw [hw, if_neg (List.cons_ne_nil _ _)]
  show Vv _ _ _ _ _ _ _ _ _ _ _ _ _ _ _ (.int 1 :: []) (0, 0, g)
  refine v_if_eq (tgt := 25) X (dk D_Ca_hasToken 2 rfl) (by decide) (fun c4 => absurd c4 (by decide)) (fun _ => ?_)
  refine v_aload_n X (dk D_Ca_hasToken 3 rfl) rfl ?_
  refine v_getF X (dk D_Ca_hasToken 4 rfl) F_Ca_33 rfl rfl (hS.lt (by decide)) (hS.2 17 8) ?_
  refine v_aload_n X (dk D_Ca_hasToken 5 rfl) rfl ?_
  refine v_getI X (dk D_Ca_hasToken 6 rfl) F_Ca_40 rfl rfl (hS.lt (by decide)) ?_
  refine v_iconst (v := 1) X (dk D_Ca_hasToken 7 rfl) (by decide) ?_
  refine v_isub X (dk D_Ca_hasToken 8 rfl) ?_
  rw [hop, show nI (r.length + 1) - 1 = nI r.length from pk_sub (b := 1) (by omega)]
  refine v_zald X (dk D_Ca_hasToken 9 rfl) rfl (hS.lt (by decide)) (vp_in_nI (show r.length < 50 by omega) (by decide)) ?_
  refine v_if_eq (tgt := 25) X (dk D_Ca_hasToken 10 rfl) (by decide) (fun c18 => ?_) (fun c18 => ?_)
  · refine v_iconst (v := 0) X (dk D_Ca_hasToken 13 rfl) (by decide) ?_
    exact v_zret X hlk hrt rfl (dk D_Ca_hasToken 14 rfl) ⟨by rw [nI_clamp (by omega), o4 hne] at c18; cases hb : f.2.2.2; rfl; rw [hb] at c18; exact absurd c18 (by decide), rfl⟩
  · refine v_iconst (v := 1) X (dk D_Ca_hasToken 11 rfl) (by decide) ?_
    refine v_goto (tgt := 26) X (dk D_Ca_hasToken 12 rfl) (by decide) ?_
    exact v_zret X hlk hrt rfl (dk D_Ca_hasToken 14 rfl) ⟨by rw [nI_clamp (by omega), o4 hne] at c18; cases hb : f.2.2.2; rw [hb] at c18; exact absurd rfl c18; rfl, rfl⟩
set_option maxHeartbeats 4000000 in
set_option maxRecDepth 100000 in
theorem k_isOutermost (l : Launch) (q : ev_T) {f : Fr} {r : List Fr} {cm : Bool} {g : mu_T} (hS : Shp g) (hC : CA g (f :: r) cm) : Ctr l q M_Ca_isOutermost 1 [.ref 17] (0, 0, g) (fun v w => v = some (.int (if f.2.2.1 = 1 then 1 else 0)) ∧ w.2.2 = g) := by
  have hop : gI g 17 1 = nI (r.length + 1) := hC.2.1
  have h50 : r.length + 1 ≤ 50 := hC.2.2.1
  obtain ⟨o1, o2, o3, o4, o5, o6, o7⟩ := hC.2.2.2.2.2.2
  have har : gI g 17 4 = nI (na r + f.2.1.length) := hC.2.2.2.2.1
  have hna : na r + f.2.1.length ≤ 8192 := hC.2.2.2.2.2.1
  refine Ctr.mk (lb := [some (.ref 17)]) (by decide +kernel) (Nat.le_of_ble_eq_true rfl) rfl rfl ?_
  intro pp ee ss mm aa bb mt cd X hrt hlk hnm
  refine v_aload_n X (dk D_Ca_isOutermost 0 rfl) rfl ?_
  refine v_invV (As := []) (st := []) X (k_hasTop l q hS hC) (dk D_Ca_isOutermost 1 rfl) G_Ca_62 K_Ca_hasTop V_Ca_hasTop rfl rfl (hS.lt (by decide)) rfl rfl (Nat.le_of_ble_eq_true rfl) (Nat.le_of_ble_eq_true rfl) (Nat.le_of_ble_eq_true rfl) (Nat.le_of_ble_eq_true rfl) (Nat.le_of_ble_eq_true rfl) ?_
  rintro v w ⟨rfl, hw⟩
  rw [hw, if_neg (List.cons_ne_nil _ _)]
  show Vv _ _ _ _ _ _ _ _ _ _ _ _ _ _ _ (.int 1 :: []) (0, 0, g)
  refine v_if_eq (tgt := 26) X (dk D_Ca_isOutermost 2 rfl) (by decide) (fun c4 => absurd c4 (by decide)) (fun _ => ?_)
  refine v_aload_n X (dk D_Ca_isOutermost 3 rfl) rfl ?_
  refine v_getF X (dk D_Ca_isOutermost 4 rfl) F_Ca_30 rfl rfl (hS.lt (by decide)) (hS.2 17 7) ?_
  refine v_aload_n X (dk D_Ca_isOutermost 5 rfl) rfl ?_
  refine v_getI X (dk D_Ca_isOutermost 6 rfl) F_Ca_40 rfl rfl (hS.lt (by decide)) ?_
  refine v_iconst (v := 1) X (dk D_Ca_isOutermost 7 rfl) (by decide) ?_
  refine v_isub X (dk D_Ca_isOutermost 8 rfl) ?_
  rw [hop, show nI (r.length + 1) - 1 = nI r.length from pk_sub (b := 1) (by omega)]
  refine v_iald X (dk D_Ca_isOutermost 9 rfl) rfl (hS.lt (by decide)) (vp_in_nI (show r.length < 50 by omega) (by decide)) ?_
  refine v_iconst (v := 1) X (dk D_Ca_isOutermost 10 rfl) (by decide) ?_
  refine v_icmp_ne (tgt := 26) X (dk D_Ca_isOutermost 11 rfl) (by decide) (fun c19 => ?_) (fun c19 => ?_)
  · refine v_iconst (v := 0) X (dk D_Ca_isOutermost 14 rfl) (by decide) ?_
    exact v_zret X hlk hrt rfl (dk D_Ca_isOutermost 15 rfl) ⟨by rw [nI_clamp (by omega), o3] at c19; rw [if_neg (fun e => c19 (by rw [e]; rfl))], rfl⟩
  · refine v_iconst (v := 1) X (dk D_Ca_isOutermost 12 rfl) (by decide) ?_
    refine v_goto (tgt := 27) X (dk D_Ca_isOutermost 13 rfl) (by decide) ?_
    exact v_zret X hlk hrt rfl (dk D_Ca_isOutermost 15 rfl) ⟨by rw [nI_clamp (by omega), o3] at c19; rw [if_pos ((nI_eq (b := 1) (by omega) (by decide)).mp c19)], rfl⟩
set_option maxHeartbeats 4000000 in
set_option maxRecDepth 100000 in
theorem k_arguments (l : Launch) (q : ev_T) {f : Fr} {r : List Fr} {cm : Bool} {g : mu_T} (hS : Shp g) (hC : CA g (f :: r) cm) : Ctr l q M_Ca_arguments 1 [.ref 17] (0, 0, g) (fun v w => v = some (.int (nI f.2.1.length)) ∧ w.2.2 = g) := by
  have hop : gI g 17 1 = nI (r.length + 1) := hC.2.1
  have h50 : r.length + 1 ≤ 50 := hC.2.2.1
  obtain ⟨o1, o2, o3, o4, o5, o6, o7⟩ := hC.2.2.2.2.2.2
  have har : gI g 17 4 = nI (na r + f.2.1.length) := hC.2.2.2.2.1
  have hna : na r + f.2.1.length ≤ 8192 := hC.2.2.2.2.2.1
  refine Ctr.mk (lb := [some (.ref 17)]) (by decide +kernel) (Nat.le_of_ble_eq_true rfl) rfl rfl ?_
  intro pp ee ss mm aa bb mt cd X hrt hlk hnm
  refine v_aload_n X (dk D_Ca_arguments 0 rfl) rfl ?_
  refine v_invV (As := []) (st := []) X (k_hasTop l q hS hC) (dk D_Ca_arguments 1 rfl) G_Ca_62 K_Ca_hasTop V_Ca_hasTop rfl rfl (hS.lt (by decide)) rfl rfl (Nat.le_of_ble_eq_true rfl) (Nat.le_of_ble_eq_true rfl) (Nat.le_of_ble_eq_true rfl) (Nat.le_of_ble_eq_true rfl) (Nat.le_of_ble_eq_true rfl) ?_
  rintro v w ⟨rfl, hw⟩
  rw [hw, if_neg (List.cons_ne_nil _ _)]
  show Vv _ _ _ _ _ _ _ _ _ _ _ _ _ _ _ (.int 1 :: []) (0, 0, g)
  refine v_if_eq (tgt := 26) X (dk D_Ca_arguments 2 rfl) (by decide) (fun c4 => absurd c4 (by decide)) (fun _ => ?_)
  refine v_aload_n X (dk D_Ca_arguments 3 rfl) rfl ?_
  refine v_getI X (dk D_Ca_arguments 4 rfl) F_Ca_48 rfl rfl (hS.lt (by decide)) ?_
  refine v_aload_n X (dk D_Ca_arguments 5 rfl) rfl ?_
  refine v_getF X (dk D_Ca_arguments 6 rfl) F_Ca_27 rfl rfl (hS.lt (by decide)) (hS.2 17 6) ?_
  refine v_aload_n X (dk D_Ca_arguments 7 rfl) rfl ?_
  refine v_getI X (dk D_Ca_arguments 8 rfl) F_Ca_40 rfl rfl (hS.lt (by decide)) ?_
  refine v_iconst (v := 1) X (dk D_Ca_arguments 9 rfl) (by decide) ?_
  refine v_isub X (dk D_Ca_arguments 10 rfl) ?_
  rw [hop, show nI (r.length + 1) - 1 = nI r.length from pk_sub (b := 1) (by omega)]
  refine v_iald X (dk D_Ca_arguments 11 rfl) rfl (hS.lt (by decide)) (vp_in_nI (show r.length < 50 by omega) (by decide)) ?_
  refine v_isub X (dk D_Ca_arguments 12 rfl) ?_
  refine v_goto (tgt := 27) X (dk D_Ca_arguments 13 rfl) (by decide) ?_
  exact v_iret X hlk hrt (dk D_Ca_arguments 15 rfl) ⟨by rw [har, nI_clamp (by omega), o2, pk_sub (by omega), Nat.add_sub_cancel_left], rfl⟩
set_option maxHeartbeats 4000000 in
set_option maxRecDepth 100000 in
theorem k_nameStart (l : Launch) (q : ev_T) {f : Fr} {r : List Fr} {cm : Bool} {g : mu_T} (hS : Shp g) (hC : CA g (f :: r) cm) : Ctr l q M_Ca_nameStart 1 [.ref 17] (0, 0, g) (fun v w => v = some (.int (nI (hl r).length)) ∧ w.2.2 = g) := by
  have hop : gI g 17 1 = nI (r.length + 1) := hC.2.1
  have h50 : r.length + 1 ≤ 50 := hC.2.2.1
  obtain ⟨o1, o2, o3, o4, o5, o6, o7⟩ := hC.2.2.2.2.2.2
  have har : gI g 17 4 = nI (na r + f.2.1.length) := hC.2.2.2.2.1
  have hna : na r + f.2.1.length ≤ 8192 := hC.2.2.2.2.2.1
  refine Ctr.mk (lb := [some (.ref 17)]) (by decide +kernel) (Nat.le_of_ble_eq_true rfl) rfl rfl ?_
  intro pp ee ss mm aa bb mt cd X hrt hlk hnm
  refine v_aload_n X (dk D_Ca_nameStart 0 rfl) rfl ?_
  refine v_invV (As := []) (st := []) X (k_hasTop l q hS hC) (dk D_Ca_nameStart 1 rfl) G_Ca_62 K_Ca_hasTop V_Ca_hasTop rfl rfl (hS.lt (by decide)) rfl rfl (Nat.le_of_ble_eq_true rfl) (Nat.le_of_ble_eq_true rfl) (Nat.le_of_ble_eq_true rfl) (Nat.le_of_ble_eq_true rfl) (Nat.le_of_ble_eq_true rfl) ?_
  rintro v w ⟨rfl, hw⟩
  rw [hw, if_neg (List.cons_ne_nil _ _)]
  show Vv _ _ _ _ _ _ _ _ _ _ _ _ _ _ _ (.int 1 :: []) (0, 0, g)
  refine v_if_eq (tgt := 21) X (dk D_Ca_nameStart 2 rfl) (by decide) (fun c4 => absurd c4 (by decide)) (fun _ => ?_)
  refine v_aload_n X (dk D_Ca_nameStart 3 rfl) rfl ?_
  refine v_getF X (dk D_Ca_nameStart 4 rfl) F_Ca_24 rfl rfl (hS.lt (by decide)) (hS.2 17 5) ?_
  refine v_aload_n X (dk D_Ca_nameStart 5 rfl) rfl ?_
  refine v_getI X (dk D_Ca_nameStart 6 rfl) F_Ca_40 rfl rfl (hS.lt (by decide)) ?_
  refine v_iconst (v := 1) X (dk D_Ca_nameStart 7 rfl) (by decide) ?_
  refine v_isub X (dk D_Ca_nameStart 8 rfl) ?_
  rw [hop, show nI (r.length + 1) - 1 = nI r.length from pk_sub (b := 1) (by omega)]
  refine v_iald X (dk D_Ca_nameStart 9 rfl) rfl (hS.lt (by decide)) (vp_in_nI (show r.length < 50 by omega) (by decide)) ?_
  refine v_goto (tgt := 22) X (dk D_Ca_nameStart 10 rfl) (by decide) ?_
  exact v_iret X hlk hrt (dk D_Ca_nameStart 12 rfl) ⟨by rw [nI_clamp (by omega), o1], rfl⟩
/-- where argument i of the innermost call begins -/
def stA (f : Fr) (r : List Fr) (i : Nat) : Nat := (hl r).length + f.1.length + (f.2.1.take i).flatten.length
theorem stA_end {f : Fr} {r : List Fr} {i : Nat} (h : f.2.1.length ≤ i) : stA f r i = (hl (f :: r)).length := by
  rw [stA, List.take_of_length_le h, hl, List.length_append, List.length_append]; omega
theorem stA_le {f : Fr} {r : List Fr} (i : Nat) : stA f r i ≤ (hl (f :: r)).length := by
  rw [stA, hl, List.length_append, List.length_append]
  have : (f.2.1.take i).flatten.length ≤ f.2.1.flatten.length := by
    have e : f.2.1.flatten = (f.2.1.take i).flatten ++ (f.2.1.drop i).flatten := by rw [← List.flatten_append, List.take_append_drop]
    rw [e, List.length_append]; omega
  omega
theorem stA_succ {f : Fr} {r : List Fr} {i : Nat} : stA f r (i + 1) = stA f r i + (f.2.1.getD i []).length := by
  rcases Nat.lt_or_ge i f.2.1.length with h | h
  · rw [stA, stA, List.take_add_one, List.flatten_append, List.length_append, List.getD_eq_getElem?_getD, List.getElem?_eq_getElem h]
    simp; omega
  · rw [stA_end (by omega), stA_end h, List.getD_eq_getElem?_getD, List.getElem?_eq_none h]; simp
theorem hl_slice {f : Fr} {r : List Fr} (i : Nat) : ((hl (f :: r)).drop (stA f r i)).take (f.2.1.getD i []).length = f.2.1.getD i [] := by
  rcases Nat.lt_or_ge i f.2.1.length with h | h
  · have e : f.2.1 = f.2.1.take i ++ (f.2.1.getD i [] :: f.2.1.drop (i + 1)) := by
      rw [List.getD_eq_getElem?_getD, List.getElem?_eq_getElem h, Option.getD_some, List.getElem_cons_drop, List.take_append_drop]
    have e2 : hl (f :: r) = (hl r ++ f.1 ++ (f.2.1.take i).flatten) ++ (f.2.1.getD i [] ++ (f.2.1.drop (i + 1)).flatten) := by
      rw [hl]
      conv => lhs; rw [e]
      simp [List.flatten_append]
    rw [e2, List.drop_append_of_le_length (by simp [stA]; omega)]
    rw [List.drop_of_length_le (by simp [stA]; omega), List.nil_append, List.take_append_of_le_length (Nat.le_refl _), List.take_length]
  · rw [List.getD_eq_getElem?_getD, List.getElem?_eq_none h]; simp
set_option maxHeartbeats 4000000 in
set_option maxRecDepth 100000 in
theorem k_start (l : Launch) (q : ev_T) {f : Fr} {r : List Fr} {cm : Bool} {i : Nat} {g : mu_T} (hS : Shp g) (hC : CA g (f :: r) cm) (hi : i < 1000000) : Ctr l q M_Ca_start 0 [.ref 17, .int (nI i)] (0, 0, g) (fun v w => v = some (.int (nI (stA f r i))) ∧ w.2.2 = g) := by
  have hop : gI g 17 1 = nI (r.length + 1) := hC.2.1
  have h50 : r.length + 1 ≤ 50 := hC.2.2.1
  obtain ⟨o1, o2, o3, o4, o5, o6, o7⟩ := hC.2.2.2.2.2.2
  have har : gI g 17 4 = nI (na r + f.2.1.length) := hC.2.2.2.2.1
  have hna : na r + f.2.1.length ≤ 8192 := hC.2.2.2.2.2.1
  refine Ctr.mk (lb := [some (.ref 17), some (.int (nI i)), none]) (by decide +kernel) (Nat.le_of_ble_eq_true rfl) rfl rfl ?_
  intro pp ee ss mm aa bb mt cd X hrt hlk hnm
  refine v_iload_n X (dk D_Ca_start 0 rfl) rfl ?_
  refine v_if_lt (tgt := 21) X (dk D_Ca_start 1 rfl) (by decide) (fun c1 => absurd c1 (nI_pos (by omega))) (fun _ => ?_)
  refine v_aload_n X (dk D_Ca_start 2 rfl) rfl ?_
  refine v_getI X (dk D_Ca_start 3 rfl) F_Ca_40 rfl rfl (hS.lt (by decide)) ?_
  refine v_iconst (v := 1) X (dk D_Ca_start 4 rfl) (by decide) ?_
  refine v_icmp_lt (tgt := 21) X (dk D_Ca_start 5 rfl) (by decide) (fun c9 => absurd c9 (by rw [hop]; exact nI_nlt (b := 1) (by omega) (by omega))) (fun _ => ?_)
  refine v_aload_n X (dk D_Ca_start 6 rfl) rfl ?_
  refine v_getI X (dk D_Ca_start 7 rfl) F_Ca_40 rfl rfl (hS.lt (by decide)) ?_
  refine v_bipush (v := 50) X (dk D_Ca_start 8 rfl) (by decide) ?_
  refine v_icmp_le (tgt := 29) X (dk D_Ca_start 9 rfl) (by decide) (fun _ => ?_) (fun c18 => absurd (by rw [hop]; exact nI_le (b := 50) (by omega) (by decide)) c18)
  refine v_aload_n X (dk D_Ca_start 14 rfl) rfl ?_
  refine v_getF X (dk D_Ca_start 15 rfl) F_Ca_27 rfl rfl (hS.lt (by decide)) (hS.2 17 6) ?_
  refine v_aload_n X (dk D_Ca_start 16 rfl) rfl ?_
  refine v_getI X (dk D_Ca_start 17 rfl) F_Ca_40 rfl rfl (hS.lt (by decide)) ?_
  refine v_iconst (v := 1) X (dk D_Ca_start 18 rfl) (by decide) ?_
  refine v_isub X (dk D_Ca_start 19 rfl) ?_
  rw [hop, show nI (r.length + 1) - 1 = nI r.length from pk_sub (b := 1) (by omega)]
  refine v_iald X (dk D_Ca_start 20 rfl) rfl (hS.lt (by decide)) (vp_in_nI (show r.length < 50 by omega) (by decide)) ?_
  refine v_iload_n X (dk D_Ca_start 21 rfl) rfl ?_
  refine v_iadd X (dk D_Ca_start 22 rfl) ?_
  rw [nI_clamp (by omega), o2, nI_add]
  refine v_istore_n (lb := [some (.ref 17), some (.int (nI i)), some (.int (nI (na r + i)))]) X (dk D_Ca_start 23 rfl) (by decide) rfl ?_
  refine v_iload_n X (dk D_Ca_start 24 rfl) rfl ?_
  refine v_if_lt (tgt := 73) X (dk D_Ca_start 25 rfl) (by decide) (fun c44 => absurd c44 (nI_pos (by omega))) (fun _ => ?_)
  refine v_iload_n X (dk D_Ca_start 26 rfl) rfl ?_
  refine v_aload_n X (dk D_Ca_start 27 rfl) rfl ?_
  refine v_getI X (dk D_Ca_start 28 rfl) F_Ca_48 rfl rfl (hS.lt (by decide)) ?_
  refine v_icmp_ge (tgt := 73) X (dk D_Ca_start 29 rfl) (by decide) (fun c52 => ?_) (fun c52 => ?_)
  · refine v_aload_n X (dk D_Ca_start 40 rfl) rfl ?_
    refine v_getF X (dk D_Ca_start 41 rfl) F_Ca_14 rfl rfl (hS.lt (by decide)) (hS.2 17 0) ?_
    refine v_getI X (dk D_Ca_start 42 rfl) F_Ca_51 rfl rfl (hS.lt (by decide)) ?_
    exact v_iret X hlk hrt (dk D_Ca_start 43 rfl) ⟨by rw [hC.1.2.2.1, stA_end (by rw [har] at c52; rcases Nat.lt_or_ge (na r + i) (na r + f.2.1.length) with z | z; exact absurd c52 (nI_ge z (by omega)); omega)], rfl⟩
  · refine v_iload_n X (dk D_Ca_start 30 rfl) rfl ?_
    refine v_aload_n X (dk D_Ca_start 31 rfl) rfl ?_
    refine v_getF X (dk D_Ca_start 32 rfl) F_Ca_20 rfl rfl (hS.lt (by decide)) (hS.2 17 3) ?_
    refine v_alen (v := nI _) X (dk D_Ca_start 33 rfl) rfl rfl (hS.lt (by decide)) rfl ?_
    refine v_icmp_ge (tgt := 73) X (dk D_Ca_start 34 rfl) (by decide) (fun c61 => ?_) (fun c61 => ?_)
    · refine v_aload_n X (dk D_Ca_start 40 rfl) rfl ?_
      refine v_getF X (dk D_Ca_start 41 rfl) F_Ca_14 rfl rfl (hS.lt (by decide)) (hS.2 17 0) ?_
      refine v_getI X (dk D_Ca_start 42 rfl) F_Ca_51 rfl rfl (hS.lt (by decide)) ?_
      exact v_iret X hlk hrt (dk D_Ca_start 43 rfl) ⟨by rw [har] at c52; exact absurd (nI_le (show na r + f.2.1.length ≤ na r + i from by rcases Nat.lt_or_ge 8191 (na r + i) with z | z; omega; exact absurd c61 (nI_ge (b := 8192) (by omega) (by decide))) (by omega)) c52, rfl⟩
    · refine v_aload_n X (dk D_Ca_start 35 rfl) rfl ?_
      refine v_getF X (dk D_Ca_start 36 rfl) F_Ca_20 rfl rfl (hS.lt (by decide)) (hS.2 17 3) ?_
      refine v_iload_n X (dk D_Ca_start 37 rfl) rfl ?_
      refine v_iald X (dk D_Ca_start 38 rfl) rfl (hS.lt (by decide)) (vp_in_nI (show na r + i < 8192 by rw [har] at c52; rcases Nat.lt_or_ge (na r + i) (na r + f.2.1.length) with z | z; omega; exact absurd (nI_le z (by omega)) c52) (by decide)) ?_
      refine v_goto (tgt := 80) X (dk D_Ca_start 39 rfl) (by decide) ?_
      exact v_iret X hlk hrt (dk D_Ca_start 43 rfl) ⟨by rw [nI_clamp (by omega), o5 i (by rw [har] at c52; rcases Nat.lt_or_ge i f.2.1.length with z | z; exact z; exact absurd (nI_le (show na r + f.2.1.length ≤ na r + i by omega) (by omega)) c52)]; rfl, rfl⟩
set_option maxHeartbeats 4000000 in
set_option maxRecDepth 100000 in
theorem k_length (l : Launch) (q : ev_T) {f : Fr} {r : List Fr} {cm : Bool} {i : Nat} {g : mu_T} (hS : Shp g) (hC : CA g (f :: r) cm) (hi : i < 999999) : Ctr l q M_Ca_length 1 [.ref 17, .int (nI i)] (0, 0, g) (fun v w => v = some (.int (nI (f.2.1.getD i []).length)) ∧ w.2.2 = g) := by

  refine Ctr.mk (lb := [some (.ref 17), some (.int (nI i))]) (by decide +kernel) (Nat.le_of_ble_eq_true rfl) rfl rfl ?_
  intro pp ee ss mm aa bb mt cd X hrt hlk hnm
  refine v_aload_n X (dk D_Ca_length 0 rfl) rfl ?_
  refine v_iload_n X (dk D_Ca_length 1 rfl) rfl ?_
  refine v_iconst (v := 1) X (dk D_Ca_length 2 rfl) (by decide) ?_
  refine v_iadd X (dk D_Ca_length 3 rfl) ?_
  rw [nI_1]
  refine v_invV (As := [.int (nI (i + 1))]) (st := []) X (k_start l q (i := i + 1) hS hC (by omega)) (dk D_Ca_length 4 rfl) G_Ca_66 K_Ca_start V_Ca_start rfl rfl (hS.lt (by decide)) rfl rfl (Nat.le_of_ble_eq_true rfl) (Nat.le_of_ble_eq_true rfl) (Nat.le_of_ble_eq_true rfl) (Nat.le_of_ble_eq_true rfl) (Nat.le_of_ble_eq_true rfl) ?_
  rintro v w ⟨rfl, hw⟩
  rw [hw]
  show Vv _ _ _ _ _ _ _ _ _ _ _ _ _ _ _ [.int (nI (stA f r (i + 1)))] (0, 0, g)
  refine v_aload_n X (dk D_Ca_length 5 rfl) rfl ?_
  refine v_iload_n X (dk D_Ca_length 6 rfl) rfl ?_
  refine v_invV (As := [.int (nI i)]) (st := [.int (nI (stA f r (i + 1)))]) X (k_start l q (i := i) hS hC (by omega)) (dk D_Ca_length 7 rfl) G_Ca_66 K_Ca_start V_Ca_start rfl rfl (hS.lt (by decide)) rfl rfl (Nat.le_of_ble_eq_true rfl) (Nat.le_of_ble_eq_true rfl) (Nat.le_of_ble_eq_true rfl) (Nat.le_of_ble_eq_true rfl) (Nat.le_of_ble_eq_true rfl) ?_
  rintro v w ⟨rfl, hw⟩
  rw [hw]
  show Vv _ _ _ _ _ _ _ _ _ _ _ _ _ _ _ [.int (nI (stA f r i)), .int (nI (stA f r (i + 1)))] (0, 0, g)
  refine v_isub X (dk D_Ca_length 8 rfl) ?_
  exact v_iret X hlk hrt (dk D_Ca_length 9 rfl) ⟨by rw [stA_succ, pk_sub (by omega), Nat.add_sub_cancel_left], rfl⟩
set_option maxHeartbeats 4000000 in
set_option maxRecDepth 100000 in
theorem k_nameLength (l : Launch) (q : ev_T) {f : Fr} {r : List Fr} {cm : Bool} {g : mu_T} (hS : Shp g) (hC : CA g (f :: r) cm) : Ctr l q M_Ca_nameLength 2 [.ref 17] (0, 0, g) (fun v w => v = some (.int (nI f.1.length)) ∧ w.2.2 = g) := by

  refine Ctr.mk (lb := [some (.ref 17)]) (by decide +kernel) (Nat.le_of_ble_eq_true rfl) rfl rfl ?_
  intro pp ee ss mm aa bb mt cd X hrt hlk hnm
  refine v_aload_n X (dk D_Ca_nameLength 0 rfl) rfl ?_
  refine v_iconst (v := nI 0) X (dk D_Ca_nameLength 1 rfl) (by decide) ?_
  refine v_invV (As := [.int (nI 0)]) (st := []) X (k_start l q (i := 0) hS hC (by omega)) (dk D_Ca_nameLength 2 rfl) G_Ca_66 K_Ca_start V_Ca_start rfl rfl (hS.lt (by decide)) rfl rfl (Nat.le_of_ble_eq_true rfl) (Nat.le_of_ble_eq_true rfl) (Nat.le_of_ble_eq_true rfl) (Nat.le_of_ble_eq_true rfl) (Nat.le_of_ble_eq_true rfl) ?_
  rintro v w ⟨rfl, hw⟩
  rw [hw]
  show Vv _ _ _ _ _ _ _ _ _ _ _ _ _ _ _ [.int (nI (stA f r 0))] (0, 0, g)
  refine v_aload_n X (dk D_Ca_nameLength 3 rfl) rfl ?_
  refine v_invV (As := []) (st := [.int (nI (stA f r 0))]) X (k_nameStart l q hS hC) (dk D_Ca_nameLength 4 rfl) G_Ca_70 K_Ca_nameStart V_Ca_nameStart rfl rfl (hS.lt (by decide)) rfl rfl (Nat.le_of_ble_eq_true rfl) (Nat.le_of_ble_eq_true rfl) (Nat.le_of_ble_eq_true rfl) (Nat.le_of_ble_eq_true rfl) (Nat.le_of_ble_eq_true rfl) ?_
  rintro v w ⟨rfl, hw⟩
  rw [hw]
  show Vv _ _ _ _ _ _ _ _ _ _ _ _ _ _ _ [.int (nI (hl r).length), .int (nI (stA f r 0))] (0, 0, g)
  refine v_isub X (dk D_Ca_nameLength 5 rfl) ?_
  exact v_iret X hlk hrt (dk D_Ca_nameLength 6 rfl) ⟨by rw [pk_sub (by simp [stA])]; simp [stA], rfl⟩
end
section
/-! Calls: the writing methods -/
theorem frOK.below {g k : mu_T} : ∀ {fs : List Fr}, (∀ i, i < fs.length → gI k 21 i = gI g 21 i ∧ gI k 22 i = gI g 22 i ∧ gI k 23 i = gI g 23 i ∧ gI k 24 i = gI g 24 i) → (∀ i, i < na fs → gI k 20 i = gI g 20 i) → frOK g fs → frOK k fs
  | [], _, _, _ => trivial
  | f :: r, h1, h2, ⟨a, b, c, d, e, n, x⟩ => by
    obtain ⟨y1, y2, y3, y4⟩ := h1 r.length (by simp)
    refine ⟨by rw [y1]; exact a, by rw [y2]; exact b, by rw [y3]; exact c, fun hn => by rw [y4]; exact d hn, fun j hj => by rw [h2 _ (by simp only [na]; omega)]; exact e j hj, n, frOK.below (fun i hi => h1 i (by simp; omega)) (fun i hi => h2 i (by simp only [na]; omega)) x⟩
theorem k_cutN (l : Launch) (q : ev_T) {b r n m : Nat} {xs : List Int32} {ov : Bool} {g : mu_T} (hB : RB g b r n xs ov) (hm : m ≤ xs.length) : Ctr l q M_By_cut 0 [.ref b, .int (nI m)] (0, 0, g) (fun v w => v = none ∧ sm g w.2.2 [b] ∧ RB w.2.2 b r n (xs.take m) false) :=
  (c_By_cut l q hB.1).weak fun v w h => by
    have hl := hB.lt
    have hne := hB.1.ne
    obtain ⟨h1, h2, h3, h4, h5⟩ := hB
    have hc : (0 : Int32) ≤ nI m ∧ nI m ≤ gI g b 1 := ⟨nI_pos' (by omega), by rw [h3]; exact nI_le hm (by omega)⟩
    have z : sm g w.2.2 [b] := by
      rw [h.2, if_pos hc]
      exact ((sm.rf g [b]).xI (by simp)).xI (by simp)
    refine ⟨h.1, z, h1.sm z, by rw [List.length_take]; omega, ?_, ?_, fun j hj => ?_⟩
    · rw [h.2, if_pos hc, List.length_take, Nat.min_eq_left hm]
      exact (gI_nk (by decide)).trans (gI_eq _ _ _ _)
    · rw [h.2]; exact gI_eq _ _ _ _
    · rw [List.length_take] at hj
      rw [z.I (by simp [Ne.symm hne]), h5 j (by omega)]
      simp only [List.getD_eq_getElem?_getD]
      rw [List.getElem?_take, if_pos (by omega)]
theorem z9 {g k : mu_T} (h : sm g k [18]) : sm g (xI (xI (xI k 17 1 0) 17 2 0) 17 4 0) CS := (((h.mono (U := CS) (by decide)).xI (by decide)).xI (by decide)).xI (by decide)
set_option maxHeartbeats 4000000 in
set_option maxRecDepth 100000 in
theorem k_Ca_forget (l : Launch) (q : ev_T) {xs : List Int32} {ov : Bool} {g : mu_T} (hS : Shp g) (hB : RB g 18 19 16384 xs ov) : Ctr l q M_Ca_forget 1 [.ref 17] (0, 0, g) (fun v w => v = none ∧ sm g w.2.2 CS ∧ CA w.2.2 [] false) := by

  refine Ctr.mk (lb := [some (.ref 17)]) (by decide +kernel) (Nat.le_of_ble_eq_true rfl) rfl rfl ?_
  intro pp ee ss mm aa bb mt cd X hrt hlk hnm
  refine v_aload_n X (dk D_Ca_forget 0 rfl) rfl ?_
  refine v_getF X (dk D_Ca_forget 1 rfl) F_Ca_14 rfl rfl (hS.lt (by decide)) (hS.2 17 0) ?_
  refine v_iconst (v := 0) X (dk D_Ca_forget 2 rfl) (by decide) ?_
  refine v_invV (As := [.int 0]) (st := []) X (k_cut0 l q hB) (dk D_Ca_forget 3 rfl) G_Ca_37 K_By_cut V_By_cut rfl rfl (hS.lt (by decide)) rfl rfl (Nat.le_of_ble_eq_true rfl) (Nat.le_of_ble_eq_true rfl) (Nat.le_of_ble_eq_true rfl) (Nat.le_of_ble_eq_true rfl) (Nat.le_of_ble_eq_true rfl) ?_
  rintro v w ⟨rfl, hw1, hw2⟩
  have hS0 := hS
  have hS := hS0.sm hw1
  show Vv _ _ _ _ _ _ _ _ _ _ _ _ _ _ _ [] (0, 0, w.2.2)
  refine v_aload_n X (dk D_Ca_forget 4 rfl) rfl ?_
  refine v_iconst (v := 0) X (dk D_Ca_forget 5 rfl) (by decide) ?_
  refine v_putI X (dk D_Ca_forget 6 rfl) F_Ca_40 CK_Ca rfl rfl (hS.lt (by decide)) rfl rfl ?_
  refine v_aload_n X (dk D_Ca_forget 7 rfl) rfl ?_
  refine v_iconst (v := 0) X (dk D_Ca_forget 8 rfl) (by decide) ?_
  refine v_putI X (dk D_Ca_forget 9 rfl) F_Ca_44 CK_Ca rfl rfl (hS.lt (by decide)) rfl rfl ?_
  refine v_aload_n X (dk D_Ca_forget 10 rfl) rfl ?_
  refine v_iconst (v := 0) X (dk D_Ca_forget 11 rfl) (by decide) ?_
  refine v_putI X (dk D_Ca_forget 12 rfl) F_Ca_48 CK_Ca rfl rfl (hS.lt (by decide)) rfl rfl ?_
  exact v_vret X hlk hrt (dk D_Ca_forget 13 rfl) ⟨rfl, z9 hw1, RB.sm hw2 (((sm.rf _ [17]).xI (by simp)).xI (by simp) |>.xI (by simp)) (by decide) (by decide), by rw [gI_nk (by decide), gI_nk (by decide), gI_eq]; rfl, by decide, by rw [gI_nk (by decide), gI_eq]; rfl, gI_eq _ _ _ _, by decide, trivial⟩
theorem n_tok {f : Fr} {r : List Fr} {cm : Bool} {g : mu_T} (hC : CA g (f :: r) cm) (hne : f.2.1 ≠ []) : sm g (xI g 24 r.length (1 &&& 1)) CS ∧ CA (xI g 24 r.length (1 &&& 1)) ((f.1, f.2.1, f.2.2.1, true) :: r) cm := by
  obtain ⟨a, b, c, d, e, n, o1, o2, o3, o4, o5, o6, o7⟩ := hC
  have z : sm g (xI g 24 r.length (1 &&& 1)) [24] := (sm.rf g _).xI (by simp)
  refine ⟨z.mono (by decide), a.sm z (by decide) (by decide), b, c, d, e, n, ?_, ?_, ?_, fun _ => gI_eq _ _ _ _, fun j hj => ?_, o6, o7.below (fun i hi => ⟨?_, ?_, ?_, ?_⟩) (fun i hi => ?_)⟩
  · rw [z.I (by decide)]; exact o1
  · rw [z.I (by decide)]; exact o2
  · rw [z.I (by decide)]; exact o3
  · rw [z.I (by decide)]; exact o5 j hj
  · exact z.I (by decide) i
  · exact z.I (by decide) i
  · exact z.I (by decide) i
  · exact gI_nk (by omega)
  · exact z.I (by decide) i
set_option maxHeartbeats 4000000 in
set_option maxRecDepth 100000 in
theorem k_noteToken (l : Launch) (q : ev_T) {f : Fr} {r : List Fr} {cm : Bool} {g : mu_T} (hS : Shp g) (hC : CA g (f :: r) cm) (hne : f.2.1 ≠ []) : Ctr l q M_Ca_noteToken 1 [.ref 17] (0, 0, g) (fun v w => v = none ∧ sm g w.2.2 CS ∧ CA w.2.2 ((f.1, f.2.1, f.2.2.1, true) :: r) cm) := by
  have hop : gI g 17 1 = nI (r.length + 1) := hC.2.1
  have h50 : r.length + 1 ≤ 50 := hC.2.2.1
  obtain ⟨o1, o2, o3, o4, o5, o6, o7⟩ := hC.2.2.2.2.2.2
  have har : gI g 17 4 = nI (na r + f.2.1.length) := hC.2.2.2.2.1
  have hna : na r + f.2.1.length ≤ 8192 := hC.2.2.2.2.2.1
  have hcm := hC.2.2.2.1
  have hRB := hC.1
  refine Ctr.mk (lb := [some (.ref 17)]) (by decide +kernel) (Nat.le_of_ble_eq_true rfl) rfl rfl ?_
  intro pp ee ss mm aa bb mt cd X hrt hlk hnm
  refine v_aload_n X (dk D_Ca_noteToken 0 rfl) rfl ?_
  refine v_invV (As := []) (st := []) X (k_hasTop l q hS hC) (dk D_Ca_noteToken 1 rfl) G_Ca_62 K_Ca_hasTop V_Ca_hasTop rfl rfl (hS.lt (by decide)) rfl rfl (Nat.le_of_ble_eq_true rfl) (Nat.le_of_ble_eq_true rfl) (Nat.le_of_ble_eq_true rfl) (Nat.le_of_ble_eq_true rfl) (Nat.le_of_ble_eq_true rfl) ?_
  rintro v w ⟨rfl, hw⟩
  rw [hw, if_neg (List.cons_ne_nil _ _)]
  show Vv _ _ _ _ _ _ _ _ _ _ _ _ _ _ _ (.int 1 :: []) (0, 0, g)
  refine v_if_eq (tgt := 19) X (dk D_Ca_noteToken 2 rfl) (by decide) (fun c4 => absurd c4 (by decide)) (fun _ => ?_)
  refine v_aload_n X (dk D_Ca_noteToken 3 rfl) rfl ?_
  refine v_getF X (dk D_Ca_noteToken 4 rfl) F_Ca_33 rfl rfl (hS.lt (by decide)) (hS.2 17 8) ?_
  refine v_aload_n X (dk D_Ca_noteToken 5 rfl) rfl ?_
  refine v_getI X (dk D_Ca_noteToken 6 rfl) F_Ca_40 rfl rfl (hS.lt (by decide)) ?_
  refine v_iconst (v := 1) X (dk D_Ca_noteToken 7 rfl) (by decide) ?_
  refine v_isub X (dk D_Ca_noteToken 8 rfl) ?_
  rw [hop, show nI (r.length + 1) - 1 = nI r.length from pk_sub (b := 1) (by omega)]
  refine v_iconst (v := 1) X (dk D_Ca_noteToken 9 rfl) (by decide) ?_
  refine v_zast X (dk D_Ca_noteToken 10 rfl) rfl (hS.lt (by decide)) (vp_in_nI (show r.length < 50 by omega) (by decide)) rfl ?_
  exact v_vret X hlk hrt (dk D_Ca_noteToken 11 rfl) (by rw [nI_clamp (by omega)]; exact ⟨rfl, n_tok hC hne⟩)
set_option maxHeartbeats 4000000 in
set_option maxRecDepth 100000 in
theorem k_noteToken0 (l : Launch) (q : ev_T) {cm : Bool} {g : mu_T} (hS : Shp g) (hC : CA g [] cm) : Ctr l q M_Ca_noteToken 1 [.ref 17] (0, 0, g) (fun v w => v = none ∧ w.2.2 = g) := by

  refine Ctr.mk (lb := [some (.ref 17)]) (by decide +kernel) (Nat.le_of_ble_eq_true rfl) rfl rfl ?_
  intro pp ee ss mm aa bb mt cd X hrt hlk hnm
  refine v_aload_n X (dk D_Ca_noteToken 0 rfl) rfl ?_
  refine v_invV (As := []) (st := []) X (k_hasTop l q hS hC) (dk D_Ca_noteToken 1 rfl) G_Ca_62 K_Ca_hasTop V_Ca_hasTop rfl rfl (hS.lt (by decide)) rfl rfl (Nat.le_of_ble_eq_true rfl) (Nat.le_of_ble_eq_true rfl) (Nat.le_of_ble_eq_true rfl) (Nat.le_of_ble_eq_true rfl) (Nat.le_of_ble_eq_true rfl) ?_
  rintro v w ⟨rfl, hw⟩
  rw [hw, if_pos rfl]
  show Vv _ _ _ _ _ _ _ _ _ _ _ _ _ _ _ [.int 0] (0, 0, g)
  refine v_if_eq (tgt := 19) X (dk D_Ca_noteToken 2 rfl) (by decide) (fun _ => ?_) (fun c4 => absurd rfl c4)
  exact v_vret X hlk hrt (dk D_Ca_noteToken 11 rfl) ⟨rfl, rfl⟩
theorem n_nest {f : Fr} {r : List Fr} {cm c2 : Bool} {g : mu_T} {m : Nat} (hC : CA g (f :: r) cm) (hm : m < 1073741824) : sm g (xI (xI g 23 r.length (nI m)) 17 2 (if c2 = true then 1 else 0)) CS ∧ CA (xI (xI g 23 r.length (nI m)) 17 2 (if c2 = true then 1 else 0)) ((f.1, f.2.1, m, f.2.2.2) :: r) c2 := by
  obtain ⟨a, b, c, d, e, n, o1, o2, o3, o4, o5, o6, o7⟩ := hC
  have z : sm g (xI (xI g 23 r.length (nI m)) 17 2 (if c2 = true then 1 else 0)) [23, 17] := ((sm.rf g _).xI (by simp)).xI (by simp)
  refine ⟨z.mono (by decide), a.sm z (by decide) (by decide), (gI_nk (by decide)).trans b, c, gI_eq _ _ _ _, (gI_nk (by decide)).trans e, n, ?_, ?_, ?_, fun hn => ?_, fun j hj => ?_, hm, o7.below (fun i hi => ⟨?_, ?_, ?_, ?_⟩) (fun i hi => ?_)⟩
  · rw [z.I (by decide)]; exact o1
  · rw [z.I (by decide)]; exact o2
  · exact (gI_na (by decide)).trans (gI_eq _ _ _ _)
  · rw [z.I (by decide)]; exact o4 hn
  · rw [z.I (by decide)]; exact o5 j hj
  · exact z.I (by decide) i
  · exact z.I (by decide) i
  · exact (gI_na (by decide)).trans (gI_nk (by omega))
  · exact z.I (by decide) i
  · exact z.I (by decide) i
set_option maxHeartbeats 4000000 in
set_option maxRecDepth 100000 in
theorem k_nestUp (l : Launch) (q : ev_T) {f : Fr} {r : List Fr} {cm : Bool} {g : mu_T} (hS : Shp g) (hC : CA g (f :: r) cm) (hlim : f.2.2.1 < 1000000) : Ctr l q M_Ca_nest 1 [.ref 17, .int 1] (0, 0, g) (fun v w => v = none ∧ sm g w.2.2 CS ∧ CA w.2.2 ((f.1, f.2.1, f.2.2.1 + 1, f.2.2.2) :: r) (false)) := by
  have hop : gI g 17 1 = nI (r.length + 1) := hC.2.1
  have h50 : r.length + 1 ≤ 50 := hC.2.2.1
  obtain ⟨o1, o2, o3, o4, o5, o6, o7⟩ := hC.2.2.2.2.2.2
  have har : gI g 17 4 = nI (na r + f.2.1.length) := hC.2.2.2.2.1
  have hna : na r + f.2.1.length ≤ 8192 := hC.2.2.2.2.2.1
  have hcm := hC.2.2.2.1
  have hRB := hC.1
  refine Ctr.mk (lb := [some (.ref 17), some (.int 1)]) (by decide +kernel) (Nat.le_of_ble_eq_true rfl) rfl rfl ?_
  intro pp ee ss mm aa bb mt cd X hrt hlk hnm
  refine v_aload_n X (dk D_Ca_nest 0 rfl) rfl ?_
  refine v_invV (As := []) (st := []) X (k_hasTop l q hS hC) (dk D_Ca_nest 1 rfl) G_Ca_62 K_Ca_hasTop V_Ca_hasTop rfl rfl (hS.lt (by decide)) rfl rfl (Nat.le_of_ble_eq_true rfl) (Nat.le_of_ble_eq_true rfl) (Nat.le_of_ble_eq_true rfl) (Nat.le_of_ble_eq_true rfl) (Nat.le_of_ble_eq_true rfl) ?_
  rintro v w ⟨rfl, hw⟩
  rw [hw, if_neg (List.cons_ne_nil _ _)]
  show Vv _ _ _ _ _ _ _ _ _ _ _ _ _ _ _ (.int 1 :: []) (0, 0, g)
  refine v_if_eq (tgt := 45) X (dk D_Ca_nest 2 rfl) (by decide) (fun c4 => absurd c4 (by decide)) (fun _ => ?_)
  refine v_aload_n X (dk D_Ca_nest 3 rfl) rfl ?_
  refine v_getF X (dk D_Ca_nest 4 rfl) F_Ca_30 rfl rfl (hS.lt (by decide)) (hS.2 17 7) ?_
  refine v_aload_n X (dk D_Ca_nest 5 rfl) rfl ?_
  refine v_getI X (dk D_Ca_nest 6 rfl) F_Ca_40 rfl rfl (hS.lt (by decide)) ?_
  refine v_iconst (v := 1) X (dk D_Ca_nest 7 rfl) (by decide) ?_
  refine v_isub X (dk D_Ca_nest 8 rfl) ?_
  rw [hop, show nI (r.length + 1) - 1 = nI r.length from pk_sub (b := 1) (by omega)]
  refine v_dup2 X (dk D_Ca_nest 9 rfl) rfl rfl ?_
  refine v_iald X (dk D_Ca_nest 10 rfl) rfl (hS.lt (by decide)) (vp_in_nI (show r.length < 50 by omega) (by decide)) ?_
  refine v_iload_n X (dk D_Ca_nest 11 rfl) rfl ?_
  refine v_iadd X (dk D_Ca_nest 12 rfl) ?_
  rw [nI_clamp (by omega), o3, nI_1]
  refine v_iast X (dk D_Ca_nest 13 rfl) rfl (hS.lt (by decide)) (vp_in_nI (show r.length < 50 by omega) (by decide)) ?_
  rw [nI_clamp (by omega)]
  refine v_aload_n X (dk D_Ca_nest 14 rfl) rfl ?_
  refine v_aload_n X (dk D_Ca_nest 15 rfl) rfl ?_
  refine v_getF X (dk D_Ca_nest 16 rfl) F_Ca_30 rfl rfl (hS.lt (by decide)) (hS.2 17 7) ?_
  refine v_aload_n X (dk D_Ca_nest 17 rfl) rfl ?_
  refine v_getI X (dk D_Ca_nest 18 rfl) F_Ca_40 rfl rfl (hS.lt (by decide)) ?_
  refine v_iconst (v := 1) X (dk D_Ca_nest 19 rfl) (by decide) ?_
  refine v_isub X (dk D_Ca_nest 20 rfl) ?_
  rw [gI_na (by decide), hop, show nI (r.length + 1) - 1 = nI r.length from pk_sub (b := 1) (by omega)]
  refine v_iald X (dk D_Ca_nest 21 rfl) rfl (hS.lt (by decide)) (vp_in_nI (show r.length < 50 by omega) (by decide)) ?_
  rw [nI_clamp (by omega), gI_eq]
  refine v_if_ne (tgt := 41) X (dk D_Ca_nest 22 rfl) (by decide) (fun c34 => ?_) (fun c34 => ?_)
  · refine v_iconst (v := 0) X (dk D_Ca_nest 25 rfl) (by decide) ?_
    refine v_putI X (dk D_Ca_nest 26 rfl) F_Ca_44 CK_Ca rfl rfl (hS.lt (by decide)) rfl rfl ?_
    exact v_vret X hlk hrt (dk D_Ca_nest 27 rfl) ⟨rfl, n_nest (c2 := false) hC (by omega)⟩
  · refine v_iconst (v := 1) X (dk D_Ca_nest 23 rfl) (by decide) ?_
    refine v_goto (tgt := 42) X (dk D_Ca_nest 24 rfl) (by decide) ?_
    refine v_putI X (dk D_Ca_nest 26 rfl) F_Ca_44 CK_Ca rfl rfl (hS.lt (by decide)) rfl rfl ?_
    exact v_vret X hlk hrt (dk D_Ca_nest 27 rfl) (absurd c34 (nI_ne0 (Nat.succ_pos _) (by omega)))
set_option maxHeartbeats 4000000 in
set_option maxRecDepth 100000 in
theorem k_nestDown (l : Launch) (q : ev_T) {f : Fr} {r : List Fr} {cm : Bool} {g : mu_T} (hS : Shp g) (hC : CA g (f :: r) cm) (hpos : 0 < f.2.2.1) : Ctr l q M_Ca_nest 1 [.ref 17, .int (-1)] (0, 0, g) (fun v w => v = none ∧ sm g w.2.2 CS ∧ CA w.2.2 ((f.1, f.2.1, f.2.2.1 - 1, f.2.2.2) :: r) (decide (f.2.2.1 = 1))) := by
  have hop : gI g 17 1 = nI (r.length + 1) := hC.2.1
  have h50 : r.length + 1 ≤ 50 := hC.2.2.1
  obtain ⟨o1, o2, o3, o4, o5, o6, o7⟩ := hC.2.2.2.2.2.2
  have har : gI g 17 4 = nI (na r + f.2.1.length) := hC.2.2.2.2.1
  have hna : na r + f.2.1.length ≤ 8192 := hC.2.2.2.2.2.1
  have hcm := hC.2.2.2.1
  have hRB := hC.1
  refine Ctr.mk (lb := [some (.ref 17), some (.int (-1))]) (by decide +kernel) (Nat.le_of_ble_eq_true rfl) rfl rfl ?_
  intro pp ee ss mm aa bb mt cd X hrt hlk hnm
  refine v_aload_n X (dk D_Ca_nest 0 rfl) rfl ?_
  refine v_invV (As := []) (st := []) X (k_hasTop l q hS hC) (dk D_Ca_nest 1 rfl) G_Ca_62 K_Ca_hasTop V_Ca_hasTop rfl rfl (hS.lt (by decide)) rfl rfl (Nat.le_of_ble_eq_true rfl) (Nat.le_of_ble_eq_true rfl) (Nat.le_of_ble_eq_true rfl) (Nat.le_of_ble_eq_true rfl) (Nat.le_of_ble_eq_true rfl) ?_
  rintro v w ⟨rfl, hw⟩
  rw [hw, if_neg (List.cons_ne_nil _ _)]
  show Vv _ _ _ _ _ _ _ _ _ _ _ _ _ _ _ (.int 1 :: []) (0, 0, g)
  refine v_if_eq (tgt := 45) X (dk D_Ca_nest 2 rfl) (by decide) (fun c4 => absurd c4 (by decide)) (fun _ => ?_)
  refine v_aload_n X (dk D_Ca_nest 3 rfl) rfl ?_
  refine v_getF X (dk D_Ca_nest 4 rfl) F_Ca_30 rfl rfl (hS.lt (by decide)) (hS.2 17 7) ?_
  refine v_aload_n X (dk D_Ca_nest 5 rfl) rfl ?_
  refine v_getI X (dk D_Ca_nest 6 rfl) F_Ca_40 rfl rfl (hS.lt (by decide)) ?_
  refine v_iconst (v := 1) X (dk D_Ca_nest 7 rfl) (by decide) ?_
  refine v_isub X (dk D_Ca_nest 8 rfl) ?_
  rw [hop, show nI (r.length + 1) - 1 = nI r.length from pk_sub (b := 1) (by omega)]
  refine v_dup2 X (dk D_Ca_nest 9 rfl) rfl rfl ?_
  refine v_iald X (dk D_Ca_nest 10 rfl) rfl (hS.lt (by decide)) (vp_in_nI (show r.length < 50 by omega) (by decide)) ?_
  refine v_iload_n X (dk D_Ca_nest 11 rfl) rfl ?_
  refine v_iadd X (dk D_Ca_nest 12 rfl) ?_
  rw [nI_clamp (by omega), o3, sb_m1 hpos]
  refine v_iast X (dk D_Ca_nest 13 rfl) rfl (hS.lt (by decide)) (vp_in_nI (show r.length < 50 by omega) (by decide)) ?_
  rw [nI_clamp (by omega)]
  refine v_aload_n X (dk D_Ca_nest 14 rfl) rfl ?_
  refine v_aload_n X (dk D_Ca_nest 15 rfl) rfl ?_
  refine v_getF X (dk D_Ca_nest 16 rfl) F_Ca_30 rfl rfl (hS.lt (by decide)) (hS.2 17 7) ?_
  refine v_aload_n X (dk D_Ca_nest 17 rfl) rfl ?_
  refine v_getI X (dk D_Ca_nest 18 rfl) F_Ca_40 rfl rfl (hS.lt (by decide)) ?_
  refine v_iconst (v := 1) X (dk D_Ca_nest 19 rfl) (by decide) ?_
  refine v_isub X (dk D_Ca_nest 20 rfl) ?_
  rw [gI_na (by decide), hop, show nI (r.length + 1) - 1 = nI r.length from pk_sub (b := 1) (by omega)]
  refine v_iald X (dk D_Ca_nest 21 rfl) rfl (hS.lt (by decide)) (vp_in_nI (show r.length < 50 by omega) (by decide)) ?_
  rw [nI_clamp (by omega), gI_eq]
  refine v_if_ne (tgt := 41) X (dk D_Ca_nest 22 rfl) (by decide) (fun c34 => ?_) (fun c34 => ?_)
  · refine v_iconst (v := 0) X (dk D_Ca_nest 25 rfl) (by decide) ?_
    refine v_putI X (dk D_Ca_nest 26 rfl) F_Ca_44 CK_Ca rfl rfl (hS.lt (by decide)) rfl rfl ?_
    exact v_vret X hlk hrt (dk D_Ca_nest 27 rfl) ⟨rfl, by have hd : decide (f.2.2.1 = 1) = false := decide_eq_false (fun e => c34 (by rw [e]; rfl)); rw [hd]; exact n_nest (c2 := false) hC (by omega)⟩
  · refine v_iconst (v := 1) X (dk D_Ca_nest 23 rfl) (by decide) ?_
    refine v_goto (tgt := 42) X (dk D_Ca_nest 24 rfl) (by decide) ?_
    refine v_putI X (dk D_Ca_nest 26 rfl) F_Ca_44 CK_Ca rfl rfl (hS.lt (by decide)) rfl rfl ?_
    exact v_vret X hlk hrt (dk D_Ca_nest 27 rfl) ⟨rfl, by have hd : decide (f.2.2.1 = 1) = true := decide_eq_true (by rcases Nat.lt_or_ge 1 f.2.2.1 with z | z; exact absurd c34 (nI_ne0 (by omega) (by omega)); omega); rw [hd]; exact n_nest (c2 := true) hC (by omega)⟩
end
section
/-! Calls: begin, beginArgument, end, hold -/
theorem n_room {n : Nat} {xs ys : List Int32} (h : xs.length + ys.length ≤ n) : (if false = true ∨ n < xs.length + ys.length then xs else xs ++ (ys.drop 0).take ys.length) = xs ++ ys ∧ (false || decide (n < xs.length + ys.length)) = false := by
  rw [if_neg (by intro e; rcases e with e | e; exact absurd e (by decide); omega), List.drop_zero, List.take_length]
  exact ⟨rfl, by rw [Bool.false_or]; exact decide_eq_false (by omega)⟩
theorem n_hold {nm : List Int32} {as : List (List Int32)} {a ys : List Int32} {m : Nat} {t cm : Bool} {r : List Fr} {g k : mu_T} (hC : CA g ((nm, as ++ [a], m, t) :: r) cm) (z : sm g k [18, 19]) (hk : RB k 18 19 16384 (hl ((nm, as ++ [a], m, t) :: r) ++ ys) false) : CA k ((nm, as ++ [a ++ ys], m, t) :: r) cm := by
  obtain ⟨q1, b, c, d, e, n, o1, o2, o3, o4, o5, o6, o7⟩ := hC
  refine ⟨?_, ?_, c, ?_, ?_, ?_, ?_, ?_, ?_, fun hn => ?_, fun j hj => ?_, o6, o7.sm z (by decide) (by decide) (by decide) (by decide) (by decide)⟩
  · have e : hl ((nm, as ++ [a ++ ys], m, t) :: r) = hl ((nm, as ++ [a], m, t) :: r) ++ ys := by simp [hl]
    rw [e]; exact hk
  · rw [z.I (by decide)]; exact b
  · rw [z.I (by decide)]; exact d
  · rw [z.I (by decide), e]; simp [na]
  · simp [na] at n ⊢; exact n
  · rw [z.I (by decide)]; exact o1
  · rw [z.I (by decide)]; exact o2
  · rw [z.I (by decide)]; exact o3
  · rw [z.I (by decide)]; exact o4 (by simp)
  · have hj' : j ≤ as.length := by simp at hj; omega
    rw [z.I (by decide), o5 j (by simp; omega)]
    show _ = nI ((hl r).length + nm.length + ((as ++ [a ++ ys]).take j).flatten.length)
    rw [List.take_append_of_le_length hj', List.take_append_of_le_length hj']
theorem n_begin {fs : List Fr} {ys : List Int32} {cm : Bool} {g k : mu_T} (hC : CA g fs cm) (h50 : fs.length < 50) (z : sm (xI (xI (xI (xI g 21 fs.length (nI (hl fs).length)) 22 fs.length (nI (na fs))) 23 fs.length 1) 17 1 (nI (fs.length + 1))) k [18, 19]) (hk : RB k 18 19 16384 (hl fs ++ ys) false) : CA k ((ys, [], 1, false) :: fs) cm := by
  obtain ⟨q1, b, c, d, e, n, o7⟩ := hC
  refine ⟨?_, ?_, h50, ?_, ?_, ?_, ?_, ?_, ?_, fun hn => absurd rfl hn, fun j hj => absurd hj (Nat.not_lt_zero _), (show 1 < 1073741824 by decide), ?_⟩
  · have e : hl ((ys, [], 1, false) :: fs) = hl fs ++ ys := by simp [hl]
    rw [e]; exact hk
  · rw [z.I (by decide), gI_eq]; rfl
  · rw [z.I (by decide), gI_nk (by decide), gI_na (by decide), gI_na (by decide), gI_na (by decide)]; exact d
  · rw [z.I (by decide), gI_nk (by decide), gI_na (by decide), gI_na (by decide), gI_na (by decide), e]; rfl
  · exact n
  · rw [z.I (by decide), gI_na (by decide), gI_na (by decide), gI_na (by decide), gI_eq]
  · rw [z.I (by decide), gI_na (by decide), gI_na (by decide), gI_eq]
  · rw [z.I (by decide), gI_na (by decide), gI_eq]; rfl
  · refine o7.below (fun i hi => ⟨?_, ?_, ?_, ?_⟩) (fun i hi => ?_)
    · rw [z.I (by decide), gI_na (by decide), gI_na (by decide), gI_na (by decide), gI_nk (by omega)]
    · rw [z.I (by decide), gI_na (by decide), gI_na (by decide), gI_nk (by omega), gI_na (by decide)]
    · rw [z.I (by decide), gI_na (by decide), gI_nk (by omega), gI_na (by decide), gI_na (by decide)]
    · rw [z.I (by decide), gI_na (by decide), gI_na (by decide), gI_na (by decide), gI_na (by decide)]
    · rw [z.I (by decide), gI_na (by decide), gI_na (by decide), gI_na (by decide), gI_na (by decide)]
theorem n_barg {f : Fr} {r : List Fr} {cm : Bool} {g : mu_T} (hC : CA g (f :: r) cm) (hn : na (f :: r) < 8192) : sm g (xI (xI (xI g 20 (na (f :: r)) (nI (hl (f :: r)).length)) 17 4 (nI (na (f :: r) + 1))) 24 r.length (0 &&& 1)) CS ∧ CA (xI (xI (xI g 20 (na (f :: r)) (nI (hl (f :: r)).length)) 17 4 (nI (na (f :: r) + 1))) 24 r.length (0 &&& 1)) ((f.1, f.2.1 ++ [[]], f.2.2.1, false) :: r) cm := by
  obtain ⟨q1, b, c, d, e, n, o1, o2, o3, o4, o5, o6, o7⟩ := hC
  have z : sm g (xI (xI (xI g 20 (na (f :: r)) (nI (hl (f :: r)).length)) 17 4 (nI (na (f :: r) + 1))) 24 r.length (0 &&& 1)) [20, 17, 24] := (((sm.rf g _).xI (by simp)).xI (by simp)).xI (by simp)
  have el : hl ((f.1, f.2.1 ++ [[]], f.2.2.1, false) :: r) = hl (f :: r) := by simp [hl]
  have en : na ((f.1, f.2.1 ++ [[]], f.2.2.1, false) :: r) = na (f :: r) + 1 := by simp [na]; omega
  refine ⟨z.mono (by decide), ?_, ?_, c, ?_, ?_, ?_, ?_, ?_, ?_, fun _ => gI_eq _ _ _ _, fun j hj => ?_, o6, ?_⟩
  · rw [el]; exact q1.sm z (by decide) (by decide)
  · rw [gI_na (by decide), gI_nk (by decide), gI_na (by decide)]; exact b
  · rw [gI_na (by decide), gI_nk (by decide), gI_na (by decide)]; exact d
  · rw [gI_na (by decide), gI_eq, en]
  · rw [en]; exact hn
  · rw [z.I (by decide)]; exact o1
  · rw [z.I (by decide)]; exact o2
  · rw [z.I (by decide)]; exact o3
  · show gI _ 20 (na r + j) = nI ((hl r).length + f.1.length + ((f.2.1 ++ [[]]).take j).flatten.length)
    have hj' : j < f.2.1.length + 1 := by simpa using hj
    rw [gI_na (by decide), gI_na (by decide)]
    rcases Nat.lt_or_ge j f.2.1.length with y | y
    · rw [gI_nk (by simp only [na]; omega), o5 j y, List.take_append_of_le_length (by omega)]
    · have ej : j = f.2.1.length := by omega
      rw [ej, show na r + f.2.1.length = na (f :: r) from rfl, gI_eq, List.take_append_of_le_length (Nat.le_refl _), List.take_length]
      simp only [hl, List.length_append]
      rw [Nat.add_assoc]
  · refine o7.below (fun i hi => ⟨?_, ?_, ?_, ?_⟩) (fun i hi => ?_)
    · exact z.I (by decide) i
    · exact z.I (by decide) i
    · exact z.I (by decide) i
    · rw [gI_nk (by omega), gI_na (by decide), gI_na (by decide)]
    · rw [gI_na (by decide), gI_na (by decide), gI_nk (by simp only [na]; omega)]
theorem n_end {f : Fr} {r : List Fr} {cm : Bool} {g k : mu_T} (hC : CA g (f :: r) cm) (z : sm (xI g 17 1 (nI r.length)) k [18]) (hk : RB k 18 19 16384 ((hl (f :: r)).take (hl r).length) false) : sm g (xI (xI k 17 4 (nI (na r))) 17 2 0) CS ∧ CA (xI (xI k 17 4 (nI (na r))) 17 2 0) r false := by
  obtain ⟨q1, b, c, d, e, n, o1, o2, o3, o4, o5, o6, o7⟩ := hC
  have y : sm g (xI (xI k 17 4 (nI (na r))) 17 2 0) [17, 18] := (((((sm.rf g [17]).xI (by simp)).tr z (U := [17, 18]) (by decide) (by decide))).xI (by decide)).xI (by decide)
  have y2 : sm k (xI (xI k 17 4 (nI (na r))) 17 2 0) [17] := ((sm.rf k [17]).xI (by simp)).xI (by simp)
  have c' : r.length + 1 ≤ 50 := c
  have n' : na r + f.2.1.length ≤ 8192 := n
  refine ⟨y.mono (by decide), ?_, ?_, by omega, gI_eq _ _ _ _, ?_, by omega, o7.sm y (by decide) (by decide) (by decide) (by decide) (by decide)⟩
  · have el : (hl (f :: r)).take (hl r).length = hl r := by
      rw [hl, List.take_append_of_le_length (Nat.le_refl _), List.take_length]
    rw [el] at hk
    exact hk.sm y2 (by decide) (by decide)
  · rw [gI_nk (by decide), gI_nk (by decide), z.I (by decide), gI_eq]
  · rw [gI_nk (by decide), gI_eq]
set_option maxHeartbeats 4000000 in
set_option maxRecDepth 100000 in
theorem k_hold (l : Launch) (q : ev_T) {b r0 n0 : Nat} {ys : List Int32} {ov : Bool} {nm : List Int32} {as : List (List Int32)} {a : List Int32} {m : Nat} {t cm : Bool} {r : List Fr} {g : mu_T} (hS : Shp g) (hC : CA g ((nm, as ++ [a], m, t) :: r) cm) (hY : RB g b r0 n0 ys ov) (hn0 : n0 < 1073741824) (hbS : b ∉ CS) (hrS : r0 ∉ CS) : Ctr l q M_Ca_hold 2 [.ref 17, .ref b] (0, 0, g) (fun v w => v = some (.int (if (hl ((nm, as ++ [a], m, t) :: r)).length + ys.length ≤ 16384 then 1 else 0)) ∧ sm g w.2.2 CS ∧ ((hl ((nm, as ++ [a], m, t) :: r)).length + ys.length ≤ 16384 → CA w.2.2 ((nm, as ++ [a ++ ys], m, t) :: r) cm) ∧ (¬ (hl ((nm, as ++ [a], m, t) :: r)).length + ys.length ≤ 16384 → w.2.2 = g)) := by
  have hyl : ys.length < 1073741824 := Nat.lt_of_le_of_lt hY.2.1 hn0
  refine Ctr.mk (lb := [some (.ref 17), some (.ref b)]) (by decide +kernel) (Nat.le_of_ble_eq_true rfl) rfl rfl ?_
  intro pp ee ss mm aa bb mt cd X hrt hlk hnm
  refine v_aload_n X (dk D_Ca_hold 0 rfl) rfl ?_
  refine v_getF X (dk D_Ca_hold 1 rfl) F_Ca_14 rfl rfl (hS.lt (by decide)) (hS.2 17 0) ?_
  refine v_aload_n X (dk D_Ca_hold 2 rfl) rfl ?_
  refine v_getI X (dk D_Ca_hold 3 rfl) F_Ca_51 rfl hY.1.1 hY.1.2.1 ?_
  rw [hY.2.2.1]
  refine v_invV (As := [.int (nI ys.length)]) (st := []) X (k_hasRoom l q hC.1 hyl (by decide)) (dk D_Ca_hold 4 rfl) G_Ca_54 K_By_hasRoom V_By_hasRoom rfl rfl (hS.lt (by decide)) rfl rfl (Nat.le_of_ble_eq_true rfl) (Nat.le_of_ble_eq_true rfl) (Nat.le_of_ble_eq_true rfl) (Nat.le_of_ble_eq_true rfl) (Nat.le_of_ble_eq_true rfl) ?_
  rintro v w ⟨rfl, hw⟩
  rw [hw]
  show Vv _ _ _ _ _ _ _ _ _ _ _ _ _ _ _ [.int (if (hl ((nm, as ++ [a], m, t) :: r)).length + ys.length ≤ 16384 then 1 else 0)] (0, 0, g)
  refine v_if_ne (tgt := 16) X (dk D_Ca_hold 5 rfl) (by decide) (fun c11 => ?_) (fun c11 => ?_)
  · refine v_aload_n X (dk D_Ca_hold 8 rfl) rfl ?_
    refine v_getF X (dk D_Ca_hold 9 rfl) F_Ca_14 rfl rfl (hS.lt (by decide)) (hS.2 17 0) ?_
    refine v_aload_n X (dk D_Ca_hold 10 rfl) rfl ?_
    refine v_iconst (v := nI 0) X (dk D_Ca_hold 11 rfl) (by decide) ?_
    refine v_aload_n X (dk D_Ca_hold 12 rfl) rfl ?_
    refine v_getI X (dk D_Ca_hold 13 rfl) F_Ca_51 rfl hY.1.1 hY.1.2.1 ?_
    rw [hY.2.2.1]
    refine v_invV (As := [.ref b, .int (nI 0), .int (nI ys.length)]) (st := []) X (k_addPart l q hC.1 hY (f := 0) (by omega) (by decide) hn0) (dk D_Ca_hold 14 rfl) G_Ca_58 K_By_addPart V_By_addPart rfl rfl (hS.lt (by decide)) rfl rfl (Nat.le_of_ble_eq_true rfl) (Nat.le_of_ble_eq_true rfl) (Nat.le_of_ble_eq_true rfl) (Nat.le_of_ble_eq_true rfl) (Nat.le_of_ble_eq_true rfl) ?_
    rintro v w ⟨rfl, hw1, hw2⟩
    show Vv _ _ _ _ _ _ _ _ _ _ _ _ _ _ _ [] (0, 0, w.2.2)
    refine v_iconst (v := 1) X (dk D_Ca_hold 15 rfl) (by decide) ?_
    exact v_zret X hlk hrt rfl (dk D_Ca_hold 16 rfl) (by have hc : (hl ((nm, as ++ [a], m, t) :: r)).length + ys.length ≤ 16384 := Decidable.byContradiction (fun e => c11 (if_neg e)); obtain ⟨e1, e2⟩ := n_room hc; rw [e1, e2] at hw2; rw [if_pos hc]; exact ⟨rfl, hw1.mono (by decide), fun _ => n_hold hC hw1 hw2, fun e => absurd hc e⟩)
  · refine v_iconst (v := 0) X (dk D_Ca_hold 6 rfl) (by decide) ?_
    exact v_zret X hlk hrt rfl (dk D_Ca_hold 7 rfl) (by have hc : ¬ (hl ((nm, as ++ [a], m, t) :: r)).length + ys.length ≤ 16384 := fun e => absurd c11 (by rw [if_pos e]; decide); rw [if_neg hc]; exact ⟨rfl, sm.rf _ _, fun e => absurd e hc, fun _ => rfl⟩)
set_option maxHeartbeats 4000000 in
set_option maxRecDepth 100000 in
theorem k_begin (l : Launch) (q : ev_T) {b r0 n0 : Nat} {ys : List Int32} {ov : Bool} {fs : List Fr} {cm : Bool} {g : mu_T} (hS : Shp g) (hC : CA g fs cm) (hY : RB g b r0 n0 ys ov) (hn0 : n0 < 1073741824) (hbS : b ∉ CS) (hrS : r0 ∉ CS) : Ctr l q M_Ca_begin 2 [.ref 17, .ref b] (0, 0, g) (fun v w => v = some (.int (if (fs.length < 50 ∧ (hl fs).length + ys.length ≤ 16384) then 1 else 0)) ∧ sm g w.2.2 CS ∧ ((fs.length < 50 ∧ (hl fs).length + ys.length ≤ 16384) → CA w.2.2 ((ys, [], 1, false) :: fs) cm) ∧ (¬ (fs.length < 50 ∧ (hl fs).length + ys.length ≤ 16384) → w.2.2 = g)) := by
  have hyl : ys.length < 1073741824 := Nat.lt_of_le_of_lt hY.2.1 hn0
  have hop := hC.2.1
  have h50z := hC.2.2.1
  have hnz := hC.2.2.2.2.2.1
  refine Ctr.mk (lb := [some (.ref 17), some (.ref b)]) (by decide +kernel) (Nat.le_of_ble_eq_true rfl) rfl rfl ?_
  intro pp ee ss mm aa bb mt cd X hrt hlk hnm
  refine v_aload_n X (dk D_Ca_begin 0 rfl) rfl ?_
  refine v_getI X (dk D_Ca_begin 1 rfl) F_Ca_40 rfl rfl (hS.lt (by decide)) ?_
  refine v_if_lt (tgt := 30) X (dk D_Ca_begin 2 rfl) (by decide) (fun c4 => absurd c4 (by rw [hop]; exact nI_pos (by omega))) (fun _ => ?_)
  refine v_aload_n X (dk D_Ca_begin 3 rfl) rfl ?_
  refine v_getI X (dk D_Ca_begin 4 rfl) F_Ca_40 rfl rfl (hS.lt (by decide)) ?_
  refine v_bipush (v := 50) X (dk D_Ca_begin 5 rfl) (by decide) ?_
  refine v_icmp_ge (tgt := 30) X (dk D_Ca_begin 6 rfl) (by decide) (fun c13 => ?_) (fun c13 => ?_)
  · refine v_iconst (v := 0) X (dk D_Ca_begin 13 rfl) (by decide) ?_
    exact v_zret X hlk hrt rfl (dk D_Ca_begin 14 rfl) (by have hc : ¬ (fs.length < 50 ∧ (hl fs).length + ys.length ≤ 16384) := (fun e => absurd c13 (by rw [hop]; exact nI_ge (b := 50) e.1 (by decide))); rw [if_neg hc]; exact ⟨rfl, sm.rf _ _, fun e => absurd e hc, fun _ => rfl⟩)
  · refine v_aload_n X (dk D_Ca_begin 7 rfl) rfl ?_
    refine v_getF X (dk D_Ca_begin 8 rfl) F_Ca_14 rfl rfl (hS.lt (by decide)) (hS.2 17 0) ?_
    refine v_aload_n X (dk D_Ca_begin 9 rfl) rfl ?_
    refine v_getI X (dk D_Ca_begin 10 rfl) F_Ca_51 rfl hY.1.1 hY.1.2.1 ?_
    rw [hY.2.2.1]
    refine v_invV (As := [.int (nI ys.length)]) (st := []) X (k_hasRoom l q hC.1 hyl (by decide)) (dk D_Ca_begin 11 rfl) G_Ca_54 K_By_hasRoom V_By_hasRoom rfl rfl (hS.lt (by decide)) rfl rfl (Nat.le_of_ble_eq_true rfl) (Nat.le_of_ble_eq_true rfl) (Nat.le_of_ble_eq_true rfl) (Nat.le_of_ble_eq_true rfl) (Nat.le_of_ble_eq_true rfl) ?_
    rintro v w ⟨rfl, hw⟩
    rw [hw]
    show Vv _ _ _ _ _ _ _ _ _ _ _ _ _ _ _ [.int (if (hl fs).length + ys.length ≤ 16384 then 1 else 0)] (0, 0, g)
    refine v_if_ne (tgt := 32) X (dk D_Ca_begin 12 rfl) (by decide) (fun c27 => ?_) (fun c27 => ?_)
    · refine v_aload_n X (dk D_Ca_begin 15 rfl) rfl ?_
      refine v_getF X (dk D_Ca_begin 16 rfl) F_Ca_24 rfl rfl (hS.lt (by decide)) (hS.2 17 5) ?_
      refine v_aload_n X (dk D_Ca_begin 17 rfl) rfl ?_
      refine v_getI X (dk D_Ca_begin 18 rfl) F_Ca_40 rfl rfl (hS.lt (by decide)) ?_
      have h50 : fs.length < 50 := by rw [hop] at c13; rcases Nat.lt_or_ge fs.length 50 with e | e; exact e; exact absurd (nI_le (a := 50) e (by omega)) c13
      rw [hop]
      refine v_aload_n X (dk D_Ca_begin 19 rfl) rfl ?_
      refine v_getF X (dk D_Ca_begin 20 rfl) F_Ca_14 rfl rfl (hS.lt (by decide)) (hS.2 17 0) ?_
      refine v_getI X (dk D_Ca_begin 21 rfl) F_Ca_51 rfl rfl (hS.lt (by decide)) ?_
      rw [hC.1.2.2.1]
      refine v_iast X (dk D_Ca_begin 22 rfl) rfl (hS.lt (by decide)) (vp_in_nI (show fs.length < 50 from h50) (by decide)) ?_
      rw [nI_clamp (by omega)]
      refine v_aload_n X (dk D_Ca_begin 23 rfl) rfl ?_
      refine v_getF X (dk D_Ca_begin 24 rfl) F_Ca_27 rfl rfl (hS.lt (by decide)) (hS.2 17 6) ?_
      refine v_aload_n X (dk D_Ca_begin 25 rfl) rfl ?_
      refine v_getI X (dk D_Ca_begin 26 rfl) F_Ca_40 rfl rfl (hS.lt (by decide)) ?_
      rw [gI_na (by decide), hop]
      refine v_aload_n X (dk D_Ca_begin 27 rfl) rfl ?_
      refine v_getI X (dk D_Ca_begin 28 rfl) F_Ca_48 rfl rfl (hS.lt (by decide)) ?_
      rw [gI_na (by decide), hC.2.2.2.2.1]
      refine v_iast X (dk D_Ca_begin 29 rfl) rfl (hS.lt (by decide)) (vp_in_nI (show fs.length < 50 from h50) (by decide)) ?_
      rw [nI_clamp (by omega)]
      refine v_aload_n X (dk D_Ca_begin 30 rfl) rfl ?_
      refine v_getF X (dk D_Ca_begin 31 rfl) F_Ca_30 rfl rfl (hS.lt (by decide)) (hS.2 17 7) ?_
      refine v_aload_n X (dk D_Ca_begin 32 rfl) rfl ?_
      refine v_getI X (dk D_Ca_begin 33 rfl) F_Ca_40 rfl rfl (hS.lt (by decide)) ?_
      rw [gI_na (by decide), gI_na (by decide), hop]
      refine v_iconst (v := 1) X (dk D_Ca_begin 34 rfl) (by decide) ?_
      refine v_iast X (dk D_Ca_begin 35 rfl) rfl (hS.lt (by decide)) (vp_in_nI (show fs.length < 50 from h50) (by decide)) ?_
      rw [nI_clamp (by omega)]
      refine v_aload_n X (dk D_Ca_begin 36 rfl) rfl ?_
      refine v_dup X (dk D_Ca_begin 37 rfl) rfl ?_
      refine v_getI X (dk D_Ca_begin 38 rfl) F_Ca_40 rfl rfl (hS.lt (by decide)) ?_
      refine v_iconst (v := 1) X (dk D_Ca_begin 39 rfl) (by decide) ?_
      refine v_iadd X (dk D_Ca_begin 40 rfl) ?_
      rw [gI_na (by decide), gI_na (by decide), gI_na (by decide), hop, nI_1]
      refine v_putI X (dk D_Ca_begin 41 rfl) F_Ca_40 CK_Ca rfl rfl (hS.lt (by decide)) rfl rfl ?_
      have z1 : sm g (xI (xI (xI (xI g 21 fs.length (nI (hl fs).length)) 22 fs.length (nI (na fs))) 23 fs.length 1) 17 1 (nI (fs.length + 1))) [21, 22, 23, 17] := ((((sm.rf g _).xI (by simp)).xI (by simp)).xI (by simp)).xI (by simp)
      have hbS1 : b ∉ [21, 22, 23, 17] := fun e => hbS ((by decide : ∀ x ∈ [21, 22, 23, 17], x ∈ CS) b e)
      have hrS1 : r0 ∉ [21, 22, 23, 17] := fun e => hrS ((by decide : ∀ x ∈ [21, 22, 23, 17], x ∈ CS) r0 e)
      show Vv _ _ _ _ _ _ _ _ _ _ _ _ _ _ _ _ (0, 0, (xI (xI (xI (xI g 21 fs.length (nI (hl fs).length)) 22 fs.length (nI (na fs))) 23 fs.length 1) 17 1 (nI (fs.length + 1))))
      refine v_aload_n X (dk D_Ca_begin 42 rfl) rfl ?_
      refine v_getF X (dk D_Ca_begin 43 rfl) F_Ca_14 rfl rfl (hS.lt (by decide)) (hS.2 17 0) ?_
      refine v_aload_n X (dk D_Ca_begin 44 rfl) rfl ?_
      refine v_iconst (v := nI 0) X (dk D_Ca_begin 45 rfl) (by decide) ?_
      refine v_aload_n X (dk D_Ca_begin 46 rfl) rfl ?_
      refine v_getI X (dk D_Ca_begin 47 rfl) F_Ca_51 rfl hY.1.1 hY.1.2.1 ?_
      rw [z1.I hbS1, hY.2.2.1]
      refine v_invV (As := [.ref b, .int (nI 0), .int (nI ys.length)]) (st := []) X (k_addPart l q (hC.1.sm z1 (by decide) (by decide)) (hY.sm z1 hbS1 hrS1) (f := 0) (by omega) (by decide) hn0) (dk D_Ca_begin 48 rfl) G_Ca_58 K_By_addPart V_By_addPart rfl rfl ((hS.sm z1).lt (by decide)) rfl rfl (Nat.le_of_ble_eq_true rfl) (Nat.le_of_ble_eq_true rfl) (Nat.le_of_ble_eq_true rfl) (Nat.le_of_ble_eq_true rfl) (Nat.le_of_ble_eq_true rfl) ?_
      rintro v w ⟨rfl, hw1, hw2⟩
      show Vv _ _ _ _ _ _ _ _ _ _ _ _ _ _ _ [] (0, 0, w.2.2)
      refine v_iconst (v := 1) X (dk D_Ca_begin 49 rfl) (by decide) ?_
      exact v_zret X hlk hrt rfl (dk D_Ca_begin 50 rfl) (by have hc : (fs.length < 50 ∧ (hl fs).length + ys.length ≤ 16384) := ⟨h50, Decidable.byContradiction (fun e => c27 (if_neg e))⟩; obtain ⟨e1, e2⟩ := n_room hc.2; rw [e1, e2] at hw2; rw [if_pos hc]; exact ⟨rfl, z1.tr hw1 (by decide) (by decide), fun _ => n_begin hC h50 hw1 hw2, fun e => absurd hc e⟩)
    · refine v_iconst (v := 0) X (dk D_Ca_begin 13 rfl) (by decide) ?_
      exact v_zret X hlk hrt rfl (dk D_Ca_begin 14 rfl) (by have hc : ¬ (fs.length < 50 ∧ (hl fs).length + ys.length ≤ 16384) := (fun e => absurd c27 (by rw [if_pos e.2]; decide)); rw [if_neg hc]; exact ⟨rfl, sm.rf _ _, fun e => absurd e hc, fun _ => rfl⟩)
set_option maxHeartbeats 4000000 in
set_option maxRecDepth 100000 in
theorem k_beginArgument (l : Launch) (q : ev_T) {f : Fr} {r : List Fr} {cm : Bool} {g : mu_T} (hS : Shp g) (hC : CA g (f :: r) cm) : Ctr l q M_Ca_beginArgument 1 [.ref 17] (0, 0, g) (fun v w => v = some (.int (if na (f :: r) < 8192 then 1 else 0)) ∧ sm g w.2.2 CS ∧ (na (f :: r) < 8192 → CA w.2.2 ((f.1, f.2.1 ++ [[]], f.2.2.1, false) :: r) cm) ∧ (¬ na (f :: r) < 8192 → w.2.2 = g)) := by
  have hop : gI g 17 1 = nI (r.length + 1) := hC.2.1
  have h50 : r.length + 1 ≤ 50 := hC.2.2.1
  have har : gI g 17 4 = nI (na (f :: r)) := hC.2.2.2.2.1
  have hna : na (f :: r) ≤ 8192 := hC.2.2.2.2.2.1
  refine Ctr.mk (lb := [some (.ref 17)]) (by decide +kernel) (Nat.le_of_ble_eq_true rfl) rfl rfl ?_
  intro pp ee ss mm aa bb mt cd X hrt hlk hnm
  refine v_aload_n X (dk D_Ca_beginArgument 0 rfl) rfl ?_
  refine v_invV (As := []) (st := []) X (k_hasTop l q hS hC) (dk D_Ca_beginArgument 1 rfl) G_Ca_62 K_Ca_hasTop V_Ca_hasTop rfl rfl (hS.lt (by decide)) rfl rfl (Nat.le_of_ble_eq_true rfl) (Nat.le_of_ble_eq_true rfl) (Nat.le_of_ble_eq_true rfl) (Nat.le_of_ble_eq_true rfl) (Nat.le_of_ble_eq_true rfl) ?_
  rintro v w ⟨rfl, hw⟩
  rw [hw, if_neg (List.cons_ne_nil _ _)]
  show Vv _ _ _ _ _ _ _ _ _ _ _ _ _ _ _ (.int 1 :: []) (0, 0, g)
  refine v_if_eq (tgt := 26) X (dk D_Ca_beginArgument 2 rfl) (by decide) (fun c4 => absurd c4 (by decide)) (fun _ => ?_)
  refine v_aload_n X (dk D_Ca_beginArgument 3 rfl) rfl ?_
  refine v_getI X (dk D_Ca_beginArgument 4 rfl) F_Ca_48 rfl rfl (hS.lt (by decide)) ?_
  refine v_if_lt (tgt := 26) X (dk D_Ca_beginArgument 5 rfl) (by decide) (fun c11 => absurd c11 (by rw [har]; exact nI_pos (by omega))) (fun _ => ?_)
  refine v_aload_n X (dk D_Ca_beginArgument 6 rfl) rfl ?_
  refine v_getI X (dk D_Ca_beginArgument 7 rfl) F_Ca_48 rfl rfl (hS.lt (by decide)) ?_
  refine v_aload_n X (dk D_Ca_beginArgument 8 rfl) rfl ?_
  refine v_getF X (dk D_Ca_beginArgument 9 rfl) F_Ca_20 rfl rfl (hS.lt (by decide)) (hS.2 17 3) ?_
  refine v_alen (v := nI _) X (dk D_Ca_beginArgument 10 rfl) rfl rfl (hS.lt (by decide)) rfl ?_
  refine v_icmp_lt (tgt := 28) X (dk D_Ca_beginArgument 11 rfl) (by decide) (fun c23 => ?_) (fun c23 => ?_)
  · refine v_aload_n X (dk D_Ca_beginArgument 14 rfl) rfl ?_
    refine v_getF X (dk D_Ca_beginArgument 15 rfl) F_Ca_20 rfl rfl (hS.lt (by decide)) (hS.2 17 3) ?_
    refine v_aload_n X (dk D_Ca_beginArgument 16 rfl) rfl ?_
    refine v_getI X (dk D_Ca_beginArgument 17 rfl) F_Ca_48 rfl rfl (hS.lt (by decide)) ?_
    have hc : na (f :: r) < 8192 := by rw [har] at c23; rcases Nat.lt_or_ge (na (f :: r)) 8192 with e | e; exact e; exact absurd c23 (nI_nlt (b := 8192) e (by omega))
    rw [har]
    refine v_aload_n X (dk D_Ca_beginArgument 18 rfl) rfl ?_
    refine v_getF X (dk D_Ca_beginArgument 19 rfl) F_Ca_14 rfl rfl (hS.lt (by decide)) (hS.2 17 0) ?_
    refine v_getI X (dk D_Ca_beginArgument 20 rfl) F_Ca_51 rfl rfl (hS.lt (by decide)) ?_
    rw [hC.1.2.2.1]
    refine v_iast X (dk D_Ca_beginArgument 21 rfl) rfl (hS.lt (by decide)) (vp_in_nI (show na (f :: r) < 8192 from hc) (by decide)) ?_
    rw [nI_clamp (by omega)]
    refine v_aload_n X (dk D_Ca_beginArgument 22 rfl) rfl ?_
    refine v_dup X (dk D_Ca_beginArgument 23 rfl) rfl ?_
    refine v_getI X (dk D_Ca_beginArgument 24 rfl) F_Ca_48 rfl rfl (hS.lt (by decide)) ?_
    refine v_iconst (v := 1) X (dk D_Ca_beginArgument 25 rfl) (by decide) ?_
    refine v_iadd X (dk D_Ca_beginArgument 26 rfl) ?_
    rw [gI_na (by decide), har, nI_1]
    refine v_putI X (dk D_Ca_beginArgument 27 rfl) F_Ca_48 CK_Ca rfl rfl (hS.lt (by decide)) rfl rfl ?_
    refine v_aload_n X (dk D_Ca_beginArgument 28 rfl) rfl ?_
    refine v_getF X (dk D_Ca_beginArgument 29 rfl) F_Ca_33 rfl rfl (hS.lt (by decide)) (hS.2 17 8) ?_
    refine v_aload_n X (dk D_Ca_beginArgument 30 rfl) rfl ?_
    refine v_getI X (dk D_Ca_beginArgument 31 rfl) F_Ca_40 rfl rfl (hS.lt (by decide)) ?_
    refine v_iconst (v := 1) X (dk D_Ca_beginArgument 32 rfl) (by decide) ?_
    refine v_isub X (dk D_Ca_beginArgument 33 rfl) ?_
    rw [gI_nk (by decide), gI_na (by decide), hop, show nI (r.length + 1) - 1 = nI r.length from pk_sub (b := 1) (by omega)]
    refine v_iconst (v := 0) X (dk D_Ca_beginArgument 34 rfl) (by decide) ?_
    refine v_zast X (dk D_Ca_beginArgument 35 rfl) rfl (hS.lt (by decide)) (vp_in_nI (show r.length < 50 by omega) (by decide)) rfl ?_
    rw [nI_clamp (by omega)]
    refine v_iconst (v := 1) X (dk D_Ca_beginArgument 36 rfl) (by decide) ?_
    exact v_zret X hlk hrt rfl (dk D_Ca_beginArgument 37 rfl) (by rw [if_pos hc]; exact ⟨rfl, (n_barg hC hc).1, fun _ => (n_barg hC hc).2, fun e => absurd hc e⟩)
  · refine v_iconst (v := 0) X (dk D_Ca_beginArgument 12 rfl) (by decide) ?_
    exact v_zret X hlk hrt rfl (dk D_Ca_beginArgument 13 rfl) (by have hc : ¬ na (f :: r) < 8192 := fun e => c23 (by rw [har]; exact nI_lt (b := 8192) e (by decide)); rw [if_neg hc]; exact ⟨rfl, sm.rf _ _, fun e => absurd e hc, fun _ => rfl⟩)
set_option maxHeartbeats 4000000 in
set_option maxRecDepth 100000 in
theorem k_Ca_end (l : Launch) (q : ev_T) {f : Fr} {r : List Fr} {cm : Bool} {g : mu_T} (hS : Shp g) (hC : CA g (f :: r) cm) : Ctr l q M_Ca_end 1 [.ref 17] (0, 0, g) (fun v w => v = none ∧ sm g w.2.2 CS ∧ CA w.2.2 r false) := by
  have hop : gI g 17 1 = nI (r.length + 1) := hC.2.1
  have h50 : r.length + 1 ≤ 50 := hC.2.2.1
  have har : gI g 17 4 = nI (na (f :: r)) := hC.2.2.2.2.1
  have hna : na (f :: r) ≤ 8192 := hC.2.2.2.2.2.1
  obtain ⟨o1, o2, o3, o4, o5, o6, o7⟩ := hC.2.2.2.2.2.2
  have hnaR : na r + f.2.1.length ≤ 8192 := hna
  refine Ctr.mk (lb := [some (.ref 17)]) (by decide +kernel) (Nat.le_of_ble_eq_true rfl) rfl rfl ?_
  intro pp ee ss mm aa bb mt cd X hrt hlk hnm
  refine v_aload_n X (dk D_Ca_end 0 rfl) rfl ?_
  refine v_invV (As := []) (st := []) X (k_hasTop l q hS hC) (dk D_Ca_end 1 rfl) G_Ca_62 K_Ca_hasTop V_Ca_hasTop rfl rfl (hS.lt (by decide)) rfl rfl (Nat.le_of_ble_eq_true rfl) (Nat.le_of_ble_eq_true rfl) (Nat.le_of_ble_eq_true rfl) (Nat.le_of_ble_eq_true rfl) (Nat.le_of_ble_eq_true rfl) ?_
  rintro v w ⟨rfl, hw⟩
  rw [hw, if_neg (List.cons_ne_nil _ _)]
  show Vv _ _ _ _ _ _ _ _ _ _ _ _ _ _ _ (.int 1 :: []) (0, 0, g)
  refine v_if_eq (tgt := 46) X (dk D_Ca_end 2 rfl) (by decide) (fun c4 => absurd c4 (by decide)) (fun _ => ?_)
  refine v_aload_n X (dk D_Ca_end 3 rfl) rfl ?_
  refine v_dup X (dk D_Ca_end 4 rfl) rfl ?_
  refine v_getI X (dk D_Ca_end 5 rfl) F_Ca_40 rfl rfl (hS.lt (by decide)) ?_
  refine v_iconst (v := 1) X (dk D_Ca_end 6 rfl) (by decide) ?_
  refine v_isub X (dk D_Ca_end 7 rfl) ?_
  rw [hop, show nI (r.length + 1) - 1 = nI r.length from pk_sub (b := 1) (by omega)]
  refine v_putI X (dk D_Ca_end 8 rfl) F_Ca_40 CK_Ca rfl rfl (hS.lt (by decide)) rfl rfl ?_
  have z1 : sm g (xI g 17 1 (nI r.length)) [17] := (sm.rf g _).xI (by simp)
  refine v_aload_n X (dk D_Ca_end 9 rfl) rfl ?_
  refine v_getF X (dk D_Ca_end 10 rfl) F_Ca_14 rfl rfl (hS.lt (by decide)) (hS.2 17 0) ?_
  refine v_aload_n X (dk D_Ca_end 11 rfl) rfl ?_
  refine v_getF X (dk D_Ca_end 12 rfl) F_Ca_24 rfl rfl (hS.lt (by decide)) (hS.2 17 5) ?_
  refine v_aload_n X (dk D_Ca_end 13 rfl) rfl ?_
  refine v_getI X (dk D_Ca_end 14 rfl) F_Ca_40 rfl rfl (hS.lt (by decide)) ?_
  rw [gI_eq]
  refine v_iald X (dk D_Ca_end 15 rfl) rfl (hS.lt (by decide)) (vp_in_nI (show r.length < 50 by omega) (by decide)) ?_
  rw [nI_clamp (by omega), gI_na (by decide), o1]
  refine v_invV (As := [.int (nI (hl r).length)]) (st := []) X (k_cutN l q (hC.1.sm z1 (by decide) (by decide)) (show (hl r).length ≤ (hl (f :: r)).length by simp [hl])) (dk D_Ca_end 16 rfl) G_Ca_37 K_By_cut V_By_cut rfl rfl ((hS.sm z1).lt (by decide)) rfl rfl (Nat.le_of_ble_eq_true rfl) (Nat.le_of_ble_eq_true rfl) (Nat.le_of_ble_eq_true rfl) (Nat.le_of_ble_eq_true rfl) (Nat.le_of_ble_eq_true rfl) ?_
  rintro v w ⟨rfl, hw1, hw2⟩
  have hS1 := (hS.sm z1).sm hw1
  show Vv _ _ _ _ _ _ _ _ _ _ _ _ _ _ _ [] (0, 0, w.2.2)
  refine v_aload_n X (dk D_Ca_end 17 rfl) rfl ?_
  refine v_aload_n X (dk D_Ca_end 18 rfl) rfl ?_
  refine v_getF X (dk D_Ca_end 19 rfl) F_Ca_27 rfl rfl (hS1.lt (by decide)) (hS1.2 17 6) ?_
  refine v_aload_n X (dk D_Ca_end 20 rfl) rfl ?_
  refine v_getI X (dk D_Ca_end 21 rfl) F_Ca_40 rfl rfl (hS1.lt (by decide)) ?_
  rw [hw1.I (by decide), gI_eq]
  refine v_iald X (dk D_Ca_end 22 rfl) rfl (hS1.lt (by decide)) (vp_in_nI (show r.length < 50 by omega) (by decide)) ?_
  rw [nI_clamp (by omega), hw1.I (by decide), gI_na (by decide), o2]
  refine v_putI X (dk D_Ca_end 23 rfl) F_Ca_48 CK_Ca rfl rfl (hS1.lt (by decide)) rfl rfl ?_
  refine v_aload_n X (dk D_Ca_end 24 rfl) rfl ?_
  refine v_iconst (v := 0) X (dk D_Ca_end 25 rfl) (by decide) ?_
  refine v_putI X (dk D_Ca_end 26 rfl) F_Ca_44 CK_Ca rfl rfl (hS1.lt (by decide)) rfl rfl ?_
  exact v_vret X hlk hrt (dk D_Ca_end 27 rfl) ⟨rfl, n_end hC hw1 hw2⟩
end
section
/-! Input: what is not read yet, how much of it is of the text, the fuel left, the line feeds passed -/
abbrev Ip : Type := List Int32 × Nat × Nat × Nat
def tkI : Ip → Ip
  | (x :: u, m, f + 1, n) => if u.length < m then (u, u.length, f, n + (if x &&& 255 = 10 then 1 else 0)) else (u, m, f, n)
  | I => I
def tkV : Ip → Int32
  | (x :: _, _, _ + 1, _) => x &&& 255
  | _ => -1
def IQ (g : mu_T) (fu : Nat) (I : Ip) : Prop := ∃ (T bk : List Int32) (ta : Nat), (∃ ov, RB g 1 2 32768 T ov) ∧ gR g 7 6 = some 1 ∧ ta ≤ T.length ∧ gI g 7 7 = nI ta ∧ I.1 = bk ++ T.drop ta ∧ I.2.1 = T.length - ta ∧ gI g 7 9 = nI (32768 - bk.length) ∧ (∀ j, j < bk.length → gI g 16 (32768 - bk.length + j) = bk.getD j 0) ∧ gI g 7 10 = nI fu ∧ fu < 2147483647 ∧ I.2.2.1 ≤ fu ∧ gI g 7 5 = nI (fu - I.2.2.1) ∧ gI g 7 11 = nI I.2.2.2 ∧ I.2.2.2 ≤ ta ∧ I.1.length ≤ 32768 ∧ ∀ x ∈ I.1, isByte x
theorem IQ.sm {g k : mu_T} {S : List Nat} {fu : Nat} {I : Ip} (h : IQ g fu I) (z : sm g k S) (h1 : 1 ∉ S) (h2 : 2 ∉ S) (h7 : 7 ∉ S) (h16 : 16 ∉ S) : IQ k fu I := by
  obtain ⟨T, bk, ta, ⟨ov, hT⟩, hr, ha1, hat, hu, hm, hba, hbk, hfu, hfl, hff, htk, hln, hl2, h3, hby⟩ := h
  exact ⟨T, bk, ta, ⟨ov, hT.sm z h1 h2⟩, by rw [z.R h7]; exact hr, ha1, by rw [z.I h7]; exact hat, hu, hm, by rw [z.I h7]; exact hba, fun j hj => by rw [z.I h16]; exact hbk j hj, by rw [z.I h7]; exact hfu, hfl, hff, by rw [z.I h7]; exact htk, by rw [z.I h7]; exact hln, hl2, h3, hby⟩
/-- a field of the input that holds no part of what is read may change -/
theorem IQ.kt {g : mu_T} {fu : Nat} {I : Ip} (h : IQ g fu I) (k : Nat) (x : Int32) (hk : k ≠ 5 ∧ k ≠ 7 ∧ k ≠ 9 ∧ k ≠ 10 ∧ k ≠ 11) : IQ (xI g 7 k x) fu I := by
  obtain ⟨T, bk, ta, ⟨ov, hT⟩, hr, ha1, hat, hu, hm, hba, hbk, hfu, hfl, hff, htk, hln, hl2, h3, hby⟩ := h
  obtain ⟨k5, k7, k9, k10, k11⟩ := hk
  exact ⟨T, bk, ta, ⟨ov, hT.sm ((sm.rf g [7]).xI (by simp)) (by decide) (by decide)⟩, hr, ha1, by rw [gI_nk (Ne.symm k7)]; exact hat, hu, hm, by rw [gI_nk (Ne.symm k9)]; exact hba, fun j hj => by rw [gI_na (by decide)]; exact hbk j hj, by rw [gI_nk (Ne.symm k10)]; exact hfu, hfl, hff, by rw [gI_nk (Ne.symm k5)]; exact htk, by rw [gI_nk (Ne.symm k11)]; exact hln, hl2, h3, hby⟩
/-- kind and tokenLine are the same -/
def kp (g k : mu_T) : Prop := gI k 7 3 = gI g 7 3 ∧ gI k 7 4 = gI g 7 4
theorem kp.rf (g : mu_T) : kp g g := ⟨rfl, rfl⟩
theorem kp.xI {g k : mu_T} {j : Nat} {x : Int32} (z : kp g k) (h : j ≠ 3 ∧ j ≠ 4) : kp g (xI k 7 j x) := ⟨(gI_nk (Ne.symm h.1)).trans z.1, (gI_nk (Ne.symm h.2)).trans z.2⟩
theorem kp.tr {g h k : mu_T} (z : kp g h) (y : kp h k) : kp g k := ⟨y.1.trans z.1, y.2.trans z.2⟩
theorem kp.sm {g h k : mu_T} {S : List Nat} (z : kp g h) (y : sm h k S) (h7 : 7 ∉ S) : kp g k := ⟨(y.I h7 3).trans z.1, (y.I h7 4).trans z.2⟩
theorem at_app {bk T : List Int32} {ta k : Nat} (ha : ta ≤ T.length) (hl : (bk ++ T.drop ta).length ≤ 32768) (hk : k < 1000000) (hT : T.length ≤ 32768) : (k < bk.length → atL (bk ++ T.drop ta) (nI k) = bk.getD k 0 &&& 255) ∧ (bk.length ≤ k → atL (bk ++ T.drop ta) (nI k) = atL T (nI (ta + (k - bk.length)))) := by
  have e : (bk ++ T.drop ta).length = bk.length + (T.length - ta) := by simp
  refine ⟨fun h => ?_, fun h => ?_⟩
  · rw [atL_nI (by omega) (by omega)]
    simp only [List.getD_eq_getElem?_getD]
    rw [List.getElem?_append_left h]
  · rcases Nat.lt_or_ge (ta + (k - bk.length)) T.length with y | y
    · rw [atL_nI (by omega) (by omega), atL_nI y (by omega)]
      simp only [List.getD_eq_getElem?_getD]
      rw [List.getElem?_append_right h, List.getElem?_drop]
    · rw [atL_out (by omega) (by omega), atL_out y (by omega)]
set_option maxHeartbeats 4000000 in
set_option maxRecDepth 100000 in
theorem k_line (l : Launch) (q : ev_T) {fu : Nat} {I : Ip} {g : mu_T} (hS : Shp g) (hI : IQ g fu I) : Ctr l q M_In_line 0 [.ref 7] (0, 0, g) (fun v w => v = some (.int (nI (I.2.2.2 + 1))) ∧ w.2.2 = g) := by
  obtain ⟨T, bk, ta, ⟨ov, hT⟩, hr, ha1, hat, hu, hm, hba, hbk, hfu, hfl, hff, htk, hln, hl2, h3, hby⟩ := hI
  have hT3 := hT.2.1
  have hul : I.1.length = bk.length + (T.length - ta) := by rw [hu]; simp
  refine Ctr.mk (lb := [some (.ref 7)]) (by decide +kernel) (Nat.le_of_ble_eq_true rfl) rfl rfl ?_
  intro pp ee ss mm aa bb mt cd X hrt hlk hnm
  refine v_aload_n X (dk D_In_line 0 rfl) rfl ?_
  refine v_getI X (dk D_In_line 1 rfl) F_In_44 rfl rfl (hS.lt (by decide)) ?_
  refine v_iconst (v := 1) X (dk D_In_line 2 rfl) (by decide) ?_
  refine v_iadd X (dk D_In_line 3 rfl) ?_
  exact v_iret X hlk hrt (dk D_In_line 4 rfl) ⟨by rw [hln, nI_1], rfl⟩
set_option maxHeartbeats 4000000 in
set_option maxRecDepth 100000 in
theorem k_left (l : Launch) (q : ev_T) {fu : Nat} {I : Ip} {g : mu_T} (hS : Shp g) (hI : IQ g fu I) : Ctr l q M_In_left 0 [.ref 7] (0, 0, g) (fun v w => v = some (.int (nI I.1.length)) ∧ w.2.2 = g) := by
  obtain ⟨T, bk, ta, ⟨ov, hT⟩, hr, ha1, hat, hu, hm, hba, hbk, hfu, hfl, hff, htk, hln, hl2, h3, hby⟩ := hI
  have hT3 := hT.2.1
  have hul : I.1.length = bk.length + (T.length - ta) := by rw [hu]; simp
  refine Ctr.mk (lb := [some (.ref 7)]) (by decide +kernel) (Nat.le_of_ble_eq_true rfl) rfl rfl ?_
  intro pp ee ss mm aa bb mt cd X hrt hlk hnm
  refine v_aload_n X (dk D_In_left 0 rfl) rfl ?_
  refine v_getF X (dk D_In_left 1 rfl) F_In_30 rfl rfl (hS.lt (by decide)) (hS.2 7 8) ?_
  refine v_alen (v := nI _) X (dk D_In_left 2 rfl) rfl rfl (hS.lt (by decide)) rfl ?_
  refine v_aload_n X (dk D_In_left 3 rfl) rfl ?_
  refine v_getI X (dk D_In_left 4 rfl) F_In_34 rfl rfl (hS.lt (by decide)) ?_
  refine v_isub X (dk D_In_left 5 rfl) ?_
  refine v_aload_n X (dk D_In_left 6 rfl) rfl ?_
  refine v_getR X (dk D_In_left 7 rfl) F_In_27 rfl rfl (hS.lt (by decide)) hr ?_
  refine v_getI X (dk D_In_left 8 rfl) F_In_59 rfl rfl (hS.lt (by decide)) ?_
  refine v_iadd X (dk D_In_left 9 rfl) ?_
  refine v_aload_n X (dk D_In_left 10 rfl) rfl ?_
  refine v_getI X (dk D_In_left 11 rfl) F_In_47 rfl rfl (hS.lt (by decide)) ?_
  refine v_isub X (dk D_In_left 12 rfl) ?_
  exact v_iret X hlk hrt (dk D_In_left 13 rfl) ⟨by rw [hba, pk_sub (by omega), hT.2.2.1, nI_add, hat, pk_sub (by omega), hul]; congr 3; omega, rfl⟩
set_option maxHeartbeats 4000000 in
set_option maxRecDepth 100000 in
theorem k_peek (l : Launch) (q : ev_T) {fu k : Nat} {I : Ip} {g : mu_T} (hS : Shp g) (hI : IQ g fu I) (hk : k < 1000000) : Ctr l q M_In_peek 1 [.ref 7, .int (nI k)] (0, 0, g) (fun v w => v = some (.int (atL I.1 (nI k))) ∧ w.2.2 = g) := by
  obtain ⟨T, bk, ta, ⟨ov, hT⟩, hr, ha1, hat, hu, hm, hba, hbk, hfu, hfl, hff, htk, hln, hl2, h3, hby⟩ := hI
  have hT3 := hT.2.1
  have hul : I.1.length = bk.length + (T.length - ta) := by rw [hu]; simp
  refine Ctr.mk (lb := [some (.ref 7), some (.int (nI k)), none]) (by decide +kernel) (Nat.le_of_ble_eq_true rfl) rfl rfl ?_
  intro pp ee ss mm aa bb mt cd X hrt hlk hnm
  refine v_aload_n X (dk D_In_peek 0 rfl) rfl ?_
  refine v_getI X (dk D_In_peek 1 rfl) F_In_34 rfl rfl (hS.lt (by decide)) ?_
  refine v_iload_n X (dk D_In_peek 2 rfl) rfl ?_
  refine v_iadd X (dk D_In_peek 3 rfl) ?_
  rw [hba, nI_add]
  refine v_istore_n (lb := [some (.ref 7), some (.int (nI k)), some (.int (nI (32768 - bk.length + k)))]) X (dk D_In_peek 4 rfl) (by decide) rfl ?_
  refine v_iload_n X (dk D_In_peek 5 rfl) rfl ?_
  refine v_if_lt (tgt := 31) X (dk D_In_peek 6 rfl) (by decide) (fun c8 => absurd c8 (nI_pos (by omega))) (fun _ => ?_)
  refine v_iload_n X (dk D_In_peek 7 rfl) rfl ?_
  refine v_aload_n X (dk D_In_peek 8 rfl) rfl ?_
  refine v_getF X (dk D_In_peek 9 rfl) F_In_30 rfl rfl (hS.lt (by decide)) (hS.2 7 8) ?_
  refine v_alen (v := nI _) X (dk D_In_peek 10 rfl) rfl rfl (hS.lt (by decide)) rfl ?_
  refine v_icmp_ge (tgt := 31) X (dk D_In_peek 11 rfl) (by decide) (fun c17 => ?_) (fun c17 => ?_)
  · refine v_aload_n X (dk D_In_peek 19 rfl) rfl ?_
    have hkb : bk.length ≤ k := by rcases Nat.lt_or_ge k bk.length with y | y; exact absurd c17 (nI_ge (b := 32768) (by omega) (by decide)); exact y
    refine v_getR X (dk D_In_peek 20 rfl) F_In_27 rfl rfl (hS.lt (by decide)) hr ?_
    refine v_aload_n X (dk D_In_peek 21 rfl) rfl ?_
    refine v_getI X (dk D_In_peek 22 rfl) F_In_47 rfl rfl (hS.lt (by decide)) ?_
    refine v_iload_n X (dk D_In_peek 23 rfl) rfl ?_
    refine v_iadd X (dk D_In_peek 24 rfl) ?_
    refine v_aload_n X (dk D_In_peek 25 rfl) rfl ?_
    refine v_getF X (dk D_In_peek 26 rfl) F_In_30 rfl rfl (hS.lt (by decide)) (hS.2 7 8) ?_
    refine v_alen (v := nI _) X (dk D_In_peek 27 rfl) rfl rfl (hS.lt (by decide)) rfl ?_
    refine v_isub X (dk D_In_peek 28 rfl) ?_
    rw [hat, nI_add, show nI (ta + (32768 - bk.length + k)) - nI 32768 = nI (ta + (k - bk.length)) from by rw [pk_sub (by omega)]; exact congrArg nI (by omega)]
    refine v_invV (As := [.int (nI (ta + (k - bk.length)))]) (st := []) X (k_at l q hT) (dk D_In_peek 29 rfl) G_In_62 K_By_at V_By_at rfl rfl (hS.lt (by decide)) rfl rfl (Nat.le_of_ble_eq_true rfl) (Nat.le_of_ble_eq_true rfl) (Nat.le_of_ble_eq_true rfl) (Nat.le_of_ble_eq_true rfl) (Nat.le_of_ble_eq_true rfl) ?_
    rintro v w ⟨rfl, hw⟩
    rw [hw]
    show Vv _ _ _ _ _ _ _ _ _ _ _ _ _ _ _ [.int (atL T (nI (ta + (k - bk.length))))] (0, 0, g)
    exact v_iret X hlk hrt (dk D_In_peek 30 rfl) ⟨by rw [hu, (at_app ha1 (by rw [← hu]; exact h3) hk hT3).2 hkb], rfl⟩
  · refine v_aload_n X (dk D_In_peek 12 rfl) rfl ?_
    have hkb : k < bk.length := by rcases Nat.lt_or_ge k bk.length with y | y; exact y; exact absurd (nI_le (show 32768 ≤ 32768 - bk.length + k by omega) (by omega)) c17
    refine v_getF X (dk D_In_peek 13 rfl) F_In_30 rfl rfl (hS.lt (by decide)) (hS.2 7 8) ?_
    refine v_iload_n X (dk D_In_peek 14 rfl) rfl ?_
    refine v_bald X (dk D_In_peek 15 rfl) rfl (hS.lt (by decide)) (vp_in_nI (show 32768 - bk.length + k < 32768 by omega) (by decide)) ?_
    refine v_sipush (v := 255) X (dk D_In_peek 16 rfl) (by decide) ?_
    refine v_iand X (dk D_In_peek 17 rfl) ?_
    exact v_iret X hlk hrt (dk D_In_peek 18 rfl) ⟨by rw [nI_clamp (by omega), hbk k hkb, hu, (at_app ha1 (by rw [← hu]; exact h3) hk hT3).1 hkb], rfl⟩
theorem n_take {g : mu_T} {fu : Nat} {bk T : List Int32} {ta m f n : Nat} {ov : Bool} {I : Ip} (hI : I = (bk ++ T.drop ta, m, f + 1, n)) (hT : RB g 1 2 32768 T ov) (hr : gR g 7 6 = some 1) (ha1 : ta ≤ T.length) (hat : gI g 7 7 = nI ta) (hm : m = T.length - ta) (hba : gI g 7 9 = nI (32768 - bk.length)) (hbk : ∀ j, j < bk.length → gI g 16 (32768 - bk.length + j) = bk.getD j 0) (hfu : gI g 7 10 = nI fu) (hfl : fu < 2147483647) (hff : f + 1 ≤ fu) (hln : gI g 7 11 = nI n) (hl2 : n ≤ ta) (h3 : (bk ++ T.drop ta).length ≤ 32768) (hby : ∀ x ∈ bk ++ T.drop ta, isByte x) :
    (0 < bk.length → bk.getD 0 0 &&& 255 = tkV I ∧ IQ (xI (xI g 7 5 (nI (fu - f))) 7 9 (nI (32768 - bk.length + 1))) fu (tkI I)) ∧
    (bk.length = 0 → ta < T.length → atL T (nI ta) = tkV I ∧ (atL T (nI ta) = 10 → IQ (xI (xI (xI g 7 5 (nI (fu - f))) 7 7 (nI (ta + 1))) 7 11 (nI (n + 1))) fu (tkI I)) ∧ (¬ atL T (nI ta) = 10 → IQ (xI (xI g 7 5 (nI (fu - f))) 7 7 (nI (ta + 1))) fu (tkI I))) := by
  subst hI
  have hT3 := hT.2.1
  have hz : ∀ k1 x1 k2 x2, sm g (xI (xI g 7 k1 x1) 7 k2 x2) [7] := fun _ _ _ _ => ((sm.rf g _).xI (by simp)).xI (by simp)
  refine ⟨fun h => ?_, fun h ht => ?_⟩
  · cases bk with
    | nil => exact absurd h (by decide)
    | cons x u =>
      refine ⟨rfl, ?_⟩
      have e : tkI (x :: u ++ T.drop ta, m, f + 1, n) = (u ++ T.drop ta, m, f, n) := if_neg (by simp; omega)
      have hl3 : u.length + 1 + (T.length - ta) ≤ 32768 := by rw [List.length_append, List.length_cons, List.length_drop] at h3; exact h3
      rw [e]
      refine ⟨T, u, ta, ⟨ov, hT.sm (hz _ _ _ _) (by decide) (by decide)⟩, hr, ha1, ?_, rfl, hm, ?_, fun j hj => ?_, ?_, hfl, by show f ≤ fu; omega, ?_, ?_, hl2, by simp; omega, fun y hy => hby y (by simp at hy ⊢; exact Or.inr hy)⟩
      · rw [gI_nk (by decide), gI_nk (by decide)]; exact hat
      · rw [gI_eq]; congr 1; simp; omega
      · rw [gI_na (by decide), gI_na (by decide)]
        have := hbk (j + 1) (by simp; omega)
        rw [show 32768 - u.length + j = 32768 - (x :: u).length + (j + 1) by simp; omega, this]
        simp
      · rw [gI_nk (by decide), gI_nk (by decide)]; exact hfu
      · rw [gI_nk (by decide), gI_eq]
      · rw [gI_nk (by decide), gI_nk (by decide)]; exact hln
  · have hb : bk = [] := List.length_eq_zero_iff.mp h
    subst hb
    have ed : T.drop ta = T.getD ta 0 :: T.drop (ta + 1) := by
      rw [List.getD_eq_getElem?_getD, List.getElem?_eq_getElem ht, Option.getD_some, List.getElem_cons_drop]
    have ea : atL T (nI ta) = T.getD ta 0 &&& 255 := atL_nI ht (by omega)
    have eu : ([] ++ T.drop ta : List Int32) = T.getD ta 0 :: T.drop (ta + 1) := ed
    rw [eu] at hby h3 ⊢
    have hV : tkV (T.getD ta 0 :: T.drop (ta + 1), m, f + 1, n) = T.getD ta 0 &&& 255 := rfl
    have e : tkI (T.getD ta 0 :: T.drop (ta + 1), m, f + 1, n) = (T.drop (ta + 1), (T.drop (ta + 1)).length, f, n + (if T.getD ta 0 &&& 255 = 10 then 1 else 0)) := if_pos (by rw [List.length_drop]; omega)
    refine ⟨by rw [hV, ea], fun h10 => ?_, fun h10 => ?_⟩
    · rw [ea] at h10
      rw [e, if_pos h10]
      refine ⟨T, [], ta + 1, ⟨ov, (hT.sm (hz _ _ _ _) (by decide) (by decide)).sm ((sm.rf _ [7]).xI (by simp)) (by decide) (by decide)⟩, hr, ht, ?_, rfl, by rw [List.length_drop], ?_, fun j hj => absurd hj (Nat.not_lt_zero _), ?_, hfl, by show f ≤ fu; omega, ?_, ?_, by show n + 1 ≤ ta + 1; omega, by show (T.drop (ta + 1)).length ≤ 32768; rw [List.length_drop]; omega, fun y hy => hby y (List.mem_cons_of_mem _ hy)⟩
      · rw [gI_nk (by decide), gI_eq]
      · rw [gI_nk (by decide), gI_nk (by decide), gI_nk (by decide)]; exact hba
      · rw [gI_nk (by decide), gI_nk (by decide), gI_nk (by decide)]; exact hfu
      · rw [gI_nk (by decide), gI_nk (by decide), gI_eq]
      · rw [gI_eq]
    · rw [ea] at h10
      rw [e, if_neg h10]
      refine ⟨T, [], ta + 1, ⟨ov, hT.sm (hz _ _ _ _) (by decide) (by decide)⟩, hr, ht, ?_, rfl, by rw [List.length_drop], ?_, fun j hj => absurd hj (Nat.not_lt_zero _), ?_, hfl, by show f ≤ fu; omega, ?_, ?_, by show n + 0 ≤ ta + 1; omega, by show (T.drop (ta + 1)).length ≤ 32768; rw [List.length_drop]; omega, fun y hy => hby y (List.mem_cons_of_mem _ hy)⟩
      · rw [gI_eq]
      · rw [gI_nk (by decide), gI_nk (by decide)]; exact hba
      · rw [gI_nk (by decide), gI_nk (by decide)]; exact hfu
      · rw [gI_nk (by decide), gI_eq]
      · rw [gI_nk (by decide), gI_nk (by decide)]; exact hln
theorem tk_no {I : Ip} (h : I.2.2.1 = 0 ∨ I.1 = []) : tkV I = -1 ∧ tkI I = I := by
  obtain ⟨u, m, f, n⟩ := I
  cases u with
  | nil => exact ⟨rfl, rfl⟩
  | cons x u =>
    cases f with
    | zero => exact ⟨rfl, rfl⟩
    | succ f => rcases h with h | h
                · exact absurd h (Nat.succ_ne_zero _)
                · exact absurd h (List.cons_ne_nil _ _)
theorem nI_gt0 {n : Nat} (h : 0 < n) (hn : n < 2147483648) : (0 : Int32) < nI n := nI_lt (a := 0) h hn
set_option maxHeartbeats 4000000 in
set_option maxRecDepth 100000 in
theorem k_In_take (l : Launch) (q : ev_T) {fu : Nat} {I : Ip} {g : mu_T} (hS : Shp g) (hI : IQ g fu I) : Ctr l q M_In_take 1 [.ref 7] (0, 0, g) (fun v w => v = some (.int (tkV I)) ∧ sm g w.2.2 [7] ∧ IQ w.2.2 fu (tkI I) ∧ kp g w.2.2) := by
  have hI0 := hI
  obtain ⟨T, bk, ta, ⟨ov, hT⟩, hr, ha1, hat, hu, hm, hba, hbk, hfu, hfl, hff, htk, hln, hl2, h3, hby⟩ := hI
  have hT3 := hT.2.1
  have hul : I.1.length = bk.length + (T.length - ta) := by rw [hu]; simp
  refine Ctr.mk (lb := [some (.ref 7), none]) (by decide +kernel) (Nat.le_of_ble_eq_true rfl) rfl rfl ?_
  intro pp ee ss mm aa bb mt cd X hrt hlk hnm
  refine v_aload_n X (dk D_In_take 0 rfl) rfl ?_
  refine v_getI X (dk D_In_take 1 rfl) F_In_41 rfl rfl (hS.lt (by decide)) ?_
  refine v_aload_n X (dk D_In_take 2 rfl) rfl ?_
  refine v_getI X (dk D_In_take 3 rfl) F_In_38 rfl rfl (hS.lt (by decide)) ?_
  refine v_icmp_ge (tgt := 18) X (dk D_In_take 4 rfl) (by decide) (fun c8 => ?_) (fun c8 => ?_)
  · refine v_iconst (v := -1) X (dk D_In_take 8 rfl) (by decide) ?_
    exact v_iret X hlk hrt (dk D_In_take 9 rfl) (by have e : tkV I = -1 ∧ tkI I = I := tk_no (Or.inl (by rw [htk, hfu] at c8; rcases Nat.eq_zero_or_pos I.2.2.1 with y | y; exact y; exact absurd c8 (nI_ge (by omega) (by omega)))); rw [e.1, e.2]; exact ⟨rfl, sm.rf _ _, hI0, kp.rf _⟩)
  · refine v_aload_n X (dk D_In_take 5 rfl) rfl ?_
    refine v_invV (As := []) (st := []) X (k_left l q hS hI0) (dk D_In_take 6 rfl) G_In_66 K_In_left V_In_left rfl rfl (hS.lt (by decide)) rfl rfl (Nat.le_of_ble_eq_true rfl) (Nat.le_of_ble_eq_true rfl) (Nat.le_of_ble_eq_true rfl) (Nat.le_of_ble_eq_true rfl) (Nat.le_of_ble_eq_true rfl) ?_
    rintro v w ⟨rfl, hw⟩
    rw [hw]
    show Vv _ _ _ _ _ _ _ _ _ _ _ _ _ _ _ [.int (nI I.1.length)] (0, 0, g)
    refine v_if_gt (tgt := 20) X (dk D_In_take 7 rfl) (by decide) (fun c15 => ?_) (fun c15 => ?_)
    · refine v_aload_n X (dk D_In_take 10 rfl) rfl ?_
      have hf1 : 0 < I.2.2.1 := by rw [htk, hfu] at c8; rcases Nat.eq_zero_or_pos I.2.2.1 with y | y; exact absurd (nI_le (show fu ≤ fu - I.2.2.1 by omega) (by omega)) c8; exact y
      have hu1 : 0 < I.1.length := by rcases Nat.eq_zero_or_pos I.1.length with y | y; rw [y] at c15; exact absurd c15 (by decide); exact y
      refine v_dup X (dk D_In_take 11 rfl) rfl ?_
      refine v_getI X (dk D_In_take 12 rfl) F_In_41 rfl rfl (hS.lt (by decide)) ?_
      refine v_iconst (v := 1) X (dk D_In_take 13 rfl) (by decide) ?_
      refine v_iadd X (dk D_In_take 14 rfl) ?_
      rw [htk, nI_1, show fu - I.2.2.1 + 1 = fu - (I.2.2.1 - 1) by omega]
      refine v_putI X (dk D_In_take 15 rfl) F_In_41 CK_In rfl rfl (hS.lt (by decide)) rfl rfl ?_
      have z1 : sm g (xI g 7 5 (nI (fu - (I.2.2.1 - 1)))) [7] := (sm.rf g _).xI (by simp)
      have hnt := n_take (g := g) (fu := fu) (bk := bk) (T := T) (ta := ta) (m := I.2.1) (f := I.2.2.1 - 1) (n := I.2.2.2) (I := I) (by obtain ⟨i1, i2, i3, i4⟩ := I; have e3 : i3 - 1 + 1 = i3 := Nat.sub_add_cancel hf1; show _ = (_, _, i3 - 1 + 1, _); rw [e3]; rw [show i1 = bk ++ T.drop ta from hu]) hT hr ha1 hat hm hba hbk hfu hfl (by omega) hln hl2 (by rw [← hu]; exact h3) (by rw [← hu]; exact hby)
      refine v_aload_n X (dk D_In_take 16 rfl) rfl ?_
      refine v_getI X (dk D_In_take 17 rfl) F_In_34 rfl rfl (hS.lt (by decide)) ?_
      refine v_if_lt (tgt := 75) X (dk D_In_take 18 rfl) (by decide) (fun c34 => absurd c34 (by rw [gI_nk (by decide), hba]; exact nI_pos (by omega))) (fun _ => ?_)
      refine v_aload_n X (dk D_In_take 19 rfl) rfl ?_
      refine v_getI X (dk D_In_take 20 rfl) F_In_34 rfl rfl (hS.lt (by decide)) ?_
      refine v_aload_n X (dk D_In_take 21 rfl) rfl ?_
      refine v_getF X (dk D_In_take 22 rfl) F_In_30 rfl rfl (hS.lt (by decide)) (hS.2 7 8) ?_
      refine v_alen (v := nI _) X (dk D_In_take 23 rfl) rfl rfl (hS.lt (by decide)) rfl ?_
      refine v_icmp_ge (tgt := 75) X (dk D_In_take 24 rfl) (by decide) (fun c46 => ?_) (fun c46 => ?_)
      · refine v_aload_n X (dk D_In_take 41 rfl) rfl ?_
        have hkb : bk.length = 0 := by rw [gI_nk (by decide), hba] at c46; rcases Nat.eq_zero_or_pos bk.length with y | y; exact y; exact absurd c46 (nI_ge (b := 32768) (by omega) (by decide))
        have hta : ta < T.length := by omega
        refine v_getR X (dk D_In_take 42 rfl) F_In_27 rfl rfl (hS.lt (by decide)) hr ?_
        refine v_aload_n X (dk D_In_take 43 rfl) rfl ?_
        refine v_getI X (dk D_In_take 44 rfl) F_In_47 rfl rfl (hS.lt (by decide)) ?_
        rw [gI_nk (by decide), hat]
        refine v_invV (As := [.int (nI ta)]) (st := []) X (k_at l q (hT.sm z1 (by decide) (by decide))) (dk D_In_take 45 rfl) G_In_62 K_By_at V_By_at rfl rfl (hS.lt (by decide)) rfl rfl (Nat.le_of_ble_eq_true rfl) (Nat.le_of_ble_eq_true rfl) (Nat.le_of_ble_eq_true rfl) (Nat.le_of_ble_eq_true rfl) (Nat.le_of_ble_eq_true rfl) ?_
        rintro v w ⟨rfl, hw⟩
        rw [hw]
        show Vv _ _ _ _ _ _ _ _ _ _ _ _ _ _ _ [.int (atL T (nI ta))] (0, 0, xI g 7 5 (nI (fu - (I.2.2.1 - 1))))
        refine v_istore_n (lb := [some (.ref 7), some (.int _)]) X (dk D_In_take 46 rfl) (by decide) rfl ?_
        refine v_aload_n X (dk D_In_take 47 rfl) rfl ?_
        refine v_dup X (dk D_In_take 48 rfl) rfl ?_
        refine v_getI X (dk D_In_take 49 rfl) F_In_47 rfl rfl (hS.lt (by decide)) ?_
        refine v_iconst (v := 1) X (dk D_In_take 50 rfl) (by decide) ?_
        refine v_iadd X (dk D_In_take 51 rfl) ?_
        rw [gI_nk (by decide), hat, nI_1]
        refine v_putI X (dk D_In_take 52 rfl) F_In_47 CK_In rfl rfl (hS.lt (by decide)) rfl rfl ?_
        refine v_iload_n X (dk D_In_take 53 rfl) rfl ?_
        refine v_bipush (v := 10) X (dk D_In_take 54 rfl) (by decide) ?_
        refine v_icmp_ne (tgt := 113) X (dk D_In_take 55 rfl) (by decide) (fun c100 => ?_) (fun c100 => ?_)
        · refine v_iload_n X (dk D_In_take 62 rfl) rfl ?_
          exact v_iret X hlk hrt (dk D_In_take 63 rfl) ⟨by rw [((hnt.2 hkb hta).1)], (((sm.rf g [7]).xI (by simp)).xI (by simp)), (hnt.2 hkb hta).2.2 c100, (((kp.rf g).xI (by decide)).xI (by decide))⟩
        · refine v_aload_n X (dk D_In_take 56 rfl) rfl ?_
          refine v_dup X (dk D_In_take 57 rfl) rfl ?_
          refine v_getI X (dk D_In_take 58 rfl) F_In_44 rfl rfl (hS.lt (by decide)) ?_
          refine v_iconst (v := 1) X (dk D_In_take 59 rfl) (by decide) ?_
          refine v_iadd X (dk D_In_take 60 rfl) ?_
          rw [gI_nk (by decide), gI_nk (by decide), hln, nI_1]
          refine v_putI X (dk D_In_take 61 rfl) F_In_44 CK_In rfl rfl (hS.lt (by decide)) rfl rfl ?_
          refine v_iload_n X (dk D_In_take 62 rfl) rfl ?_
          exact v_iret X hlk hrt (dk D_In_take 63 rfl) ⟨by rw [((hnt.2 hkb hta).1)], (((sm.rf g [7]).xI (by simp)).xI (by simp)).xI (by simp), (hnt.2 hkb hta).2.1 c100, (((kp.rf g).xI (by decide)).xI (by decide)).xI (by decide)⟩
      · refine v_aload_n X (dk D_In_take 25 rfl) rfl ?_
        have hkb : 0 < bk.length := by rw [gI_nk (by decide), hba] at c46; rcases Nat.eq_zero_or_pos bk.length with y | y; exact absurd (nI_le (show 32768 ≤ 32768 - bk.length by omega) (by omega)) c46; exact y
        refine v_getF X (dk D_In_take 26 rfl) F_In_30 rfl rfl (hS.lt (by decide)) (hS.2 7 8) ?_
        refine v_aload_n X (dk D_In_take 27 rfl) rfl ?_
        refine v_getI X (dk D_In_take 28 rfl) F_In_34 rfl rfl (hS.lt (by decide)) ?_
        rw [gI_nk (by decide), hba]
        refine v_bald X (dk D_In_take 29 rfl) rfl (hS.lt (by decide)) (vp_in_nI (show 32768 - bk.length < 32768 by omega) (by decide)) ?_
        refine v_sipush (v := 255) X (dk D_In_take 30 rfl) (by decide) ?_
        refine v_iand X (dk D_In_take 31 rfl) ?_
        rw [nI_clamp (by omega), gI_na (by decide), show gI g 16 (32768 - bk.length) = bk.getD 0 0 from hbk 0 hkb]
        refine v_istore_n (lb := [some (.ref 7), some (.int (bk.getD 0 0 &&& 255))]) X (dk D_In_take 32 rfl) (by decide) rfl ?_
        refine v_aload_n X (dk D_In_take 33 rfl) rfl ?_
        refine v_dup X (dk D_In_take 34 rfl) rfl ?_
        refine v_getI X (dk D_In_take 35 rfl) F_In_34 rfl rfl (hS.lt (by decide)) ?_
        refine v_iconst (v := 1) X (dk D_In_take 36 rfl) (by decide) ?_
        refine v_iadd X (dk D_In_take 37 rfl) ?_
        rw [gI_nk (by decide), hba, nI_1]
        refine v_putI X (dk D_In_take 38 rfl) F_In_34 CK_In rfl rfl (hS.lt (by decide)) rfl rfl ?_
        refine v_iload_n X (dk D_In_take 39 rfl) rfl ?_
        exact v_iret X hlk hrt (dk D_In_take 40 rfl) ⟨by rw [(hnt.1 hkb).1], (((sm.rf g [7]).xI (by simp)).xI (by simp)), (hnt.1 hkb).2, (((kp.rf g).xI (by decide)).xI (by decide))⟩
    · refine v_iconst (v := -1) X (dk D_In_take 8 rfl) (by decide) ?_
      exact v_iret X hlk hrt (dk D_In_take 9 rfl) (by have e : tkV I = -1 ∧ tkI I = I := tk_no (Or.inr (by rcases Nat.eq_zero_or_pos I.1.length with y | y; exact List.length_eq_zero_iff.mp y; exact absurd (nI_gt0 y (by omega)) c15)); rw [e.1, e.2]; exact ⟨rfl, sm.rf _ _, hI0, kp.rf _⟩)
end
section
/-! Input: begins, takeSome -/
/-- the sign ys is ahead -/
def bgn (u ys : List Int32) : Bool := decide (∀ k, k < ys.length → atL u (nI k) = ys.getD k 0 &&& 255)
/-- n bytes are taken, or as many as there is fuel for -/
def tkL : Nat → Ip → Bool × Ip × List Int32
  | 0, I => (true, I, [])
  | n + 1, I => if tkV I < 0 then (false, I, []) else ((tkL n (tkI I)).1, (tkL n (tkI I)).2.1, I.1.getD 0 0 :: (tkL n (tkI I)).2.2)
def ktL (b : Bool) (l : List Int32) : List Int32 := if b = true then l else []
theorem tk_yes {I : Ip} (h : 0 ≤ tkV I) : ∃ x u, I.1 = x :: u ∧ tkV I = x &&& 255 ∧ (tkI I).1 = u := by
  obtain ⟨u, m, f, n⟩ := I
  cases u with
  | nil => exact absurd h (by show ¬ (0 : Int32) ≤ -1; decide)
  | cons x u =>
    cases f with
    | zero => exact absurd h (by show ¬ (0 : Int32) ≤ -1; decide)
    | succ f => exact ⟨x, u, rfl, rfl, by simp only [tkI]; split <;> rfl⟩
theorem and255_bv (x : BitVec 32) : (0#32).sle (x &&& 255#32) = true := by
  rw [BitVec.sle_eq_decide]
  have h : (x &&& 255#32).toInt = ((x &&& 255#32).toNat : Int) := by
    rw [BitVec.toInt_eq_toNat_of_lt]
    rw [BitVec.toNat_and]
    have : x.toNat &&& (255#32).toNat ≤ (255#32).toNat := Nat.and_le_right
    have e : (255#32).toNat = 255 := rfl
    omega
  rw [h]
  exact decide_eq_true (Int.natCast_nonneg _)
theorem and255_pos (x : Int32) : (0 : Int32) ≤ x &&& 255 := and255_bv x.toBitVec
theorem tk_bad {I : Ip} (h : ¬ 0 ≤ tkV I) : tkI I = I := by
  obtain ⟨u, m, f, n⟩ := I
  cases u with
  | nil => rfl
  | cons x u =>
    cases f with
    | zero => rfl
    | succ f => exact absurd (and255_pos x) h
set_option maxHeartbeats 4000000 in
set_option maxRecDepth 100000 in
theorem k_begins (l : Launch) (q : ev_T) {fu b r0 : Nat} {I : Ip} {ys : List Int32} {ov : Bool} {g : mu_T} (hS : Shp g) (hI : IQ g fu I) (hY : RB g b r0 4 ys ov) : Ctr l q M_In_begins 2 [.ref 7, .ref b] (0, 0, g) (fun v w => v = some (.int (if bgn I.1 ys = true then 1 else 0)) ∧ w.2.2 = g) := by
  have hy4 := hY.2.1
  refine Ctr.mk (lb := [some (.ref 7), some (.ref b), none]) (by decide +kernel) (Nat.le_of_ble_eq_true rfl) rfl rfl ?_
  intro pp ee ss mm aa bb mt cd X hrt hlk hnm
  have loop : ∀ (d k : Nat), k + d = ys.length → (∀ i, i < k → atL I.1 (nI i) = ys.getD i 0 &&& 255) → Vv pp l ee (rmT 2 0 0) ss mm aa bb mt cd 3 q (MQ bb (Qw q (fun v w => v = some (.int (if bgn I.1 ys = true then 1 else 0)) ∧ w.2.2 = g)) aa ss 0 0 (fun a => q.1 ≤ a)) 2 [some (.ref 7), some (.ref b), some (.int (nI k))] [] (0, 0, g) := by
    intro d
    induction d with
    | zero =>
      intro k hkd hal
      refine v_iload_n X (dk D_In_begins 2 rfl) rfl ?_
      refine v_aload_n X (dk D_In_begins 3 rfl) rfl ?_
      refine v_getI X (dk D_In_begins 4 rfl) F_In_59 rfl hY.1.1 hY.1.2.1 ?_
      refine v_icmp_ge (tgt := 31) X (dk D_In_begins 5 rfl) (by decide) (fun _ => ?_) (fun c7 => absurd (by rw [hY.2.2.1]; exact nI_le (by omega) (by omega)) c7)
      refine v_iconst (v := 1) X (dk D_In_begins 17 rfl) (by decide) ?_
      exact v_zret X hlk hrt rfl (dk D_In_begins 18 rfl) ⟨by rw [if_pos (show bgn I.1 ys = true from decide_eq_true (fun i hi => hal i (by omega)))], rfl⟩
    | succ d ih =>
      intro k hkd hal
      refine v_iload_n X (dk D_In_begins 2 rfl) rfl ?_
      refine v_aload_n X (dk D_In_begins 3 rfl) rfl ?_
      refine v_getI X (dk D_In_begins 4 rfl) F_In_59 rfl hY.1.1 hY.1.2.1 ?_
      refine v_icmp_ge (tgt := 31) X (dk D_In_begins 5 rfl) (by decide) (fun c7 => absurd c7 (by rw [hY.2.2.1]; exact nI_ge (by omega) (by omega))) (fun _ => ?_)
      refine v_aload_n X (dk D_In_begins 6 rfl) rfl ?_
      refine v_iload_n X (dk D_In_begins 7 rfl) rfl ?_
      refine v_invV (As := [.int (nI k)]) (st := []) X (k_peek l q (k := k) hS hI (by omega)) (dk D_In_begins 8 rfl) G_In_92 K_In_peek V_In_peek rfl rfl (hS.lt (by decide)) rfl rfl (Nat.le_of_ble_eq_true rfl) (Nat.le_of_ble_eq_true rfl) (Nat.le_of_ble_eq_true rfl) (Nat.le_of_ble_eq_true rfl) (Nat.le_of_ble_eq_true rfl) ?_
      rintro v w ⟨rfl, hw⟩
      rw [hw]
      show Vv _ _ _ _ _ _ _ _ _ _ _ _ _ _ _ [.int (atL I.1 (nI k))] (0, 0, g)
      refine v_aload_n X (dk D_In_begins 9 rfl) rfl ?_
      refine v_iload_n X (dk D_In_begins 10 rfl) rfl ?_
      refine v_invV (As := [.int (nI k)]) (st := [.int (atL I.1 (nI k))]) X (k_at l q hY) (dk D_In_begins 11 rfl) G_In_62 K_By_at V_By_at hY.1.1 rfl hY.1.2.1 rfl rfl (Nat.le_of_ble_eq_true rfl) (Nat.le_of_ble_eq_true rfl) (Nat.le_of_ble_eq_true rfl) (Nat.le_of_ble_eq_true rfl) (Nat.le_of_ble_eq_true rfl) ?_
      rintro v w ⟨rfl, hw⟩
      rw [hw, atL_nI (show k < ys.length by omega) (by omega)]
      show Vv _ _ _ _ _ _ _ _ _ _ _ _ _ _ _ [.int (ys.getD k 0 &&& 255), .int (atL I.1 (nI k))] (0, 0, g)
      refine v_icmp_eq (tgt := 25) X (dk D_In_begins 12 rfl) (by decide) (fun c20 => ?_) (fun c20 => ?_)
      · refine v_iinc (v := nI (k + 1)) (lb := [some (.ref 7), some (.ref b), some (.int (nI (k + 1)))]) X (dk D_In_begins 15 rfl) rfl (nI_1 k) (by decide) rfl ?_
        refine v_goto (tgt := 2) X (dk D_In_begins 16 rfl) (by decide) ?_
        exact ih (k + 1) (by omega) (fun i hi => if e : i = k then by rw [e]; exact c20 else hal i (by omega))
      · refine v_iconst (v := 0) X (dk D_In_begins 13 rfl) (by decide) ?_
        exact v_zret X hlk hrt rfl (dk D_In_begins 14 rfl) ⟨by rw [if_neg (show ¬ bgn I.1 ys = true from fun e => c20 (of_decide_eq_true e k (by omega)))], rfl⟩
  refine v_iconst (v := nI 0) X (dk D_In_begins 0 rfl) (by decide) ?_
  refine v_istore_n (lb := [some (.ref 7), some (.ref b), some (.int (nI 0))]) X (dk D_In_begins 1 rfl) (by decide) rfl ?_
  exact loop ys.length 0 (by omega) (fun i hi => absurd hi (Nat.not_lt_zero _))
theorem IQ.byte {g : mu_T} {fu : Nat} {I : Ip} (h : IQ g fu I) : ∀ x ∈ I.1, isByte x := by
  obtain ⟨T, bk, ta, ⟨ov, hT⟩, hr, ha1, hat, hu, hm, hba, hbk, hfu, hfl, hff, htk, hln, hl2, h3, hby⟩ := h
  exact hby
theorem IQ.len {g : mu_T} {fu : Nat} {I : Ip} (h : IQ g fu I) : I.1.length ≤ 32768 := by
  obtain ⟨T, bk, ta, ⟨ov, hT⟩, hr, ha1, hat, hu, hm, hba, hbk, hfu, hfl, hff, htk, hln, hl2, h3, hby⟩ := h
  exact h3
set_option maxHeartbeats 4000000 in
set_option maxRecDepth 100000 in
theorem k_takeSome (l : Launch) (q : ev_T) {fu n : Nat} {kt : Bool} {I : Ip} {xs : List Int32} {g : mu_T} (hS : Shp g) (hI : IQ g fu I) (hX : RB g 12 13 32768 xs false) (hxl : xs.length + I.1.length ≤ 32768) (hn : n < 1000000) : Ctr l q M_In_takeSome 2 [.ref 7, .int (nI n), .int (if kt = true then 1 else 0)] (0, 0, g) (fun v w => v = some (.int (if (tkL n I).1 = true then 0 else 31)) ∧ sm g w.2.2 [7, 12, 13] ∧ IQ w.2.2 fu (tkL n I).2.1 ∧ kp g w.2.2 ∧ RB w.2.2 12 13 32768 (xs ++ ktL kt (tkL n I).2.2) false) := by

  refine Ctr.mk (lb := [some (.ref 7), some (.int (nI n)), some (.int (if kt = true then 1 else 0)), none, none]) (by decide +kernel) (Nat.le_of_ble_eq_true rfl) rfl rfl ?_
  intro pp ee ss mm aa bb mt cd X hrt hlk hnm
  have loop : ∀ (d j : Nat) (u : mu_T) (J : Ip) (zs : List Int32), j + d = n → sm g u [7, 12, 13] → kp g u → IQ u fu J → RB u 12 13 32768 zs false → zs.length + J.1.length ≤ 32768 → (tkL n I).1 = (tkL d J).1 → (tkL n I).2.1 = (tkL d J).2.1 → xs ++ ktL kt (tkL n I).2.2 = zs ++ ktL kt (tkL d J).2.2 → Vv pp l ee (rmT 2 0 0) ss mm aa bb mt cd 5 q (MQ bb (Qw q (fun v w => v = some (.int (if (tkL n I).1 = true then 0 else 31)) ∧ sm g w.2.2 [7, 12, 13] ∧ IQ w.2.2 fu (tkL n I).2.1 ∧ kp g w.2.2 ∧ RB w.2.2 12 13 32768 (xs ++ ktL kt (tkL n I).2.2) false)) aa ss 0 0 (fun a => q.1 ≤ a)) 2 [some (.ref 7), some (.int (nI n)), some (.int (if kt = true then 1 else 0)), some (.int (nI j)), none] [] (0, 0, u) := by
    intro d
    induction d with
    | zero =>
      intro j u J zs hjd hs hkp hIu hRB hzl e1 e2 e3
      have hSu := hS.sm hs
      refine v_iload_n X (dk D_In_takeSome 2 rfl) rfl ?_
      refine v_iload_n X (dk D_In_takeSome 3 rfl) rfl ?_
      refine v_icmp_ge (tgt := 40) X (dk D_In_takeSome 4 rfl) (by decide) (fun _ => ?_) (fun c4 => absurd (nI_le (by omega) (by omega)) c4)
      refine v_iconst (v := 0) X (dk D_In_takeSome 20 rfl) (by decide) ?_
      exact v_iret X hlk hrt (dk D_In_takeSome 21 rfl) (by rw [e1, e2, e3]; refine ⟨rfl, hs, hIu, hkp, ?_⟩; show RB _ _ _ _ (zs ++ ktL kt []) _; rw [show ktL kt [] = [] from by cases kt <;> rfl, List.append_nil]; exact hRB)
    | succ d ih =>
      intro j u J zs hjd hs hkp hIu hRB hzl e1 e2 e3
      have hSu := hS.sm hs
      refine v_iload_n X (dk D_In_takeSome 2 rfl) rfl ?_
      refine v_iload_n X (dk D_In_takeSome 3 rfl) rfl ?_
      refine v_icmp_ge (tgt := 40) X (dk D_In_takeSome 4 rfl) (by decide) (fun c4 => absurd c4 (nI_ge (by omega) (by omega))) (fun _ => ?_)
      refine v_aload_n X (dk D_In_takeSome 5 rfl) rfl ?_
      refine v_invV (As := []) (st := []) X (k_In_take l q hSu hIu) (dk D_In_takeSome 6 rfl) G_In_83 K_In_take V_In_take rfl rfl (hSu.lt (by decide)) rfl rfl (Nat.le_of_ble_eq_true rfl) (Nat.le_of_ble_eq_true rfl) (Nat.le_of_ble_eq_true rfl) (Nat.le_of_ble_eq_true rfl) (Nat.le_of_ble_eq_true rfl) ?_
      rintro v w ⟨rfl, hw1, hw2, hw3⟩
      have hS2 := hSu.sm hw1
      show Vv _ _ _ _ _ _ _ _ _ _ _ _ _ _ _ [.int (tkV J)] (0, 0, w.2.2)
      refine v_istore (lb := [some (.ref 7), some (.int (nI n)), some (.int (if kt = true then 1 else 0)), some (.int (nI j)), some (.int (tkV J))]) X (dk D_In_takeSome 7 rfl) (by decide) rfl ?_
      refine v_iload X (dk D_In_takeSome 8 rfl) rfl ?_
      refine v_if_ge (tgt := 21) X (dk D_In_takeSome 9 rfl) (by decide) (fun c15 => ?_) (fun c15 => ?_)
      · refine v_iload_n X (dk D_In_takeSome 12 rfl) rfl ?_
        obtain ⟨y, yu, t1, t2, t3⟩ := tk_yes c15
        have te : tkL (d + 1) J = ((tkL d (tkI J)).1, (tkL d (tkI J)).2.1, J.1.getD 0 0 :: (tkL d (tkI J)).2.2) := if_neg (Int32.not_lt.mpr c15)
        have tb : y.toInt8.toInt32 = y := hIu.byte y (by rw [t1]; exact List.mem_cons_self ..)
        refine v_if_eq (tgt := 34) X (dk D_In_takeSome 13 rfl) (by decide) (fun c22 => ?_) (fun c22 => ?_)
        · refine v_iinc (v := nI (j + 1)) (lb := [some (.ref 7), some (.int (nI n)), some (.int (if kt = true then 1 else 0)), some (.int (nI (j + 1))), some (.int (tkV J))]) X (dk D_In_takeSome 18 rfl) rfl (nI_1 j) (by decide) rfl ?_
          refine v_goto (tgt := 2) X (dk D_In_takeSome 19 rfl) (by decide) ?_
          exact v_weak (la := [some (.ref 7), some (.int (nI n)), some (.int (if kt = true then 1 else 0)), some (.int (nI (j + 1))), none]) ⟨rfl, rfl, rfl, rfl, trivial⟩ (ih (j + 1) _ (tkI J) zs (by omega) (hs.tr hw1 (fun _ z => z) (by decide)) (hkp.tr hw3) hw2 (hRB.sm hw1 (by decide) (by decide)) (by rw [t3]; rw [t1, List.length_cons] at hzl; omega) (by rw [e1, te]) (by rw [e2, te]) (by rw [e3, te, show kt = false from by cases kt; rfl; exact absurd c22 (by decide)]; rfl))
        · refine v_aload_n X (dk D_In_takeSome 14 rfl) rfl ?_
          refine v_getF X (dk D_In_takeSome 15 rfl) F_In_24 rfl rfl (hS2.lt (by decide)) (hS2.2 7 2) ?_
          refine v_iload X (dk D_In_takeSome 16 rfl) rfl ?_
          refine v_invV (As := [.int (tkV J)]) (st := []) X (k_add l q (x := tkV J) (hRB.sm hw1 (by decide) (by decide))) (dk D_In_takeSome 17 rfl) G_In_56 K_By_add V_By_add rfl rfl (hS2.lt (by decide)) rfl rfl (Nat.le_of_ble_eq_true rfl) (Nat.le_of_ble_eq_true rfl) (Nat.le_of_ble_eq_true rfl) (Nat.le_of_ble_eq_true rfl) (Nat.le_of_ble_eq_true rfl) ?_
          rintro v w2 ⟨rfl, hw4, hw5⟩
          show Vv _ _ _ _ _ _ _ _ _ _ _ _ _ _ _ [] (0, 0, w2.2.2)
          refine v_iinc (v := nI (j + 1)) (lb := [some (.ref 7), some (.int (nI n)), some (.int (if kt = true then 1 else 0)), some (.int (nI (j + 1))), some (.int (tkV J))]) X (dk D_In_takeSome 18 rfl) rfl (nI_1 j) (by decide) rfl ?_
          refine v_goto (tgt := 2) X (dk D_In_takeSome 19 rfl) (by decide) ?_
          exact v_weak (la := [some (.ref 7), some (.int (nI n)), some (.int (if kt = true then 1 else 0)), some (.int (nI (j + 1))), none]) ⟨rfl, rfl, rfl, rfl, trivial⟩ (ih (j + 1) _ (tkI J) (zs ++ [y]) (by omega) ((hs.tr hw1 (U := [7, 12, 13]) (fun _ z => z) (by decide)).tr hw4 (fun _ z => z) (by decide)) ((hkp.tr hw3).sm hw4 (by decide)) (hw2.sm hw4 (by decide) (by decide) (by decide) (by decide)) (by rw [t2, and255_b, tb, show ad1 32768 (zs, false) y = (zs ++ [y], false) from if_neg (by intro z; rcases z with z | z; exact Bool.noConfusion (show false = true from z); have : zs.length = 32768 := z; rw [t1, List.length_cons] at hzl; omega)] at hw5; exact hw5) (by rw [t3, List.length_append]; rw [t1, List.length_cons] at hzl; show zs.length + 1 + _ ≤ _; omega) (by rw [e1, te]) (by rw [e2, te]) (by rw [e3, te, show kt = true from by cases kt; exact absurd rfl c22; rfl, show J.1.getD 0 0 = y from by rw [t1]; rfl]; show zs ++ (y :: _) = zs ++ [y] ++ _; rw [List.append_assoc]; rfl))
      · refine v_bipush (v := 31) X (dk D_In_takeSome 10 rfl) (by decide) ?_
        exact v_iret X hlk hrt (dk D_In_takeSome 11 rfl) (by have hb := tk_bad c15; have e : tkL (d + 1) J = (false, J, []) := if_pos (Int32.not_le.mp c15); rw [e] at e1 e2 e3; rw [e1, e2, e3]; rw [hb] at hw2; refine ⟨rfl, hs.tr hw1 (fun _ z => z) (by decide), hw2, hkp.tr hw3, ?_⟩; show RB _ _ _ _ (zs ++ ktL kt []) _; rw [show ktL kt [] = [] from by cases kt <;> rfl, List.append_nil]; exact hRB.sm hw1 (by decide) (by decide))
  refine v_iconst (v := nI 0) X (dk D_In_takeSome 0 rfl) (by decide) ?_
  refine v_istore_n (lb := [some (.ref 7), some (.int (nI n)), some (.int (if kt = true then 1 else 0)), some (.int (nI 0)), none]) X (dk D_In_takeSome 1 rfl) (by decide) rfl ?_
  exact loop n 0 g I xs (by omega) (sm.rf g _) (kp.rf g) hI hX hxl rfl rfl rfl
end
section
/-! letters, digits; Input: readName, readRemark, dropLine -/
def isLet (b : Int32) : Bool := decide ((¬ b < 65 ∧ b ≤ 90) ∨ (¬ b < 97 ∧ b ≤ 122) ∨ b = 95)
def isDig (b : Int32) : Bool := decide (¬ b < 48 ∧ ¬ 57 < b)
def isNam (b : Int32) : Bool := isLet b || isDig b
set_option maxHeartbeats 4000000 in
set_option maxRecDepth 100000 in
theorem k_isLetter (l : Launch) (q : ev_T) {b : Int32} {g : mu_T}  : Ctr l q M_Mi_isLetter 0 [.int b] (0, 0, g) (fun v w => v = some (.int (if isLet b = true then 1 else 0)) ∧ w.2.2 = g) := by

  refine Ctr.mk (lb := [some (.int b)]) (by decide +kernel) (Nat.le_of_ble_eq_true rfl) rfl rfl ?_
  intro pp ee ss mm aa bb mt cd X hrt hlk hnm
  refine v_iload_n X (dk D_Mi_isLetter 0 rfl) rfl ?_
  refine v_bipush (v := 65) X (dk D_Mi_isLetter 1 rfl) (by decide) ?_
  refine v_icmp_lt (tgt := 12) X (dk D_Mi_isLetter 2 rfl) (by decide) (fun c3 => ?_) (fun c3 => ?_)
  · refine v_iload_n X (dk D_Mi_isLetter 6 rfl) rfl ?_
    refine v_bipush (v := 97) X (dk D_Mi_isLetter 7 rfl) (by decide) ?_
    refine v_icmp_lt (tgt := 24) X (dk D_Mi_isLetter 8 rfl) (by decide) (fun c15 => ?_) (fun c15 => ?_)
    · refine v_iload_n X (dk D_Mi_isLetter 12 rfl) rfl ?_
      refine v_bipush (v := 95) X (dk D_Mi_isLetter 13 rfl) (by decide) ?_
      refine v_icmp_ne (tgt := 34) X (dk D_Mi_isLetter 14 rfl) (by decide) (fun c27 => ?_) (fun c27 => ?_)
      · refine v_iconst (v := 0) X (dk D_Mi_isLetter 17 rfl) (by decide) ?_
        exact v_zret X hlk hrt rfl (dk D_Mi_isLetter 18 rfl) (by rw [if_neg (show ¬ isLet b = true from fun e => by rcases of_decide_eq_true e with e | e | e; (first | exact e.1 c3 | exact c9 e.2); (first | exact e.1 c15 | exact c21 e.2); exact c27 e)]; exact ⟨rfl, rfl⟩)
      · refine v_iconst (v := 1) X (dk D_Mi_isLetter 15 rfl) (by decide) ?_
        refine v_goto (tgt := 35) X (dk D_Mi_isLetter 16 rfl) (by decide) ?_
        exact v_zret X hlk hrt rfl (dk D_Mi_isLetter 18 rfl) (by rw [if_pos (show isLet b = true from decide_eq_true (by first | exact Or.inr (Or.inr c27) | exact Or.inr (Or.inl ⟨c15, c21⟩) | exact Or.inl ⟨c3, c9⟩))]; exact ⟨rfl, rfl⟩)
    · refine v_iload_n X (dk D_Mi_isLetter 9 rfl) rfl ?_
      refine v_bipush (v := 122) X (dk D_Mi_isLetter 10 rfl) (by decide) ?_
      refine v_icmp_le (tgt := 30) X (dk D_Mi_isLetter 11 rfl) (by decide) (fun c21 => ?_) (fun c21 => ?_)
      · refine v_iconst (v := 1) X (dk D_Mi_isLetter 15 rfl) (by decide) ?_
        refine v_goto (tgt := 35) X (dk D_Mi_isLetter 16 rfl) (by decide) ?_
        exact v_zret X hlk hrt rfl (dk D_Mi_isLetter 18 rfl) (by rw [if_pos (show isLet b = true from decide_eq_true (by first | exact Or.inr (Or.inr c27) | exact Or.inr (Or.inl ⟨c15, c21⟩) | exact Or.inl ⟨c3, c9⟩))]; exact ⟨rfl, rfl⟩)
      · refine v_iload_n X (dk D_Mi_isLetter 12 rfl) rfl ?_
        refine v_bipush (v := 95) X (dk D_Mi_isLetter 13 rfl) (by decide) ?_
        refine v_icmp_ne (tgt := 34) X (dk D_Mi_isLetter 14 rfl) (by decide) (fun c27 => ?_) (fun c27 => ?_)
        · refine v_iconst (v := 0) X (dk D_Mi_isLetter 17 rfl) (by decide) ?_
          exact v_zret X hlk hrt rfl (dk D_Mi_isLetter 18 rfl) (by rw [if_neg (show ¬ isLet b = true from fun e => by rcases of_decide_eq_true e with e | e | e; (first | exact e.1 c3 | exact c9 e.2); (first | exact e.1 c15 | exact c21 e.2); exact c27 e)]; exact ⟨rfl, rfl⟩)
        · refine v_iconst (v := 1) X (dk D_Mi_isLetter 15 rfl) (by decide) ?_
          refine v_goto (tgt := 35) X (dk D_Mi_isLetter 16 rfl) (by decide) ?_
          exact v_zret X hlk hrt rfl (dk D_Mi_isLetter 18 rfl) (by rw [if_pos (show isLet b = true from decide_eq_true (by first | exact Or.inr (Or.inr c27) | exact Or.inr (Or.inl ⟨c15, c21⟩) | exact Or.inl ⟨c3, c9⟩))]; exact ⟨rfl, rfl⟩)
  · refine v_iload_n X (dk D_Mi_isLetter 3 rfl) rfl ?_
    refine v_bipush (v := 90) X (dk D_Mi_isLetter 4 rfl) (by decide) ?_
    refine v_icmp_le (tgt := 30) X (dk D_Mi_isLetter 5 rfl) (by decide) (fun c9 => ?_) (fun c9 => ?_)
    · refine v_iconst (v := 1) X (dk D_Mi_isLetter 15 rfl) (by decide) ?_
      refine v_goto (tgt := 35) X (dk D_Mi_isLetter 16 rfl) (by decide) ?_
      exact v_zret X hlk hrt rfl (dk D_Mi_isLetter 18 rfl) (by rw [if_pos (show isLet b = true from decide_eq_true (by first | exact Or.inr (Or.inr c27) | exact Or.inr (Or.inl ⟨c15, c21⟩) | exact Or.inl ⟨c3, c9⟩))]; exact ⟨rfl, rfl⟩)
    · refine v_iload_n X (dk D_Mi_isLetter 6 rfl) rfl ?_
      refine v_bipush (v := 97) X (dk D_Mi_isLetter 7 rfl) (by decide) ?_
      refine v_icmp_lt (tgt := 24) X (dk D_Mi_isLetter 8 rfl) (by decide) (fun c15 => ?_) (fun c15 => ?_)
      · refine v_iload_n X (dk D_Mi_isLetter 12 rfl) rfl ?_
        refine v_bipush (v := 95) X (dk D_Mi_isLetter 13 rfl) (by decide) ?_
        refine v_icmp_ne (tgt := 34) X (dk D_Mi_isLetter 14 rfl) (by decide) (fun c27 => ?_) (fun c27 => ?_)
        · refine v_iconst (v := 0) X (dk D_Mi_isLetter 17 rfl) (by decide) ?_
          exact v_zret X hlk hrt rfl (dk D_Mi_isLetter 18 rfl) (by rw [if_neg (show ¬ isLet b = true from fun e => by rcases of_decide_eq_true e with e | e | e; (first | exact e.1 c3 | exact c9 e.2); (first | exact e.1 c15 | exact c21 e.2); exact c27 e)]; exact ⟨rfl, rfl⟩)
        · refine v_iconst (v := 1) X (dk D_Mi_isLetter 15 rfl) (by decide) ?_
          refine v_goto (tgt := 35) X (dk D_Mi_isLetter 16 rfl) (by decide) ?_
          exact v_zret X hlk hrt rfl (dk D_Mi_isLetter 18 rfl) (by rw [if_pos (show isLet b = true from decide_eq_true (by first | exact Or.inr (Or.inr c27) | exact Or.inr (Or.inl ⟨c15, c21⟩) | exact Or.inl ⟨c3, c9⟩))]; exact ⟨rfl, rfl⟩)
      · refine v_iload_n X (dk D_Mi_isLetter 9 rfl) rfl ?_
        refine v_bipush (v := 122) X (dk D_Mi_isLetter 10 rfl) (by decide) ?_
        refine v_icmp_le (tgt := 30) X (dk D_Mi_isLetter 11 rfl) (by decide) (fun c21 => ?_) (fun c21 => ?_)
        · refine v_iconst (v := 1) X (dk D_Mi_isLetter 15 rfl) (by decide) ?_
          refine v_goto (tgt := 35) X (dk D_Mi_isLetter 16 rfl) (by decide) ?_
          exact v_zret X hlk hrt rfl (dk D_Mi_isLetter 18 rfl) (by rw [if_pos (show isLet b = true from decide_eq_true (by first | exact Or.inr (Or.inr c27) | exact Or.inr (Or.inl ⟨c15, c21⟩) | exact Or.inl ⟨c3, c9⟩))]; exact ⟨rfl, rfl⟩)
        · refine v_iload_n X (dk D_Mi_isLetter 12 rfl) rfl ?_
          refine v_bipush (v := 95) X (dk D_Mi_isLetter 13 rfl) (by decide) ?_
          refine v_icmp_ne (tgt := 34) X (dk D_Mi_isLetter 14 rfl) (by decide) (fun c27 => ?_) (fun c27 => ?_)
          · refine v_iconst (v := 0) X (dk D_Mi_isLetter 17 rfl) (by decide) ?_
            exact v_zret X hlk hrt rfl (dk D_Mi_isLetter 18 rfl) (by rw [if_neg (show ¬ isLet b = true from fun e => by rcases of_decide_eq_true e with e | e | e; (first | exact e.1 c3 | exact c9 e.2); (first | exact e.1 c15 | exact c21 e.2); exact c27 e)]; exact ⟨rfl, rfl⟩)
          · refine v_iconst (v := 1) X (dk D_Mi_isLetter 15 rfl) (by decide) ?_
            refine v_goto (tgt := 35) X (dk D_Mi_isLetter 16 rfl) (by decide) ?_
            exact v_zret X hlk hrt rfl (dk D_Mi_isLetter 18 rfl) (by rw [if_pos (show isLet b = true from decide_eq_true (by first | exact Or.inr (Or.inr c27) | exact Or.inr (Or.inl ⟨c15, c21⟩) | exact Or.inl ⟨c3, c9⟩))]; exact ⟨rfl, rfl⟩)
set_option maxHeartbeats 4000000 in
set_option maxRecDepth 100000 in
theorem k_isDigit (l : Launch) (q : ev_T) {b : Int32} {g : mu_T}  : Ctr l q M_Mi_isDigit 0 [.int b] (0, 0, g) (fun v w => v = some (.int (if isDig b = true then 1 else 0)) ∧ w.2.2 = g) := by

  refine Ctr.mk (lb := [some (.int b)]) (by decide +kernel) (Nat.le_of_ble_eq_true rfl) rfl rfl ?_
  intro pp ee ss mm aa bb mt cd X hrt hlk hnm
  refine v_iload_n X (dk D_Mi_isDigit 0 rfl) rfl ?_
  refine v_bipush (v := 48) X (dk D_Mi_isDigit 1 rfl) (by decide) ?_
  refine v_icmp_lt (tgt := 16) X (dk D_Mi_isDigit 2 rfl) (by decide) (fun c3 => ?_) (fun c3 => ?_)
  · refine v_iconst (v := 0) X (dk D_Mi_isDigit 8 rfl) (by decide) ?_
    exact v_zret X hlk hrt rfl (dk D_Mi_isDigit 9 rfl) (by rw [if_neg (show ¬ isDig b = true from fun e => (of_decide_eq_true e).1 c3)]; exact ⟨rfl, rfl⟩)
  · refine v_iload_n X (dk D_Mi_isDigit 3 rfl) rfl ?_
    refine v_bipush (v := 57) X (dk D_Mi_isDigit 4 rfl) (by decide) ?_
    refine v_icmp_gt (tgt := 16) X (dk D_Mi_isDigit 5 rfl) (by decide) (fun c9 => ?_) (fun c9 => ?_)
    · refine v_iconst (v := 0) X (dk D_Mi_isDigit 8 rfl) (by decide) ?_
      exact v_zret X hlk hrt rfl (dk D_Mi_isDigit 9 rfl) (by rw [if_neg (show ¬ isDig b = true from fun e => (of_decide_eq_true e).2 c9)]; exact ⟨rfl, rfl⟩)
    · refine v_iconst (v := 1) X (dk D_Mi_isDigit 6 rfl) (by decide) ?_
      refine v_goto (tgt := 17) X (dk D_Mi_isDigit 7 rfl) (by decide) ?_
      exact v_zret X hlk hrt rfl (dk D_Mi_isDigit 9 rfl) (by rw [if_pos (show isDig b = true from decide_eq_true ⟨c3, c9⟩)]; exact ⟨rfl, rfl⟩)
set_option maxHeartbeats 4000000 in
set_option maxRecDepth 100000 in
theorem r_isLetter (l : Launch) (q : ev_T) {b : Int32} {g : mu_T}  : Ctr l q M_Rf_isLetter 0 [.int b] (0, 0, g) (fun v w => v = some (.int (if isLet b = true then 1 else 0)) ∧ w.2.2 = g) := by

  refine Ctr.mk (lb := [some (.int b)]) (by decide +kernel) (Nat.le_of_ble_eq_true rfl) rfl rfl ?_
  intro pp ee ss mm aa bb mt cd X hrt hlk hnm
  refine v_iload_n X (dk D_Rf_isLetter 0 rfl) rfl ?_
  refine v_bipush (v := 65) X (dk D_Rf_isLetter 1 rfl) (by decide) ?_
  refine v_icmp_lt (tgt := 12) X (dk D_Rf_isLetter 2 rfl) (by decide) (fun c3 => ?_) (fun c3 => ?_)
  · refine v_iload_n X (dk D_Rf_isLetter 6 rfl) rfl ?_
    refine v_bipush (v := 97) X (dk D_Rf_isLetter 7 rfl) (by decide) ?_
    refine v_icmp_lt (tgt := 24) X (dk D_Rf_isLetter 8 rfl) (by decide) (fun c15 => ?_) (fun c15 => ?_)
    · refine v_iload_n X (dk D_Rf_isLetter 12 rfl) rfl ?_
      refine v_bipush (v := 95) X (dk D_Rf_isLetter 13 rfl) (by decide) ?_
      refine v_icmp_ne (tgt := 34) X (dk D_Rf_isLetter 14 rfl) (by decide) (fun c27 => ?_) (fun c27 => ?_)
      · refine v_iconst (v := 0) X (dk D_Rf_isLetter 17 rfl) (by decide) ?_
        exact v_zret X hlk hrt rfl (dk D_Rf_isLetter 18 rfl) (by rw [if_neg (show ¬ isLet b = true from fun e => by rcases of_decide_eq_true e with e | e | e; (first | exact e.1 c3 | exact c9 e.2); (first | exact e.1 c15 | exact c21 e.2); exact c27 e)]; exact ⟨rfl, rfl⟩)
      · refine v_iconst (v := 1) X (dk D_Rf_isLetter 15 rfl) (by decide) ?_
        refine v_goto (tgt := 35) X (dk D_Rf_isLetter 16 rfl) (by decide) ?_
        exact v_zret X hlk hrt rfl (dk D_Rf_isLetter 18 rfl) (by rw [if_pos (show isLet b = true from decide_eq_true (by first | exact Or.inr (Or.inr c27) | exact Or.inr (Or.inl ⟨c15, c21⟩) | exact Or.inl ⟨c3, c9⟩))]; exact ⟨rfl, rfl⟩)
    · refine v_iload_n X (dk D_Rf_isLetter 9 rfl) rfl ?_
      refine v_bipush (v := 122) X (dk D_Rf_isLetter 10 rfl) (by decide) ?_
      refine v_icmp_le (tgt := 30) X (dk D_Rf_isLetter 11 rfl) (by decide) (fun c21 => ?_) (fun c21 => ?_)
      · refine v_iconst (v := 1) X (dk D_Rf_isLetter 15 rfl) (by decide) ?_
        refine v_goto (tgt := 35) X (dk D_Rf_isLetter 16 rfl) (by decide) ?_
        exact v_zret X hlk hrt rfl (dk D_Rf_isLetter 18 rfl) (by rw [if_pos (show isLet b = true from decide_eq_true (by first | exact Or.inr (Or.inr c27) | exact Or.inr (Or.inl ⟨c15, c21⟩) | exact Or.inl ⟨c3, c9⟩))]; exact ⟨rfl, rfl⟩)
      · refine v_iload_n X (dk D_Rf_isLetter 12 rfl) rfl ?_
        refine v_bipush (v := 95) X (dk D_Rf_isLetter 13 rfl) (by decide) ?_
        refine v_icmp_ne (tgt := 34) X (dk D_Rf_isLetter 14 rfl) (by decide) (fun c27 => ?_) (fun c27 => ?_)
        · refine v_iconst (v := 0) X (dk D_Rf_isLetter 17 rfl) (by decide) ?_
          exact v_zret X hlk hrt rfl (dk D_Rf_isLetter 18 rfl) (by rw [if_neg (show ¬ isLet b = true from fun e => by rcases of_decide_eq_true e with e | e | e; (first | exact e.1 c3 | exact c9 e.2); (first | exact e.1 c15 | exact c21 e.2); exact c27 e)]; exact ⟨rfl, rfl⟩)
        · refine v_iconst (v := 1) X (dk D_Rf_isLetter 15 rfl) (by decide) ?_
          refine v_goto (tgt := 35) X (dk D_Rf_isLetter 16 rfl) (by decide) ?_
          exact v_zret X hlk hrt rfl (dk D_Rf_isLetter 18 rfl) (by rw [if_pos (show isLet b = true from decide_eq_true (by first | exact Or.inr (Or.inr c27) | exact Or.inr (Or.inl ⟨c15, c21⟩) | exact Or.inl ⟨c3, c9⟩))]; exact ⟨rfl, rfl⟩)
  · refine v_iload_n X (dk D_Rf_isLetter 3 rfl) rfl ?_
    refine v_bipush (v := 90) X (dk D_Rf_isLetter 4 rfl) (by decide) ?_
    refine v_icmp_le (tgt := 30) X (dk D_Rf_isLetter 5 rfl) (by decide) (fun c9 => ?_) (fun c9 => ?_)
    · refine v_iconst (v := 1) X (dk D_Rf_isLetter 15 rfl) (by decide) ?_
      refine v_goto (tgt := 35) X (dk D_Rf_isLetter 16 rfl) (by decide) ?_
      exact v_zret X hlk hrt rfl (dk D_Rf_isLetter 18 rfl) (by rw [if_pos (show isLet b = true from decide_eq_true (by first | exact Or.inr (Or.inr c27) | exact Or.inr (Or.inl ⟨c15, c21⟩) | exact Or.inl ⟨c3, c9⟩))]; exact ⟨rfl, rfl⟩)
    · refine v_iload_n X (dk D_Rf_isLetter 6 rfl) rfl ?_
      refine v_bipush (v := 97) X (dk D_Rf_isLetter 7 rfl) (by decide) ?_
      refine v_icmp_lt (tgt := 24) X (dk D_Rf_isLetter 8 rfl) (by decide) (fun c15 => ?_) (fun c15 => ?_)
      · refine v_iload_n X (dk D_Rf_isLetter 12 rfl) rfl ?_
        refine v_bipush (v := 95) X (dk D_Rf_isLetter 13 rfl) (by decide) ?_
        refine v_icmp_ne (tgt := 34) X (dk D_Rf_isLetter 14 rfl) (by decide) (fun c27 => ?_) (fun c27 => ?_)
        · refine v_iconst (v := 0) X (dk D_Rf_isLetter 17 rfl) (by decide) ?_
          exact v_zret X hlk hrt rfl (dk D_Rf_isLetter 18 rfl) (by rw [if_neg (show ¬ isLet b = true from fun e => by rcases of_decide_eq_true e with e | e | e; (first | exact e.1 c3 | exact c9 e.2); (first | exact e.1 c15 | exact c21 e.2); exact c27 e)]; exact ⟨rfl, rfl⟩)
        · refine v_iconst (v := 1) X (dk D_Rf_isLetter 15 rfl) (by decide) ?_
          refine v_goto (tgt := 35) X (dk D_Rf_isLetter 16 rfl) (by decide) ?_
          exact v_zret X hlk hrt rfl (dk D_Rf_isLetter 18 rfl) (by rw [if_pos (show isLet b = true from decide_eq_true (by first | exact Or.inr (Or.inr c27) | exact Or.inr (Or.inl ⟨c15, c21⟩) | exact Or.inl ⟨c3, c9⟩))]; exact ⟨rfl, rfl⟩)
      · refine v_iload_n X (dk D_Rf_isLetter 9 rfl) rfl ?_
        refine v_bipush (v := 122) X (dk D_Rf_isLetter 10 rfl) (by decide) ?_
        refine v_icmp_le (tgt := 30) X (dk D_Rf_isLetter 11 rfl) (by decide) (fun c21 => ?_) (fun c21 => ?_)
        · refine v_iconst (v := 1) X (dk D_Rf_isLetter 15 rfl) (by decide) ?_
          refine v_goto (tgt := 35) X (dk D_Rf_isLetter 16 rfl) (by decide) ?_
          exact v_zret X hlk hrt rfl (dk D_Rf_isLetter 18 rfl) (by rw [if_pos (show isLet b = true from decide_eq_true (by first | exact Or.inr (Or.inr c27) | exact Or.inr (Or.inl ⟨c15, c21⟩) | exact Or.inl ⟨c3, c9⟩))]; exact ⟨rfl, rfl⟩)
        · refine v_iload_n X (dk D_Rf_isLetter 12 rfl) rfl ?_
          refine v_bipush (v := 95) X (dk D_Rf_isLetter 13 rfl) (by decide) ?_
          refine v_icmp_ne (tgt := 34) X (dk D_Rf_isLetter 14 rfl) (by decide) (fun c27 => ?_) (fun c27 => ?_)
          · refine v_iconst (v := 0) X (dk D_Rf_isLetter 17 rfl) (by decide) ?_
            exact v_zret X hlk hrt rfl (dk D_Rf_isLetter 18 rfl) (by rw [if_neg (show ¬ isLet b = true from fun e => by rcases of_decide_eq_true e with e | e | e; (first | exact e.1 c3 | exact c9 e.2); (first | exact e.1 c15 | exact c21 e.2); exact c27 e)]; exact ⟨rfl, rfl⟩)
          · refine v_iconst (v := 1) X (dk D_Rf_isLetter 15 rfl) (by decide) ?_
            refine v_goto (tgt := 35) X (dk D_Rf_isLetter 16 rfl) (by decide) ?_
            exact v_zret X hlk hrt rfl (dk D_Rf_isLetter 18 rfl) (by rw [if_pos (show isLet b = true from decide_eq_true (by first | exact Or.inr (Or.inr c27) | exact Or.inr (Or.inl ⟨c15, c21⟩) | exact Or.inl ⟨c3, c9⟩))]; exact ⟨rfl, rfl⟩)
set_option maxHeartbeats 4000000 in
set_option maxRecDepth 100000 in
theorem r_isDigit (l : Launch) (q : ev_T) {b : Int32} {g : mu_T}  : Ctr l q M_Rf_isDigit 0 [.int b] (0, 0, g) (fun v w => v = some (.int (if isDig b = true then 1 else 0)) ∧ w.2.2 = g) := by

  refine Ctr.mk (lb := [some (.int b)]) (by decide +kernel) (Nat.le_of_ble_eq_true rfl) rfl rfl ?_
  intro pp ee ss mm aa bb mt cd X hrt hlk hnm
  refine v_iload_n X (dk D_Rf_isDigit 0 rfl) rfl ?_
  refine v_bipush (v := 48) X (dk D_Rf_isDigit 1 rfl) (by decide) ?_
  refine v_icmp_lt (tgt := 16) X (dk D_Rf_isDigit 2 rfl) (by decide) (fun c3 => ?_) (fun c3 => ?_)
  · refine v_iconst (v := 0) X (dk D_Rf_isDigit 8 rfl) (by decide) ?_
    exact v_zret X hlk hrt rfl (dk D_Rf_isDigit 9 rfl) (by rw [if_neg (show ¬ isDig b = true from fun e => (of_decide_eq_true e).1 c3)]; exact ⟨rfl, rfl⟩)
  · refine v_iload_n X (dk D_Rf_isDigit 3 rfl) rfl ?_
    refine v_bipush (v := 57) X (dk D_Rf_isDigit 4 rfl) (by decide) ?_
    refine v_icmp_gt (tgt := 16) X (dk D_Rf_isDigit 5 rfl) (by decide) (fun c9 => ?_) (fun c9 => ?_)
    · refine v_iconst (v := 0) X (dk D_Rf_isDigit 8 rfl) (by decide) ?_
      exact v_zret X hlk hrt rfl (dk D_Rf_isDigit 9 rfl) (by rw [if_neg (show ¬ isDig b = true from fun e => (of_decide_eq_true e).2 c9)]; exact ⟨rfl, rfl⟩)
    · refine v_iconst (v := 1) X (dk D_Rf_isDigit 6 rfl) (by decide) ?_
      refine v_goto (tgt := 17) X (dk D_Rf_isDigit 7 rfl) (by decide) ?_
      exact v_zret X hlk hrt rfl (dk D_Rf_isDigit 9 rfl) (by rw [if_pos (show isDig b = true from decide_eq_true ⟨c3, c9⟩)]; exact ⟨rfl, rfl⟩)
set_option maxHeartbeats 4000000 in
set_option maxRecDepth 100000 in
theorem k_isNamePart (l : Launch) (q : ev_T) {b : Int32} {g : mu_T}  : Ctr l q M_Mi_isNamePart 1 [.int b] (0, 0, g) (fun v w => v = some (.int (if isNam b = true then 1 else 0)) ∧ w.2.2 = g) := by

  refine Ctr.mk (lb := [some (.int b)]) (by decide +kernel) (Nat.le_of_ble_eq_true rfl) rfl rfl ?_
  intro pp ee ss mm aa bb mt cd X hrt hlk hnm
  refine v_iload_n X (dk D_Mi_isNamePart 0 rfl) rfl ?_
  refine v_invS (As := [.int (b)]) (st := []) X (k_isLetter l q (b := b) (g := g)) (dk D_Mi_isNamePart 1 rfl) G_Mi_349 K_Mi_isLetter S_Mi_isLetter rfl rfl (Nat.le_of_ble_eq_true rfl) (Nat.le_of_ble_eq_true rfl) (Nat.le_of_ble_eq_true rfl) (Nat.le_of_ble_eq_true rfl) (Nat.le_of_ble_eq_true rfl) ?_
  rintro v w ⟨rfl, hw⟩
  rw [hw]
  show Vv _ _ _ _ _ _ _ _ _ _ _ _ _ _ _ (.int (if isLet (b) = true then 1 else 0) :: []) (0, 0, g)
  refine v_if_ne (tgt := 14) X (dk D_Mi_isNamePart 2 rfl) (by decide) (fun c4 => ?_) (fun c4 => ?_)
  · refine v_iconst (v := 1) X (dk D_Mi_isNamePart 6 rfl) (by decide) ?_
    refine v_goto (tgt := 19) X (dk D_Mi_isNamePart 7 rfl) (by decide) ?_
    exact v_zret X hlk hrt rfl (dk D_Mi_isNamePart 9 rfl) (by rw [if_pos (show isNam b = true from by rw [isNam, show isLet b = true from Decidable.byContradiction (fun e => c4 (if_neg e))]; rfl)]; exact ⟨rfl, rfl⟩)
  · refine v_iload_n X (dk D_Mi_isNamePart 3 rfl) rfl ?_
    refine v_invS (As := [.int (b)]) (st := []) X (k_isDigit l q (b := b) (g := g)) (dk D_Mi_isNamePart 4 rfl) G_Mi_267 K_Mi_isDigit S_Mi_isDigit rfl rfl (Nat.le_of_ble_eq_true rfl) (Nat.le_of_ble_eq_true rfl) (Nat.le_of_ble_eq_true rfl) (Nat.le_of_ble_eq_true rfl) (Nat.le_of_ble_eq_true rfl) ?_
    rintro v w ⟨rfl, hw⟩
    rw [hw]
    show Vv _ _ _ _ _ _ _ _ _ _ _ _ _ _ _ (.int (if isDig (b) = true then 1 else 0) :: []) (0, 0, g)
    refine v_if_eq (tgt := 18) X (dk D_Mi_isNamePart 5 rfl) (by decide) (fun c11 => ?_) (fun c11 => ?_)
    · refine v_iconst (v := 0) X (dk D_Mi_isNamePart 8 rfl) (by decide) ?_
      exact v_zret X hlk hrt rfl (dk D_Mi_isNamePart 9 rfl) (by rw [if_neg (show ¬ isNam b = true from by rw [isNam, show isLet b = false from Bool.eq_false_iff.mpr (fun e => absurd c4 (by rw [if_pos e]; decide)), show isDig b = false from Bool.eq_false_iff.mpr (fun e => absurd c11 (by rw [if_pos e]; decide))]; decide)]; exact ⟨rfl, rfl⟩)
    · refine v_iconst (v := 1) X (dk D_Mi_isNamePart 6 rfl) (by decide) ?_
      refine v_goto (tgt := 19) X (dk D_Mi_isNamePart 7 rfl) (by decide) ?_
      exact v_zret X hlk hrt rfl (dk D_Mi_isNamePart 9 rfl) (by rw [if_pos (show isNam b = true from by rw [isNam, show isDig b = true from Decidable.byContradiction (fun e => c11 (if_neg e)), Bool.or_true])]; exact ⟨rfl, rfl⟩)
theorem k_take1 (l : Launch) (q : ev_T) {fu : Nat} {I : Ip} {xs : List Int32} {g : mu_T} (hS : Shp g) (hI : IQ g fu I) (hX : RB g 12 13 32768 xs false) (hxl : xs.length + I.1.length ≤ 32768) : Ctr l q M_In_takeSome 2 [.ref 7, .int 1, .int 1] (0, 0, g) (fun v w => v = some (.int (if tkV I < 0 then 31 else 0)) ∧ sm g w.2.2 [7, 12, 13] ∧ IQ w.2.2 fu (tkI I) ∧ kp g w.2.2 ∧ RB w.2.2 12 13 32768 (xs ++ (if tkV I < 0 then [] else [I.1.getD 0 0])) false) :=
  (k_takeSome l q (n := 1) (kt := true) hS hI hX hxl (by decide)).weak fun v w h => by
    obtain ⟨h1, h2, h3, h4, h5⟩ := h
    by_cases c : tkV I < 0
    · have e : tkL 1 I = (false, I, []) := if_pos c
      rw [e] at h1 h3 h5
      rw [if_pos c, if_pos c, tk_bad (fun z => absurd z (Int32.not_le.mpr c))]
      exact ⟨h1, h2, h3, h4, h5⟩
    · have e : tkL 1 I = (true, tkI I, [I.1.getD 0 0]) := if_neg c
      rw [e] at h1 h3 h5
      rw [if_neg c, if_neg c]
      exact ⟨h1, h2, h3, h4, h5⟩
/-- a name is read: the error, what is left, the bytes -/
def rdN : Nat → Ip → Int32 × Ip × List Int32
  | 0, I => (0, I, [])
  | d + 1, I => if isNam (atL I.1 (nI 0)) = true then (if tkV I < 0 then (31, I, []) else ((rdN d (tkI I)).1, (rdN d (tkI I)).2.1, I.1.getD 0 0 :: (rdN d (tkI I)).2.2)) else (0, I, [])
def rdR : Nat → Ip → Int32 × Ip × List Int32
  | 0, I => (0, I, [])
  | d + 1, I => if I.1 = [] then (0, I, []) else if tkV I < 0 then (31, I, []) else if atL I.1 (nI 0) = 10 then (0, tkI I, [I.1.getD 0 0]) else ((rdR d (tkI I)).1, (rdR d (tkI I)).2.1, I.1.getD 0 0 :: (rdR d (tkI I)).2.2)
theorem tk_len {J : Ip} (h : ¬ tkV J < 0) : (tkI J).1.length + 1 = J.1.length := by
  obtain ⟨y, yu, t1, t2, t3⟩ := tk_yes (Int32.not_lt.mp h)
  rw [t1, t3]; rfl
set_option maxHeartbeats 4000000 in
set_option maxRecDepth 100000 in
theorem k_readName (l : Launch) (q : ev_T) {fu : Nat} {I : Ip} {xs : List Int32} {g : mu_T} (hS : Shp g) (hI : IQ g fu I) (hX : RB g 12 13 32768 xs false) (hxl : xs.length + I.1.length ≤ 32768) : Ctr l q M_In_readName 3 [.ref 7] (0, 0, g) (fun v w => v = some (.int (rdN 32768 I).1) ∧ sm g w.2.2 [7, 12, 13] ∧ IQ w.2.2 fu (rdN 32768 I).2.1 ∧ gI w.2.2 7 3 = 3 ∧ gI w.2.2 7 4 = gI g 7 4 ∧ RB w.2.2 12 13 32768 (xs ++ (rdN 32768 I).2.2) false) := by

  refine Ctr.mk (lb := [some (.ref 7), none, none]) (by decide +kernel) (Nat.le_of_ble_eq_true rfl) rfl rfl ?_
  intro pp ee ss mm aa bb mt cd X hrt hlk hnm
  have bad : ∀ (k : Int32) (u : mu_T) (J : Ip) (zs : List Int32), sm g u [7, 12, 13] → gI u 7 3 = 3 → gI u 7 4 = gI g 7 4 → IQ u fu J → RB u 12 13 32768 zs false → (rdN 32768 I).1 = 31 → (rdN 32768 I).2.1 = J → xs ++ (rdN 32768 I).2.2 = zs → Vv pp l ee (rmT 3 0 0) ss mm aa bb mt cd 3 q (MQ bb (Qw q (fun v w => v = some (.int (rdN 32768 I).1) ∧ sm g w.2.2 [7, 12, 13] ∧ IQ w.2.2 fu (rdN 32768 I).2.1 ∧ gI w.2.2 7 3 = 3 ∧ gI w.2.2 7 4 = gI g 7 4 ∧ RB w.2.2 12 13 32768 (xs ++ (rdN 32768 I).2.2) false)) aa ss 0 0 (fun a => q.1 ≤ a)) 9 [some (.ref 7), some (.int 31), some (.int k)] [] (0, 0, u) := by
    intro k u J zs hs hk3 hk4 hIu hRB e1 e2 e3
    have hSu := hS.sm hs
    refine v_iload_n X (dk D_In_readName 7 rfl) rfl ?_
    refine v_ldc X (dk D_In_readName 8 rfl) C_In_23 ?_
    refine v_icmp_ge (tgt := 43) X (dk D_In_readName 9 rfl) (by decide) (fun c12 => ?_) (fun c12 => ?_)
    · refine v_iload_n X (dk D_In_readName 24 rfl) rfl ?_
      exact v_iret X hlk hrt (dk D_In_readName 25 rfl) (by rw [e1, e2, e3]; exact ⟨rfl, hs, hIu, hk3, hk4, hRB⟩)
    · refine v_iload_n X (dk D_In_readName 10 rfl) rfl ?_
      refine v_if_ne (tgt := 43) X (dk D_In_readName 11 rfl) (by decide) (fun _ => ?_) (fun c16 => absurd c16 (by decide))
      refine v_iload_n X (dk D_In_readName 24 rfl) rfl ?_
      exact v_iret X hlk hrt (dk D_In_readName 25 rfl) (by rw [e1, e2, e3]; exact ⟨rfl, hs, hIu, hk3, hk4, hRB⟩)
  have loop : ∀ (d k : Nat) (u : mu_T) (J : Ip) (zs : List Int32), k + d = 32768 → sm g u [7, 12, 13] → gI u 7 3 = 3 → gI u 7 4 = gI g 7 4 → IQ u fu J → RB u 12 13 32768 zs false → zs.length + J.1.length ≤ 32768 → (rdN 32768 I).1 = (rdN d J).1 → (rdN 32768 I).2.1 = (rdN d J).2.1 → xs ++ (rdN 32768 I).2.2 = zs ++ (rdN d J).2.2 → Vv pp l ee (rmT 3 0 0) ss mm aa bb mt cd 3 q (MQ bb (Qw q (fun v w => v = some (.int (rdN 32768 I).1) ∧ sm g w.2.2 [7, 12, 13] ∧ IQ w.2.2 fu (rdN 32768 I).2.1 ∧ gI w.2.2 7 3 = 3 ∧ gI w.2.2 7 4 = gI g 7 4 ∧ RB w.2.2 12 13 32768 (xs ++ (rdN 32768 I).2.2) false)) aa ss 0 0 (fun a => q.1 ≤ a)) 9 [some (.ref 7), some (.int 0), some (.int (nI k))] [] (0, 0, u) := by
    intro d
    induction d with
    | zero =>
      intro k u J zs hkd hs hk3 hk4 hIu hRB hzl e1 e2 e3
      have hSu := hS.sm hs
      refine v_iload_n X (dk D_In_readName 7 rfl) rfl ?_
      refine v_ldc X (dk D_In_readName 8 rfl) C_In_23 ?_
      refine v_icmp_ge (tgt := 43) X (dk D_In_readName 9 rfl) (by decide) (fun _ => ?_) (fun c12 => absurd (nI_le (a := 32768) (by omega) (by omega)) c12)
      refine v_iload_n X (dk D_In_readName 24 rfl) rfl ?_
      exact v_iret X hlk hrt (dk D_In_readName 25 rfl) (by rw [e1, e2, e3]; refine ⟨rfl, hs, hIu, hk3, hk4, ?_⟩; show RB _ _ _ _ (zs ++ []) _; rw [List.append_nil]; exact hRB)
    | succ d ih =>
      intro k u J zs hkd hs hk3 hk4 hIu hRB hzl e1 e2 e3
      have hSu := hS.sm hs
      refine v_iload_n X (dk D_In_readName 7 rfl) rfl ?_
      refine v_ldc X (dk D_In_readName 8 rfl) C_In_23 ?_
      refine v_icmp_ge (tgt := 43) X (dk D_In_readName 9 rfl) (by decide) (fun c12 => absurd c12 (nI_ge (b := 32768) (by omega) (by decide))) (fun _ => ?_)
      refine v_iload_n X (dk D_In_readName 10 rfl) rfl ?_
      refine v_if_ne (tgt := 43) X (dk D_In_readName 11 rfl) (by decide) (fun c16 => absurd (by decide) c16) (fun _ => ?_)
      refine v_aload_n X (dk D_In_readName 12 rfl) rfl ?_
      refine v_iconst (v := nI 0) X (dk D_In_readName 13 rfl) (by decide) ?_
      refine v_invV (As := [.int (nI 0)]) (st := []) X (k_peek l q (k := 0) hSu hIu (by decide)) (dk D_In_readName 14 rfl) G_In_92 K_In_peek V_In_peek rfl rfl (hSu.lt (by decide)) rfl rfl (Nat.le_of_ble_eq_true rfl) (Nat.le_of_ble_eq_true rfl) (Nat.le_of_ble_eq_true rfl) (Nat.le_of_ble_eq_true rfl) (Nat.le_of_ble_eq_true rfl) ?_
      rintro v w ⟨rfl, hw⟩
      rw [hw]
      show Vv _ _ _ _ _ _ _ _ _ _ _ _ _ _ _ [.int (atL J.1 (nI 0))] (0, 0, u)
      refine v_invS (As := [.int (atL J.1 (nI 0))]) (st := []) X (k_isNamePart l q (b := atL J.1 (nI 0)) (g := u)) (dk D_In_readName 15 rfl) G_In_119 K_Mi_isNamePart S_Mi_isNamePart rfl rfl (Nat.le_of_ble_eq_true rfl) (Nat.le_of_ble_eq_true rfl) (Nat.le_of_ble_eq_true rfl) (Nat.le_of_ble_eq_true rfl) (Nat.le_of_ble_eq_true rfl) ?_
      rintro v w ⟨rfl, hw⟩
      rw [hw]
      show Vv _ _ _ _ _ _ _ _ _ _ _ _ _ _ _ (.int (if isNam (atL J.1 (nI 0)) = true then 1 else 0) :: []) (0, 0, u)
      refine v_if_eq (tgt := 43) X (dk D_In_readName 16 rfl) (by decide) (fun c27 => ?_) (fun c27 => ?_)
      · refine v_iload_n X (dk D_In_readName 24 rfl) rfl ?_
        exact v_iret X hlk hrt (dk D_In_readName 25 rfl) (by rw [e1, e2, e3, show rdN (d + 1) J = (0, J, []) from if_neg (fun e => absurd c27 (by rw [if_pos e]; decide))]; refine ⟨rfl, hs, hIu, hk3, hk4, ?_⟩; show RB _ _ _ _ (zs ++ []) _; rw [List.append_nil]; exact hRB)
      · refine v_aload_n X (dk D_In_readName 17 rfl) rfl ?_
        refine v_iconst (v := 1) X (dk D_In_readName 18 rfl) (by decide) ?_
        refine v_iconst (v := 1) X (dk D_In_readName 19 rfl) (by decide) ?_
        refine v_invV (As := [.int 1, .int 1]) (st := []) X (k_take1 l q hSu hIu hRB hzl) (dk D_In_readName 20 rfl) G_In_115 K_In_takeSome V_In_takeSome rfl rfl (hSu.lt (by decide)) rfl rfl (Nat.le_of_ble_eq_true rfl) (Nat.le_of_ble_eq_true rfl) (Nat.le_of_ble_eq_true rfl) (Nat.le_of_ble_eq_true rfl) (Nat.le_of_ble_eq_true rfl) ?_
        rintro v w ⟨rfl, hw1, hw2, hw3, hw4⟩
        show Vv _ _ _ _ _ _ _ _ _ _ _ _ _ _ _ [.int (if tkV J < 0 then 31 else 0)] (0, 0, w.2.2)
        refine v_istore_n (lb := [some (.ref 7), some (.int (if tkV J < 0 then 31 else 0)), some (.int (nI k))]) X (dk D_In_readName 21 rfl) (by decide) rfl ?_
        refine v_iinc (v := nI (k + 1)) (lb := [some (.ref 7), some (.int (if tkV J < 0 then 31 else 0)), some (.int (nI (k + 1)))]) X (dk D_In_readName 22 rfl) rfl (nI_1 k) (by decide) rfl ?_
        refine v_goto (tgt := 9) X (dk D_In_readName 23 rfl) (by decide) ?_
        have hcn : isNam (atL J.1 (nI 0)) = true := Decidable.byContradiction (fun e => c27 (if_neg e))
        have hs2 := hs.tr hw1 (U := [7, 12, 13]) (fun _ z => z) (fun _ z => z)
        by_cases hc : tkV J < 0
        · have e : rdN (d + 1) J = (31, J, []) := (if_pos hcn).trans (if_pos hc)
          rw [e] at e1 e2 e3
          rw [if_pos hc, List.append_nil] at hw4
          rw [tk_bad (fun z => absurd z (Int32.not_le.mpr hc))] at hw2
          rw [show (if tkV J < 0 then (31 : Int32) else 0) = 31 from if_pos hc]
          exact bad _ _ _ _ hs2 (hw3.1.trans hk3) (hw3.2.trans hk4) hw2 hw4 e1 e2 (by rw [e3, List.append_nil])
        · have e : rdN (d + 1) J = ((rdN d (tkI J)).1, (rdN d (tkI J)).2.1, J.1.getD 0 0 :: (rdN d (tkI J)).2.2) := (if_pos hcn).trans (if_neg hc)
          rw [e] at e1 e2 e3
          have hl := tk_len hc
          rw [if_neg hc] at hw4
          rw [show (if tkV J < 0 then (31 : Int32) else 0) = 0 from if_neg hc]
          exact ih (k + 1) _ _ _ (by omega) hs2 (hw3.1.trans hk3) (hw3.2.trans hk4) hw2 hw4 (by rw [List.length_append]; show zs.length + 1 + _ ≤ _; omega) e1 e2 (by rw [e3, List.append_assoc]; rfl)
  refine v_aload_n X (dk D_In_readName 0 rfl) rfl ?_
  refine v_iconst (v := 3) X (dk D_In_readName 1 rfl) (by decide) ?_
  refine v_putI X (dk D_In_readName 2 rfl) F_In_95 CK_In rfl rfl (hS.lt (by decide)) rfl rfl ?_
  refine v_iconst (v := 0) X (dk D_In_readName 3 rfl) (by decide) ?_
  refine v_istore_n (lb := [some (.ref 7), some (.int 0), none]) X (dk D_In_readName 4 rfl) (by decide) rfl ?_
  refine v_iconst (v := nI 0) X (dk D_In_readName 5 rfl) (by decide) ?_
  refine v_istore_n (lb := [some (.ref 7), some (.int 0), some (.int (nI 0))]) X (dk D_In_readName 6 rfl) (by decide) rfl ?_
  exact loop 32768 0 _ I xs (by decide) ((sm.rf g _).xI (by decide)) (gI_eq _ _ _ _) (gI_nk (by decide)) (hI.kt 3 _ (by decide)) (hX.sm ((sm.rf g [7]).xI (by simp)) (by decide) (by decide)) hxl rfl rfl rfl
end
section
/-! Input: readRemark, dropLine -/
theorem rdR_last {d : Nat} {J : Ip} (hne : ¬ J.1 = []) (h10 : atL J.1 (nI 0) = 10) : rdR (d + 1) J = (if tkV J < 0 then 31 else 0, tkI J, if tkV J < 0 then [] else [J.1.getD 0 0]) := by
  by_cases hc : tkV J < 0
  · rw [if_pos hc, if_pos hc, tk_bad (fun z => absurd z (Int32.not_le.mpr hc))]; exact (if_neg hne).trans (if_pos hc)
  · rw [if_neg hc, if_neg hc]; exact (if_neg hne).trans ((if_neg hc).trans (if_pos h10))
theorem len_0 {u : List Int32} (hl : u.length ≤ 32768) : nI u.length ≤ 0 ↔ u = [] := by
  cases u with
  | nil => exact ⟨fun _ => rfl, fun _ => by decide⟩
  | cons x u => exact ⟨fun h => absurd h (nI_nle (Nat.succ_pos _) (by omega)), fun h => absurd h (List.cons_ne_nil _ _)⟩
def drL : Nat → Ip → Int32 × Ip
  | 0, I => (0, I)
  | d + 1, I => if I.1 = [] then (0, I) else if tkV I < 0 then (31, I) else if tkV I = 10 then (0, tkI I) else drL d (tkI I)
set_option maxHeartbeats 4000000 in
set_option maxRecDepth 100000 in
theorem k_readRemark (l : Launch) (q : ev_T) {fu : Nat} {I : Ip} {xs : List Int32} {g : mu_T} (hS : Shp g) (hI : IQ g fu I) (hX : RB g 12 13 32768 xs false) (hxl : xs.length + I.1.length ≤ 32768) : Ctr l q M_In_readRemark 3 [.ref 7] (0, 0, g) (fun v w => v = some (.int (rdR 32768 I).1) ∧ sm g w.2.2 [7, 12, 13] ∧ IQ w.2.2 fu (rdR 32768 I).2.1 ∧ gI w.2.2 7 3 = 2 ∧ gI w.2.2 7 4 = gI g 7 4 ∧ RB w.2.2 12 13 32768 (xs ++ (rdR 32768 I).2.2) false) := by

  refine Ctr.mk (lb := [some (.ref 7), none, none, none]) (by decide +kernel) (Nat.le_of_ble_eq_true rfl) rfl rfl ?_
  intro pp ee ss mm aa bb mt cd X hrt hlk hnm
  have bad : ∀ (k : Int32) (u : mu_T) (J : Ip) (zs : List Int32), sm g u [7, 12, 13] → gI u 7 3 = 2 → gI u 7 4 = gI g 7 4 → IQ u fu J → RB u 12 13 32768 zs false → (rdR 32768 I).1 = 31 → (rdR 32768 I).2.1 = J → xs ++ (rdR 32768 I).2.2 = zs → Vv pp l ee (rmT 3 0 0) ss mm aa bb mt cd 4 q (MQ bb (Qw q (fun v w => v = some (.int (rdR 32768 I).1) ∧ sm g w.2.2 [7, 12, 13] ∧ IQ w.2.2 fu (rdR 32768 I).2.1 ∧ gI w.2.2 7 3 = 2 ∧ gI w.2.2 7 4 = gI g 7 4 ∧ RB w.2.2 12 13 32768 (xs ++ (rdR 32768 I).2.2) false)) aa ss 0 0 (fun a => q.1 ≤ a)) 9 [some (.ref 7), some (.int 31), some (.int k), none] [] (0, 0, u) := by
    intro k u J zs hs hk3 hk4 hIu hRB e1 e2 e3
    have hSu := hS.sm hs
    refine v_iload_n X (dk D_In_readRemark 7 rfl) rfl ?_
    refine v_ldc X (dk D_In_readRemark 8 rfl) C_In_23 ?_
    refine v_icmp_ge (tgt := 61) X (dk D_In_readRemark 9 rfl) (by decide) (fun c12 => ?_) (fun c12 => ?_)
    · refine v_iload_n X (dk D_In_readRemark 35 rfl) rfl ?_
      exact v_iret X hlk hrt (dk D_In_readRemark 36 rfl) (by rw [e1, e2, e3]; exact ⟨rfl, hs, hIu, hk3, hk4, hRB⟩)
    · refine v_iload_n X (dk D_In_readRemark 10 rfl) rfl ?_
      refine v_if_ne (tgt := 61) X (dk D_In_readRemark 11 rfl) (by decide) (fun _ => ?_) (fun c16 => absurd c16 (by decide))
      refine v_iload_n X (dk D_In_readRemark 35 rfl) rfl ?_
      exact v_iret X hlk hrt (dk D_In_readRemark 36 rfl) (by rw [e1, e2, e3]; exact ⟨rfl, hs, hIu, hk3, hk4, hRB⟩)
  have loop : ∀ (d k : Nat) (u : mu_T) (J : Ip) (zs : List Int32), k + d = 32768 → sm g u [7, 12, 13] → gI u 7 3 = 2 → gI u 7 4 = gI g 7 4 → IQ u fu J → RB u 12 13 32768 zs false → zs.length + J.1.length ≤ 32768 → (rdR 32768 I).1 = (rdR d J).1 → (rdR 32768 I).2.1 = (rdR d J).2.1 → xs ++ (rdR 32768 I).2.2 = zs ++ (rdR d J).2.2 → Vv pp l ee (rmT 3 0 0) ss mm aa bb mt cd 4 q (MQ bb (Qw q (fun v w => v = some (.int (rdR 32768 I).1) ∧ sm g w.2.2 [7, 12, 13] ∧ IQ w.2.2 fu (rdR 32768 I).2.1 ∧ gI w.2.2 7 3 = 2 ∧ gI w.2.2 7 4 = gI g 7 4 ∧ RB w.2.2 12 13 32768 (xs ++ (rdR 32768 I).2.2) false)) aa ss 0 0 (fun a => q.1 ≤ a)) 9 [some (.ref 7), some (.int 0), some (.int (nI k)), none] [] (0, 0, u) := by
    intro d
    induction d with
    | zero =>
      intro k u J zs hkd hs hk3 hk4 hIu hRB hzl e1 e2 e3
      have hSu := hS.sm hs
      refine v_iload_n X (dk D_In_readRemark 7 rfl) rfl ?_
      refine v_ldc X (dk D_In_readRemark 8 rfl) C_In_23 ?_
      refine v_icmp_ge (tgt := 61) X (dk D_In_readRemark 9 rfl) (by decide) (fun _ => ?_) (fun c12 => absurd (nI_le (a := 32768) (by omega) (by omega)) c12)
      refine v_iload_n X (dk D_In_readRemark 35 rfl) rfl ?_
      exact v_iret X hlk hrt (dk D_In_readRemark 36 rfl) (by rw [e1, e2, e3]; refine ⟨rfl, hs, hIu, hk3, hk4, ?_⟩; show RB _ _ _ _ (zs ++ []) _; rw [List.append_nil]; exact hRB)
    | succ d ih =>
      intro k u J zs hkd hs hk3 hk4 hIu hRB hzl e1 e2 e3
      have hSu := hS.sm hs
      refine v_iload_n X (dk D_In_readRemark 7 rfl) rfl ?_
      refine v_ldc X (dk D_In_readRemark 8 rfl) C_In_23 ?_
      refine v_icmp_ge (tgt := 61) X (dk D_In_readRemark 9 rfl) (by decide) (fun c12 => absurd c12 (nI_ge (b := 32768) (by omega) (by decide))) (fun _ => ?_)
      refine v_iload_n X (dk D_In_readRemark 10 rfl) rfl ?_
      refine v_if_ne (tgt := 61) X (dk D_In_readRemark 11 rfl) (by decide) (fun c16 => absurd (by decide) c16) (fun _ => ?_)
      refine v_aload_n X (dk D_In_readRemark 12 rfl) rfl ?_
      refine v_invV (As := []) (st := []) X (k_left l q hSu hIu) (dk D_In_readRemark 13 rfl) G_In_66 K_In_left V_In_left rfl rfl (hSu.lt (by decide)) rfl rfl (Nat.le_of_ble_eq_true rfl) (Nat.le_of_ble_eq_true rfl) (Nat.le_of_ble_eq_true rfl) (Nat.le_of_ble_eq_true rfl) (Nat.le_of_ble_eq_true rfl) ?_
      rintro v w ⟨rfl, hw⟩
      rw [hw]
      show Vv _ _ _ _ _ _ _ _ _ _ _ _ _ _ _ [.int (nI J.1.length)] (0, 0, u)
      refine v_if_le (tgt := 61) X (dk D_In_readRemark 14 rfl) (by decide) (fun c23 => ?_) (fun c23 => ?_)
      · refine v_iload_n X (dk D_In_readRemark 35 rfl) rfl ?_
        exact v_iret X hlk hrt (dk D_In_readRemark 36 rfl) (by rw [e1, e2, e3, show rdR (d + 1) J = (0, J, []) from if_pos ((len_0 hIu.len).mp c23)]; refine ⟨rfl, hs, hIu, hk3, hk4, ?_⟩; show RB _ _ _ _ (zs ++ []) _; rw [List.append_nil]; exact hRB)
      · refine v_aload_n X (dk D_In_readRemark 15 rfl) rfl ?_
        refine v_iconst (v := nI 0) X (dk D_In_readRemark 16 rfl) (by decide) ?_
        refine v_invV (As := [.int (nI 0)]) (st := []) X (k_peek l q (k := 0) hSu hIu (by decide)) (dk D_In_readRemark 17 rfl) G_In_92 K_In_peek V_In_peek rfl rfl (hSu.lt (by decide)) rfl rfl (Nat.le_of_ble_eq_true rfl) (Nat.le_of_ble_eq_true rfl) (Nat.le_of_ble_eq_true rfl) (Nat.le_of_ble_eq_true rfl) (Nat.le_of_ble_eq_true rfl) ?_
        rintro v w ⟨rfl, hw⟩
        rw [hw]
        show Vv _ _ _ _ _ _ _ _ _ _ _ _ _ _ _ [.int (atL J.1 (nI 0))] (0, 0, u)
        refine v_bipush (v := 10) X (dk D_In_readRemark 18 rfl) (by decide) ?_
        refine v_icmp_ne (tgt := 40) X (dk D_In_readRemark 19 rfl) (by decide) (fun c33 => ?_) (fun c33 => ?_)
        · refine v_iconst (v := 0) X (dk D_In_readRemark 22 rfl) (by decide) ?_
          refine v_istore_n (lb := [some (.ref 7), some (.int 0), some (.int (nI k)), some (.int 0)]) X (dk D_In_readRemark 23 rfl) (by decide) rfl ?_
          refine v_aload_n X (dk D_In_readRemark 24 rfl) rfl ?_
          refine v_iconst (v := 1) X (dk D_In_readRemark 25 rfl) (by decide) ?_
          refine v_iconst (v := 1) X (dk D_In_readRemark 26 rfl) (by decide) ?_
          refine v_invV (As := [.int 1, .int 1]) (st := []) X (k_take1 l q hSu hIu hRB hzl) (dk D_In_readRemark 27 rfl) G_In_115 K_In_takeSome V_In_takeSome rfl rfl (hSu.lt (by decide)) rfl rfl (Nat.le_of_ble_eq_true rfl) (Nat.le_of_ble_eq_true rfl) (Nat.le_of_ble_eq_true rfl) (Nat.le_of_ble_eq_true rfl) (Nat.le_of_ble_eq_true rfl) ?_
          rintro v w ⟨rfl, hw1, hw2, hw3, hw4⟩
          show Vv _ _ _ _ _ _ _ _ _ _ _ _ _ _ _ [.int (if tkV J < 0 then 31 else 0)] (0, 0, w.2.2)
          refine v_istore_n (lb := [some (.ref 7), some (.int (if tkV J < 0 then 31 else 0)), some (.int (nI k)), some (.int 0)]) X (dk D_In_readRemark 28 rfl) (by decide) rfl ?_
          refine v_iload_n X (dk D_In_readRemark 29 rfl) rfl ?_
          refine v_if_eq (tgt := 55) X (dk D_In_readRemark 30 rfl) (by decide) (fun c50 => ?_) (fun c50 => ?_)
          · refine v_iinc (v := nI (k + 1)) (lb := [some (.ref 7), some (.int (if tkV J < 0 then 31 else 0)), some (.int (nI (k + 1))), some (.int 0)]) X (dk D_In_readRemark 33 rfl) rfl (nI_1 k) (by decide) rfl ?_
            refine v_goto (tgt := 9) X (dk D_In_readRemark 34 rfl) (by decide) ?_
            have hne : ¬ J.1 = [] := fun z => c23 ((len_0 hIu.len).mpr z)
            have hs2 := hs.tr hw1 (U := [7, 12, 13]) (fun _ z => z) (fun _ z => z)
            by_cases hc : tkV J < 0
            · have e : rdR (d + 1) J = (31, J, []) := (if_neg hne).trans (if_pos hc)
              rw [e] at e1 e2 e3
              rw [if_pos hc, List.append_nil] at hw4
              rw [tk_bad (fun z => absurd z (Int32.not_le.mpr hc))] at hw2
              rw [show (if tkV J < 0 then (31 : Int32) else 0) = 31 from if_pos hc]
              exact v_weak (la := [some (.ref 7), some (.int 31), some (.int (nI (k + 1))), none]) ⟨rfl, rfl, rfl, trivial⟩ (bad _ _ _ _ hs2 (hw3.1.trans hk3) (hw3.2.trans hk4) hw2 hw4 e1 e2 (by rw [e3, List.append_nil]))
            · have e : rdR (d + 1) J = ((rdR d (tkI J)).1, (rdR d (tkI J)).2.1, J.1.getD 0 0 :: (rdR d (tkI J)).2.2) := (if_neg hne).trans ((if_neg hc).trans (if_neg c33))
              rw [e] at e1 e2 e3
              have hl := tk_len hc
              rw [if_neg hc] at hw4
              rw [show (if tkV J < 0 then (31 : Int32) else 0) = 0 from if_neg hc]
              exact v_weak (la := [some (.ref 7), some (.int 0), some (.int (nI (k + 1))), none]) ⟨rfl, rfl, rfl, trivial⟩ (ih (k + 1) _ _ _ (by omega) hs2 (hw3.1.trans hk3) (hw3.2.trans hk4) hw2 hw4 (by rw [List.length_append]; show zs.length + 1 + _ ≤ _; omega) e1 e2 (by rw [e3, List.append_assoc]; rfl))
          · refine v_iload_n X (dk D_In_readRemark 31 rfl) rfl ?_
            exact v_iret X hlk hrt (dk D_In_readRemark 32 rfl) (absurd rfl c50)
        · refine v_iconst (v := 1) X (dk D_In_readRemark 20 rfl) (by decide) ?_
          refine v_goto (tgt := 41) X (dk D_In_readRemark 21 rfl) (by decide) ?_
          refine v_istore_n (lb := [some (.ref 7), some (.int 0), some (.int (nI k)), some (.int 1)]) X (dk D_In_readRemark 23 rfl) (by decide) rfl ?_
          refine v_aload_n X (dk D_In_readRemark 24 rfl) rfl ?_
          refine v_iconst (v := 1) X (dk D_In_readRemark 25 rfl) (by decide) ?_
          refine v_iconst (v := 1) X (dk D_In_readRemark 26 rfl) (by decide) ?_
          refine v_invV (As := [.int 1, .int 1]) (st := []) X (k_take1 l q hSu hIu hRB hzl) (dk D_In_readRemark 27 rfl) G_In_115 K_In_takeSome V_In_takeSome rfl rfl (hSu.lt (by decide)) rfl rfl (Nat.le_of_ble_eq_true rfl) (Nat.le_of_ble_eq_true rfl) (Nat.le_of_ble_eq_true rfl) (Nat.le_of_ble_eq_true rfl) (Nat.le_of_ble_eq_true rfl) ?_
          rintro v w ⟨rfl, hw1, hw2, hw3, hw4⟩
          show Vv _ _ _ _ _ _ _ _ _ _ _ _ _ _ _ [.int (if tkV J < 0 then 31 else 0)] (0, 0, w.2.2)
          refine v_istore_n (lb := [some (.ref 7), some (.int (if tkV J < 0 then 31 else 0)), some (.int (nI k)), some (.int 1)]) X (dk D_In_readRemark 28 rfl) (by decide) rfl ?_
          refine v_iload_n X (dk D_In_readRemark 29 rfl) rfl ?_
          refine v_if_eq (tgt := 55) X (dk D_In_readRemark 30 rfl) (by decide) (fun c50 => ?_) (fun c50 => ?_)
          · refine v_iinc (v := nI (k + 1)) (lb := [some (.ref 7), some (.int (if tkV J < 0 then 31 else 0)), some (.int (nI (k + 1))), some (.int 1)]) X (dk D_In_readRemark 33 rfl) rfl (nI_1 k) (by decide) rfl ?_
            refine v_goto (tgt := 9) X (dk D_In_readRemark 34 rfl) (by decide) ?_
            exact absurd c50 (by decide)
          · refine v_iload_n X (dk D_In_readRemark 31 rfl) rfl ?_
            exact v_iret X hlk hrt (dk D_In_readRemark 32 rfl) (by rw [e1, e2, e3, rdR_last (fun z => c23 ((len_0 hIu.len).mpr z)) c33]; exact ⟨rfl, hs.tr hw1 (fun _ z => z) (fun _ z => z), hw2, hw3.1.trans hk3, hw3.2.trans hk4, hw4⟩)
  refine v_aload_n X (dk D_In_readRemark 0 rfl) rfl ?_
  refine v_iconst (v := 2) X (dk D_In_readRemark 1 rfl) (by decide) ?_
  refine v_putI X (dk D_In_readRemark 2 rfl) F_In_95 CK_In rfl rfl (hS.lt (by decide)) rfl rfl ?_
  refine v_iconst (v := 0) X (dk D_In_readRemark 3 rfl) (by decide) ?_
  refine v_istore_n (lb := [some (.ref 7), some (.int 0), none, none]) X (dk D_In_readRemark 4 rfl) (by decide) rfl ?_
  refine v_iconst (v := nI 0) X (dk D_In_readRemark 5 rfl) (by decide) ?_
  refine v_istore_n (lb := [some (.ref 7), some (.int 0), some (.int (nI 0)), none]) X (dk D_In_readRemark 6 rfl) (by decide) rfl ?_
  exact loop 32768 0 _ I xs (by decide) ((sm.rf g _).xI (by decide)) (gI_eq _ _ _ _) (gI_nk (by decide)) (hI.kt 3 _ (by decide)) (hX.sm ((sm.rf g [7]).xI (by simp)) (by decide) (by decide)) hxl rfl rfl rfl
set_option maxHeartbeats 4000000 in
set_option maxRecDepth 100000 in
theorem k_dropLine (l : Launch) (q : ev_T) {fu : Nat} {I : Ip} {g : mu_T} (hS : Shp g) (hI : IQ g fu I) : Ctr l q M_In_dropLine 2 [.ref 7] (0, 0, g) (fun v w => v = some (.int (drL 32768 I).1) ∧ sm g w.2.2 [7] ∧ IQ w.2.2 fu (drL 32768 I).2 ∧ kp g w.2.2) := by

  refine Ctr.mk (lb := [some (.ref 7), none, none]) (by decide +kernel) (Nat.le_of_ble_eq_true rfl) rfl rfl ?_
  intro pp ee ss mm aa bb mt cd X hrt hlk hnm
  have loop : ∀ (d k : Nat) (u : mu_T) (J : Ip), k + d = 32768 → sm g u [7] → kp g u → IQ u fu J → drL 32768 I = drL d J → Vv pp l ee (rmT 2 0 0) ss mm aa bb mt cd 3 q (MQ bb (Qw q (fun v w => v = some (.int (drL 32768 I).1) ∧ sm g w.2.2 [7] ∧ IQ w.2.2 fu (drL 32768 I).2 ∧ kp g w.2.2)) aa ss 0 0 (fun a => q.1 ≤ a)) 2 [some (.ref 7), some (.int (nI k)), none] [] (0, 0, u) := by
    intro d
    induction d with
    | zero =>
      intro k u J hkd hs hkp hIu e1
      have hSu := hS.sm hs
      refine v_iload_n X (dk D_In_dropLine 2 rfl) rfl ?_
      refine v_ldc X (dk D_In_dropLine 3 rfl) C_In_23 ?_
      refine v_icmp_ge (tgt := 41) X (dk D_In_dropLine 4 rfl) (by decide) (fun _ => ?_) (fun c5 => absurd (nI_le (a := 32768) (by omega) (by omega)) c5)
      refine v_iconst (v := 0) X (dk D_In_dropLine 22 rfl) (by decide) ?_
      exact v_iret X hlk hrt (dk D_In_dropLine 23 rfl) (by rw [e1]; exact ⟨rfl, hs, hIu, hkp⟩)
    | succ d ih =>
      intro k u J hkd hs hkp hIu e1
      have hSu := hS.sm hs
      refine v_iload_n X (dk D_In_dropLine 2 rfl) rfl ?_
      refine v_ldc X (dk D_In_dropLine 3 rfl) C_In_23 ?_
      refine v_icmp_ge (tgt := 41) X (dk D_In_dropLine 4 rfl) (by decide) (fun c5 => absurd c5 (nI_ge (b := 32768) (by omega) (by decide))) (fun _ => ?_)
      refine v_aload_n X (dk D_In_dropLine 5 rfl) rfl ?_
      refine v_invV (As := []) (st := []) X (k_left l q hSu hIu) (dk D_In_dropLine 6 rfl) G_In_66 K_In_left V_In_left rfl rfl (hSu.lt (by decide)) rfl rfl (Nat.le_of_ble_eq_true rfl) (Nat.le_of_ble_eq_true rfl) (Nat.le_of_ble_eq_true rfl) (Nat.le_of_ble_eq_true rfl) (Nat.le_of_ble_eq_true rfl) ?_
      rintro v w ⟨rfl, hw⟩
      rw [hw]
      show Vv _ _ _ _ _ _ _ _ _ _ _ _ _ _ _ [.int (nI J.1.length)] (0, 0, u)
      refine v_if_le (tgt := 41) X (dk D_In_dropLine 7 rfl) (by decide) (fun c12 => ?_) (fun c12 => ?_)
      · refine v_iconst (v := 0) X (dk D_In_dropLine 22 rfl) (by decide) ?_
        exact v_iret X hlk hrt (dk D_In_dropLine 23 rfl) (by rw [e1, show drL (d + 1) J = (0, J) from if_pos ((len_0 hIu.len).mp c12)]; exact ⟨rfl, hs, hIu, hkp⟩)
      · refine v_aload_n X (dk D_In_dropLine 8 rfl) rfl ?_
        refine v_invV (As := []) (st := []) X (k_In_take l q hSu hIu) (dk D_In_dropLine 9 rfl) G_In_83 K_In_take V_In_take rfl rfl (hSu.lt (by decide)) rfl rfl (Nat.le_of_ble_eq_true rfl) (Nat.le_of_ble_eq_true rfl) (Nat.le_of_ble_eq_true rfl) (Nat.le_of_ble_eq_true rfl) (Nat.le_of_ble_eq_true rfl) ?_
        rintro v w ⟨rfl, hw1, hw2, hw3⟩
        show Vv _ _ _ _ _ _ _ _ _ _ _ _ _ _ _ [.int (tkV J)] (0, 0, w.2.2)
        refine v_istore_n (lb := [some (.ref 7), some (.int (nI k)), some (.int (tkV J))]) X (dk D_In_dropLine 10 rfl) (by decide) rfl ?_
        refine v_iload_n X (dk D_In_dropLine 11 rfl) rfl ?_
        refine v_if_ge (tgt := 27) X (dk D_In_dropLine 12 rfl) (by decide) (fun c21 => ?_) (fun c21 => ?_)
        · refine v_iload_n X (dk D_In_dropLine 15 rfl) rfl ?_
          refine v_bipush (v := 10) X (dk D_In_dropLine 16 rfl) (by decide) ?_
          refine v_icmp_ne (tgt := 35) X (dk D_In_dropLine 17 rfl) (by decide) (fun c30 => ?_) (fun c30 => ?_)
          · refine v_iinc (v := nI (k + 1)) (lb := [some (.ref 7), some (.int (nI (k + 1))), some (.int (tkV J))]) X (dk D_In_dropLine 20 rfl) rfl (nI_1 k) (by decide) rfl ?_
            refine v_goto (tgt := 2) X (dk D_In_dropLine 21 rfl) (by decide) ?_
            exact v_weak (la := [some (.ref 7), some (.int (nI (k + 1))), none]) ⟨rfl, rfl, trivial⟩ (ih (k + 1) _ _ (by omega) (hs.tr hw1 (fun _ z => z) (fun _ z => z)) (hkp.tr hw3) hw2 (e1.trans ((if_neg (fun z => c12 ((len_0 hIu.len).mpr z))).trans ((if_neg (fun z => absurd c21 (Int32.not_le.mpr z))).trans (if_neg c30)))))
          · refine v_iconst (v := 0) X (dk D_In_dropLine 18 rfl) (by decide) ?_
            exact v_iret X hlk hrt (dk D_In_dropLine 19 rfl) (by rw [e1, show drL (d + 1) J = (0, tkI J) from (if_neg (fun z => c12 ((len_0 hIu.len).mpr z))).trans ((if_neg (fun z => absurd c21 (Int32.not_le.mpr z))).trans (if_pos c30))]; exact ⟨rfl, hs.tr hw1 (fun _ z => z) (fun _ z => z), hw2, hkp.tr hw3⟩)
        · refine v_bipush (v := 31) X (dk D_In_dropLine 13 rfl) (by decide) ?_
          exact v_iret X hlk hrt (dk D_In_dropLine 14 rfl) (by rw [e1, show drL (d + 1) J = (31, J) from (if_neg (fun z => c12 ((len_0 hIu.len).mpr z))).trans (if_pos (Int32.not_le.mp c21))]; rw [tk_bad c21] at hw2; exact ⟨rfl, hs.tr hw1 (fun _ z => z) (fun _ z => z), hw2, hkp.tr hw3⟩)
  refine v_iconst (v := nI 0) X (dk D_In_dropLine 0 rfl) (by decide) ?_
  refine v_istore_n (lb := [some (.ref 7), some (.int (nI 0)), none]) X (dk D_In_dropLine 1 rfl) (by decide) rfl ?_
  exact loop 32768 0 _ I (by decide) (sm.rf g _) (kp.rf g) hI rfl
end
section
/-! Input: readQuoted -/
def nqM (op cl : List Int32) (I : Ip) : Nat := if bgn I.1 cl = true then cl.length else if bgn I.1 op = true then op.length else 1
def nqN (op cl : List Int32) (n : Nat) (I : Ip) : Nat := if bgn I.1 cl = true then n - 1 else if bgn I.1 op = true then n + 1 else n
def rdQ (op cl : List Int32) : Nat → Nat → Ip → Int32 × Ip × List Int32
  | 0, _, I => (32, I, [])
  | d + 1, n, I => if I.1 = [] then (32, I, []) else if bgn I.1 cl = true ∧ n = 1 then (if (tkL cl.length I).1 = true then 0 else 31, (tkL cl.length I).2.1, [])
    else if (tkL (nqM op cl I) I).1 = true then ((rdQ op cl d (nqN op cl n I) (tkL (nqM op cl I) I).2.1).1, (rdQ op cl d (nqN op cl n I) (tkL (nqM op cl I) I).2.1).2.1, (tkL (nqM op cl I) I).2.2 ++ (rdQ op cl d (nqN op cl n I) (tkL (nqM op cl I) I).2.1).2.2)
    else (31, (tkL (nqM op cl I) I).2.1, (tkL (nqM op cl I) I).2.2)
def rdQ0 (op cl : List Int32) (I : Ip) : Int32 × Ip × List Int32 := if (tkL op.length I).1 = true then rdQ op cl 32768 1 (tkL op.length I).2.1 else (31, (tkL op.length I).2.1, [])
theorem tkL_len : ∀ (m : Nat) (J : Ip), (tkL m J).2.1.1.length + (tkL m J).2.2.length = J.1.length
  | 0, J => rfl
  | m + 1, J => by
    by_cases c : tkV J < 0
    · rw [show tkL (m + 1) J = (false, J, []) from if_pos c]; rfl
    · rw [show tkL (m + 1) J = ((tkL m (tkI J)).1, (tkL m (tkI J)).2.1, J.1.getD 0 0 :: (tkL m (tkI J)).2.2) from if_neg c]
      have h := tkL_len m (tkI J)
      have h2 := tk_len c
      simp only [List.length_cons]
      omega
set_option maxHeartbeats 4000000 in
set_option maxRecDepth 100000 in
theorem k_readQuoted (l : Launch) (q : ev_T) {fu : Nat} {I : Ip} {xs op cl : List Int32} {oo oc : Bool} {g : mu_T} (hS : Shp g) (hI : IQ g fu I) (hX : RB g 12 13 32768 xs false) (hxl : xs.length + I.1.length ≤ 32768) (hO : RB g 8 9 4 op oo) (hC : RB g 10 11 4 cl oc) : Ctr l q M_In_readQuoted 3 [.ref 7] (0, 0, g) (fun v w => v = some (.int (rdQ0 op cl I).1) ∧ sm g w.2.2 [7, 12, 13] ∧ IQ w.2.2 fu (rdQ0 op cl I).2.1 ∧ gI w.2.2 7 3 = 1 ∧ gI w.2.2 7 4 = gI g 7 4 ∧ RB w.2.2 12 13 32768 (xs ++ (rdQ0 op cl I).2.2) false) := by
  have hO4 := hO.2.1
  have hC4 := hC.2.1
  refine Ctr.mk (lb := [some (.ref 7), none, none, none]) (by decide +kernel) (Nat.le_of_ble_eq_true rfl) rfl rfl ?_
  intro pp ee ss mm aa bb mt cd X hrt hlk hnm
  have bad : ∀ (n k : Int32) (u : mu_T) (J : Ip) (zs : List Int32), sm g u [7, 12, 13] → gI u 7 3 = 1 → gI u 7 4 = gI g 7 4 → IQ u fu J → RB u 12 13 32768 zs false → (rdQ0 op cl I).1 = 31 → (rdQ0 op cl I).2.1 = J → xs ++ (rdQ0 op cl I).2.2 = zs → Vv pp l ee (rmT 3 0 0) ss mm aa bb mt cd 4 q (MQ bb (Qw q (fun v w => v = some (.int (rdQ0 op cl I).1) ∧ sm g w.2.2 [7, 12, 13] ∧ IQ w.2.2 fu (rdQ0 op cl I).2.1 ∧ gI w.2.2 7 3 = 1 ∧ gI w.2.2 7 4 = gI g 7 4 ∧ RB w.2.2 12 13 32768 (xs ++ (rdQ0 op cl I).2.2) false)) aa ss 0 0 (fun a => q.1 ≤ a)) 22 [some (.ref 7), some (.int 31), some (.int n), some (.int k)] [] (0, 0, u) := by
    intro n k u J zs hs hk3 hk4 hIu hRB e1 e2 e3
    have hSu := hS.sm hs
    refine v_iload_n X (dk D_In_readQuoted 14 rfl) rfl ?_
    refine v_ldc X (dk D_In_readQuoted 15 rfl) C_In_23 ?_
    refine v_icmp_ge (tgt := 129) X (dk D_In_readQuoted 16 rfl) (by decide) (fun c25 => ?_) (fun c25 => ?_)
    · refine v_iload_n X (dk D_In_readQuoted 66 rfl) rfl ?_
      refine v_if_eq (tgt := 137) X (dk D_In_readQuoted 67 rfl) (by decide) (fun c130 => absurd c130 (by decide)) (fun _ => ?_)
      refine v_iload_n X (dk D_In_readQuoted 68 rfl) rfl ?_
      refine v_goto (tgt := 139) X (dk D_In_readQuoted 69 rfl) (by decide) ?_
      exact v_iret X hlk hrt (dk D_In_readQuoted 71 rfl) (by rw [e1, e2, e3]; exact ⟨rfl, hs, hIu, hk3, hk4, hRB⟩)
    · refine v_iload_n X (dk D_In_readQuoted 17 rfl) rfl ?_
      refine v_if_ne (tgt := 129) X (dk D_In_readQuoted 18 rfl) (by decide) (fun _ => ?_) (fun c29 => absurd c29 (by decide))
      refine v_iload_n X (dk D_In_readQuoted 66 rfl) rfl ?_
      refine v_if_eq (tgt := 137) X (dk D_In_readQuoted 67 rfl) (by decide) (fun c130 => absurd c130 (by decide)) (fun _ => ?_)
      refine v_iload_n X (dk D_In_readQuoted 68 rfl) rfl ?_
      refine v_goto (tgt := 139) X (dk D_In_readQuoted 69 rfl) (by decide) ?_
      exact v_iret X hlk hrt (dk D_In_readQuoted 71 rfl) (by rw [e1, e2, e3]; exact ⟨rfl, hs, hIu, hk3, hk4, hRB⟩)
  have loop : ∀ (d n k : Nat) (u : mu_T) (J : Ip) (zs : List Int32), k + d = 32768 → 1 ≤ n → n ≤ k + 1 → sm g u [7, 12, 13] → gI u 7 3 = 1 → gI u 7 4 = gI g 7 4 → IQ u fu J → RB u 12 13 32768 zs false → zs.length + J.1.length ≤ 32768 → (rdQ0 op cl I).1 = (rdQ op cl d n J).1 → (rdQ0 op cl I).2.1 = (rdQ op cl d n J).2.1 → xs ++ (rdQ0 op cl I).2.2 = zs ++ (rdQ op cl d n J).2.2 → Vv pp l ee (rmT 3 0 0) ss mm aa bb mt cd 4 q (MQ bb (Qw q (fun v w => v = some (.int (rdQ0 op cl I).1) ∧ sm g w.2.2 [7, 12, 13] ∧ IQ w.2.2 fu (rdQ0 op cl I).2.1 ∧ gI w.2.2 7 3 = 1 ∧ gI w.2.2 7 4 = gI g 7 4 ∧ RB w.2.2 12 13 32768 (xs ++ (rdQ0 op cl I).2.2) false)) aa ss 0 0 (fun a => q.1 ≤ a)) 22 [some (.ref 7), some (.int 0), some (.int (nI n)), some (.int (nI k))] [] (0, 0, u) := by
    intro d
    induction d with
    | zero =>
      intro n k u J zs hkd hn0 hnk hs hk3 hk4 hIu hRB hzl e1 e2 e3
      have hSu := hS.sm hs
      have hOu := hO.sm hs (by decide) (by decide)
      have hCu := hC.sm hs (by decide) (by decide)
      have hO4 := hO.2.1
      have hC4 := hC.2.1
      refine v_iload_n X (dk D_In_readQuoted 14 rfl) rfl ?_
      refine v_ldc X (dk D_In_readQuoted 15 rfl) C_In_23 ?_
      refine v_icmp_ge (tgt := 129) X (dk D_In_readQuoted 16 rfl) (by decide) (fun _ => ?_) (fun c25 => absurd (nI_le (a := 32768) (by omega) (by omega)) c25)
      refine v_iload_n X (dk D_In_readQuoted 66 rfl) rfl ?_
      refine v_if_eq (tgt := 137) X (dk D_In_readQuoted 67 rfl) (by decide) (fun _ => ?_) (fun c130 => absurd rfl c130)
      refine v_bipush (v := 32) X (dk D_In_readQuoted 70 rfl) (by decide) ?_
      exact v_iret X hlk hrt (dk D_In_readQuoted 71 rfl) (by rw [e1, e2, e3]; refine ⟨rfl, hs, hIu, hk3, hk4, ?_⟩; show RB _ _ _ _ (zs ++ []) _; rw [List.append_nil]; exact hRB)
    | succ d ih =>
      intro n k u J zs hkd hn0 hnk hs hk3 hk4 hIu hRB hzl e1 e2 e3
      have hSu := hS.sm hs
      have hOu := hO.sm hs (by decide) (by decide)
      have hCu := hC.sm hs (by decide) (by decide)
      have hO4 := hO.2.1
      have hC4 := hC.2.1
      have cont : ¬ J.1 = [] → ∀ (m n2 : Nat) (w : mu_T), nqM op cl J = m → nqN op cl n J = n2 → 1 ≤ n2 → n2 ≤ k + 2 → sm u w [7, 12, 13] → IQ w fu (tkL m J).2.1 → kp u w → RB w 12 13 32768 (zs ++ ktL true (tkL m J).2.2) false → ¬ (bgn J.1 cl = true ∧ n = 1) → Vv pp l ee (rmT 3 0 0) ss mm aa bb mt cd 4 q (MQ bb (Qw q (fun v w => v = some (.int (rdQ0 op cl I).1) ∧ sm g w.2.2 [7, 12, 13] ∧ IQ w.2.2 fu (rdQ0 op cl I).2.1 ∧ gI w.2.2 7 3 = 1 ∧ gI w.2.2 7 4 = gI g 7 4 ∧ RB w.2.2 12 13 32768 (xs ++ (rdQ0 op cl I).2.2) false)) aa ss 0 0 (fun a => q.1 ≤ a)) 123 [some (.ref 7), some (.int (if (tkL m J).1 = true then 0 else 31)), some (.int (nI n2)), some (.int (nI k))] [] (0, 0, w) := by
        intro hne m n2 w hm hn2 b1 b2 y1 y2 y3 y4 y5
        refine v_iinc (v := nI (k + 1)) (lb := [some (.ref 7), some (.int (if (tkL m J).1 = true then 0 else 31)), some (.int (nI n2)), some (.int (nI (k + 1)))]) X (dk D_In_readQuoted 64 rfl) rfl (nI_1 k) (by decide) rfl ?_
        refine v_goto (tgt := 22) X (dk D_In_readQuoted 65 rfl) (by decide) ?_
        have hs2 := hs.tr y1 (U := [7, 12, 13]) (fun _ z => z) (fun _ z => z)
        subst hm
        subst hn2
        replace y4 : RB w 12 13 32768 (zs ++ (tkL (nqM op cl J) J).2.2) false := y4
        by_cases hc : (tkL (nqM op cl J) J).1 = true
        · have e : rdQ op cl (d + 1) n J = ((rdQ op cl d (nqN op cl n J) (tkL (nqM op cl J) J).2.1).1, (rdQ op cl d (nqN op cl n J) (tkL (nqM op cl J) J).2.1).2.1, (tkL (nqM op cl J) J).2.2 ++ (rdQ op cl d (nqN op cl n J) (tkL (nqM op cl J) J).2.1).2.2) := (if_neg hne).trans ((if_neg y5).trans (if_pos hc))
          rw [e] at e1 e2 e3
          rw [show (if (tkL (nqM op cl J) J).1 = true then (0 : Int32) else 31) = 0 from if_pos hc]
          have hl := tkL_len (nqM op cl J) J
          exact ih (nqN op cl n J) (k + 1) _ _ _ (by omega) b1 (by omega) hs2 (y3.1.trans hk3) (y3.2.trans hk4) y2 y4 (by rw [List.length_append]; omega) e1 e2 (by rw [e3, List.append_assoc])
        · have e : rdQ op cl (d + 1) n J = (31, (tkL (nqM op cl J) J).2.1, (tkL (nqM op cl J) J).2.2) := (if_neg hne).trans ((if_neg y5).trans (if_neg hc))
          rw [e] at e1 e2 e3
          rw [show (if (tkL (nqM op cl J) J).1 = true then (0 : Int32) else 31) = 31 from if_neg hc]
          exact bad _ _ _ _ _ hs2 (y3.1.trans hk3) (y3.2.trans hk4) y2 y4 e1 e2 e3
      refine v_iload_n X (dk D_In_readQuoted 14 rfl) rfl ?_
      refine v_ldc X (dk D_In_readQuoted 15 rfl) C_In_23 ?_
      refine v_icmp_ge (tgt := 129) X (dk D_In_readQuoted 16 rfl) (by decide) (fun c25 => absurd c25 (nI_ge (b := 32768) (by omega) (by decide))) (fun _ => ?_)
      refine v_iload_n X (dk D_In_readQuoted 17 rfl) rfl ?_
      refine v_if_ne (tgt := 129) X (dk D_In_readQuoted 18 rfl) (by decide) (fun c29 => absurd (by decide) c29) (fun _ => ?_)
      refine v_aload_n X (dk D_In_readQuoted 19 rfl) rfl ?_
      refine v_invV (As := []) (st := []) X (k_left l q hSu hIu) (dk D_In_readQuoted 20 rfl) G_In_66 K_In_left V_In_left rfl rfl (hSu.lt (by decide)) rfl rfl (Nat.le_of_ble_eq_true rfl) (Nat.le_of_ble_eq_true rfl) (Nat.le_of_ble_eq_true rfl) (Nat.le_of_ble_eq_true rfl) (Nat.le_of_ble_eq_true rfl) ?_
      rintro v w ⟨rfl, hw⟩
      rw [hw]
      show Vv _ _ _ _ _ _ _ _ _ _ _ _ _ _ _ [.int (nI J.1.length)] (0, 0, u)
      refine v_if_le (tgt := 129) X (dk D_In_readQuoted 21 rfl) (by decide) (fun c36 => ?_) (fun c36 => ?_)
      · refine v_iload_n X (dk D_In_readQuoted 66 rfl) rfl ?_
        refine v_if_eq (tgt := 137) X (dk D_In_readQuoted 67 rfl) (by decide) (fun _ => ?_) (fun c130 => absurd rfl c130)
        refine v_bipush (v := 32) X (dk D_In_readQuoted 70 rfl) (by decide) ?_
        exact v_iret X hlk hrt (dk D_In_readQuoted 71 rfl) (by rw [e1, e2, e3, show rdQ op cl (d + 1) n J = (32, J, []) from if_pos ((len_0 hIu.len).mp c36)]; refine ⟨rfl, hs, hIu, hk3, hk4, ?_⟩; show RB _ _ _ _ (zs ++ []) _; rw [List.append_nil]; exact hRB)
      · have hne : ¬ J.1 = [] := fun z => c36 ((len_0 hIu.len).mpr z)
        refine v_aload_n X (dk D_In_readQuoted 22 rfl) rfl ?_
        refine v_aload_n X (dk D_In_readQuoted 23 rfl) rfl ?_
        refine v_getF X (dk D_In_readQuoted 24 rfl) F_In_20 rfl rfl (hSu.lt (by decide)) (hSu.2 7 1) ?_
        refine v_invV (As := [.ref 10]) (st := []) X (k_begins l q hSu hIu hCu) (dk D_In_readQuoted 25 rfl) G_In_98 K_In_begins V_In_begins rfl rfl (hSu.lt (by decide)) rfl rfl (Nat.le_of_ble_eq_true rfl) (Nat.le_of_ble_eq_true rfl) (Nat.le_of_ble_eq_true rfl) (Nat.le_of_ble_eq_true rfl) (Nat.le_of_ble_eq_true rfl) ?_
        rintro v w ⟨rfl, hw⟩
        rw [hw]
        show Vv _ _ _ _ _ _ _ _ _ _ _ _ _ _ _ [.int (if bgn J.1 cl = true then 1 else 0)] (0, 0, u)
        refine v_if_eq (tgt := 86) X (dk D_In_readQuoted 26 rfl) (by decide) (fun c47 => ?_) (fun c47 => ?_)
        · have hcl : ¬ bgn J.1 cl = true := fun e => absurd c47 (by rw [if_pos e]; decide)
          refine v_aload_n X (dk D_In_readQuoted 45 rfl) rfl ?_
          refine v_aload_n X (dk D_In_readQuoted 46 rfl) rfl ?_
          refine v_getF X (dk D_In_readQuoted 47 rfl) F_In_14 rfl rfl (hSu.lt (by decide)) (hSu.2 7 0) ?_
          refine v_invV (As := [.ref 8]) (st := []) X (k_begins l q hSu hIu hOu) (dk D_In_readQuoted 48 rfl) G_In_98 K_In_begins V_In_begins rfl rfl (hSu.lt (by decide)) rfl rfl (Nat.le_of_ble_eq_true rfl) (Nat.le_of_ble_eq_true rfl) (Nat.le_of_ble_eq_true rfl) (Nat.le_of_ble_eq_true rfl) (Nat.le_of_ble_eq_true rfl) ?_
          rintro v w ⟨rfl, hw⟩
          rw [hw]
          show Vv _ _ _ _ _ _ _ _ _ _ _ _ _ _ _ [.int (if bgn J.1 op = true then 1 else 0)] (0, 0, u)
          refine v_if_eq (tgt := 116) X (dk D_In_readQuoted 49 rfl) (by decide) (fun c94 => ?_) (fun c94 => ?_)
          · have hop : ¬ bgn J.1 op = true := fun e => absurd c94 (by rw [if_pos e]; decide)
            refine v_aload_n X (dk D_In_readQuoted 59 rfl) rfl ?_
            refine v_iconst (v := 1) X (dk D_In_readQuoted 60 rfl) (by decide) ?_
            refine v_iconst (v := 1) X (dk D_In_readQuoted 61 rfl) (by decide) ?_
            refine v_invV (As := [.int (nI 1), .int 1]) (st := []) X (k_takeSome l q (n := 1) (kt := true) hSu hIu hRB hzl (by omega)) (dk D_In_readQuoted 62 rfl) G_In_115 K_In_takeSome V_In_takeSome rfl rfl (hSu.lt (by decide)) rfl rfl (Nat.le_of_ble_eq_true rfl) (Nat.le_of_ble_eq_true rfl) (Nat.le_of_ble_eq_true rfl) (Nat.le_of_ble_eq_true rfl) (Nat.le_of_ble_eq_true rfl) ?_
            rintro v w ⟨rfl, hw1, hw2, hw3, hw4⟩
            show Vv _ _ _ _ _ _ _ _ _ _ _ _ _ _ _ [.int (if (tkL 1 J).1 = true then 0 else 31)] (0, 0, w.2.2)
            refine v_istore_n (lb := [some (.ref 7), some (.int (if (tkL 1 J).1 = true then 0 else 31)), some (.int (nI n)), some (.int (nI k))]) X (dk D_In_readQuoted 63 rfl) (by decide) rfl ?_
            exact cont hne 1 n w.2.2 ((if_neg hcl).trans (if_neg hop)) ((if_neg hcl).trans (if_neg hop)) (by omega) (by omega) hw1 hw2 hw3 hw4 (fun z => hcl z.1)
          · have hop : bgn J.1 op = true := Decidable.byContradiction (fun e => c94 (if_neg e))
            refine v_iinc (v := nI (n + 1)) (lb := [some (.ref 7), some (.int 0), some (.int (nI (n + 1))), some (.int (nI k))]) X (dk D_In_readQuoted 50 rfl) rfl (nI_1 n) (by decide) rfl ?_
            refine v_aload_n X (dk D_In_readQuoted 51 rfl) rfl ?_
            refine v_aload_n X (dk D_In_readQuoted 52 rfl) rfl ?_
            refine v_getF X (dk D_In_readQuoted 53 rfl) F_In_14 rfl rfl (hSu.lt (by decide)) (hSu.2 7 0) ?_
            refine v_getI X (dk D_In_readQuoted 54 rfl) F_In_59 rfl rfl (hSu.lt (by decide)) ?_
            rw [hOu.2.2.1]
            refine v_iconst (v := 1) X (dk D_In_readQuoted 55 rfl) (by decide) ?_
            refine v_invV (As := [.int (nI op.length), .int 1]) (st := []) X (k_takeSome l q (n := op.length) (kt := true) hSu hIu hRB hzl (by omega)) (dk D_In_readQuoted 56 rfl) G_In_115 K_In_takeSome V_In_takeSome rfl rfl (hSu.lt (by decide)) rfl rfl (Nat.le_of_ble_eq_true rfl) (Nat.le_of_ble_eq_true rfl) (Nat.le_of_ble_eq_true rfl) (Nat.le_of_ble_eq_true rfl) (Nat.le_of_ble_eq_true rfl) ?_
            rintro v w ⟨rfl, hw1, hw2, hw3, hw4⟩
            show Vv _ _ _ _ _ _ _ _ _ _ _ _ _ _ _ [.int (if (tkL op.length J).1 = true then 0 else 31)] (0, 0, w.2.2)
            refine v_istore_n (lb := [some (.ref 7), some (.int (if (tkL op.length J).1 = true then 0 else 31)), some (.int (nI (n + 1))), some (.int (nI k))]) X (dk D_In_readQuoted 57 rfl) (by decide) rfl ?_
            refine v_goto (tgt := 123) X (dk D_In_readQuoted 58 rfl) (by decide) ?_
            exact cont hne op.length (n + 1) w.2.2 ((if_neg hcl).trans (if_pos hop)) ((if_neg hcl).trans (if_pos hop)) (by omega) (by omega) hw1 hw2 hw3 hw4 (fun z => hcl z.1)
        · have hcl : bgn J.1 cl = true := Decidable.byContradiction (fun e => c47 (if_neg e))
          refine v_iinc (v := nI (n - 1)) (lb := [some (.ref 7), some (.int 0), some (.int (nI (n - 1))), some (.int (nI k))]) X (dk D_In_readQuoted 27 rfl) rfl (sb_m1 (by omega)) (by decide) rfl ?_
          refine v_iload_n X (dk D_In_readQuoted 28 rfl) rfl ?_
          refine v_if_ne (tgt := 70) X (dk D_In_readQuoted 29 rfl) (by decide) (fun c54 => ?_) (fun c54 => ?_)
          · have hn1 : 1 < n := by rcases Nat.lt_or_ge 1 n with y | y; exact y; exact absurd (show nI (n - 1) = 0 from by rw [show n - 1 = 0 by omega]; rfl) c54
            refine v_aload_n X (dk D_In_readQuoted 37 rfl) rfl ?_
            refine v_aload_n X (dk D_In_readQuoted 38 rfl) rfl ?_
            refine v_getF X (dk D_In_readQuoted 39 rfl) F_In_20 rfl rfl (hSu.lt (by decide)) (hSu.2 7 1) ?_
            refine v_getI X (dk D_In_readQuoted 40 rfl) F_In_59 rfl rfl (hSu.lt (by decide)) ?_
            rw [hCu.2.2.1]
            refine v_iconst (v := 1) X (dk D_In_readQuoted 41 rfl) (by decide) ?_
            refine v_invV (As := [.int (nI cl.length), .int 1]) (st := []) X (k_takeSome l q (n := cl.length) (kt := true) hSu hIu hRB hzl (by omega)) (dk D_In_readQuoted 42 rfl) G_In_115 K_In_takeSome V_In_takeSome rfl rfl (hSu.lt (by decide)) rfl rfl (Nat.le_of_ble_eq_true rfl) (Nat.le_of_ble_eq_true rfl) (Nat.le_of_ble_eq_true rfl) (Nat.le_of_ble_eq_true rfl) (Nat.le_of_ble_eq_true rfl) ?_
            rintro v w ⟨rfl, hw1, hw2, hw3, hw4⟩
            show Vv _ _ _ _ _ _ _ _ _ _ _ _ _ _ _ [.int (if (tkL cl.length J).1 = true then 0 else 31)] (0, 0, w.2.2)
            refine v_istore_n (lb := [some (.ref 7), some (.int (if (tkL cl.length J).1 = true then 0 else 31)), some (.int (nI (n - 1))), some (.int (nI k))]) X (dk D_In_readQuoted 43 rfl) (by decide) rfl ?_
            refine v_goto (tgt := 123) X (dk D_In_readQuoted 44 rfl) (by decide) ?_
            exact cont hne cl.length (n - 1) w.2.2 (if_pos hcl) (if_pos hcl) (by omega) (by omega) hw1 hw2 hw3 hw4 (fun z => by have := z.2; omega)
          · have hn1 : n = 1 := by rcases Nat.lt_or_ge 1 n with y | y; exact absurd c54 (nI_ne0 (by omega) (by omega)); omega
            refine v_aload_n X (dk D_In_readQuoted 30 rfl) rfl ?_
            refine v_aload_n X (dk D_In_readQuoted 31 rfl) rfl ?_
            refine v_getF X (dk D_In_readQuoted 32 rfl) F_In_20 rfl rfl (hSu.lt (by decide)) (hSu.2 7 1) ?_
            refine v_getI X (dk D_In_readQuoted 33 rfl) F_In_59 rfl rfl (hSu.lt (by decide)) ?_
            rw [hCu.2.2.1]
            refine v_iconst (v := 0) X (dk D_In_readQuoted 34 rfl) (by decide) ?_
            refine v_invV (As := [.int (nI cl.length), .int 0]) (st := []) X (k_takeSome l q (n := cl.length) (kt := false) hSu hIu hRB hzl (by omega)) (dk D_In_readQuoted 35 rfl) G_In_115 K_In_takeSome V_In_takeSome rfl rfl (hSu.lt (by decide)) rfl rfl (Nat.le_of_ble_eq_true rfl) (Nat.le_of_ble_eq_true rfl) (Nat.le_of_ble_eq_true rfl) (Nat.le_of_ble_eq_true rfl) (Nat.le_of_ble_eq_true rfl) ?_
            rintro v w ⟨rfl, hw1, hw2, hw3, hw4⟩
            show Vv _ _ _ _ _ _ _ _ _ _ _ _ _ _ _ [.int (if (tkL cl.length J).1 = true then 0 else 31)] (0, 0, w.2.2)
            exact v_iret X hlk hrt (dk D_In_readQuoted 36 rfl) (by rw [e1, e2, e3, show rdQ op cl (d + 1) n J = (if (tkL cl.length J).1 = true then 0 else 31, (tkL cl.length J).2.1, []) from (if_neg hne).trans (if_pos ⟨hcl, hn1⟩)]; exact ⟨rfl, hs.tr hw1 (fun _ z => z) (fun _ z => z), hw2, hw3.1.trans hk3, hw3.2.trans hk4, hw4⟩)
  refine v_aload_n X (dk D_In_readQuoted 0 rfl) rfl ?_
  refine v_iconst (v := 1) X (dk D_In_readQuoted 1 rfl) (by decide) ?_
  refine v_putI X (dk D_In_readQuoted 2 rfl) F_In_95 CK_In rfl rfl (hS.lt (by decide)) rfl rfl ?_
  have z1 : sm g (xI g 7 3 1) [7] := (sm.rf g _).xI (by simp)
  have hS1 := hS.sm z1
  refine v_aload_n X (dk D_In_readQuoted 3 rfl) rfl ?_
  refine v_aload_n X (dk D_In_readQuoted 4 rfl) rfl ?_
  refine v_getF X (dk D_In_readQuoted 5 rfl) F_In_14 rfl rfl (hS1.lt (by decide)) (hS1.2 7 0) ?_
  refine v_getI X (dk D_In_readQuoted 6 rfl) F_In_59 rfl rfl (hS1.lt (by decide)) ?_
  rw [z1.I (by decide), hO.2.2.1]
  refine v_iconst (v := 0) X (dk D_In_readQuoted 7 rfl) (by decide) ?_
  refine v_invV (As := [.int (nI op.length), .int 0]) (st := []) X (k_takeSome l q (n := op.length) (kt := false) hS1 (hI.kt 3 _ (by decide)) (hX.sm z1 (by decide) (by decide)) hxl (by omega)) (dk D_In_readQuoted 8 rfl) G_In_115 K_In_takeSome V_In_takeSome rfl rfl (hS1.lt (by decide)) rfl rfl (Nat.le_of_ble_eq_true rfl) (Nat.le_of_ble_eq_true rfl) (Nat.le_of_ble_eq_true rfl) (Nat.le_of_ble_eq_true rfl) (Nat.le_of_ble_eq_true rfl) ?_
  rintro v w ⟨rfl, hw1, hw2, hw3, hw4⟩
  show Vv _ _ _ _ _ _ _ _ _ _ _ _ _ _ _ [.int (if (tkL op.length I).1 = true then 0 else 31)] (0, 0, w.2.2)
  refine v_istore_n (lb := [some (.ref 7), some (.int (if (tkL op.length I).1 = true then 0 else 31)), none, none]) X (dk D_In_readQuoted 9 rfl) (by decide) rfl ?_
  refine v_iconst (v := nI 1) X (dk D_In_readQuoted 10 rfl) (by decide) ?_
  refine v_istore_n (lb := [some (.ref 7), some (.int (if (tkL op.length I).1 = true then 0 else 31)), some (.int (nI 1)), none]) X (dk D_In_readQuoted 11 rfl) (by decide) rfl ?_
  refine v_iconst (v := nI 0) X (dk D_In_readQuoted 12 rfl) (by decide) ?_
  refine v_istore_n (lb := [some (.ref 7), some (.int (if (tkL op.length I).1 = true then 0 else 31)), some (.int (nI 1)), some (.int (nI 0))]) X (dk D_In_readQuoted 13 rfl) (by decide) rfl ?_
  have hs2 : sm g w.2.2 [7, 12, 13] := z1.tr hw1 (by decide) (fun _ z => z)
  have h3 : gI w.2.2 7 3 = 1 := hw3.1.trans (gI_eq _ _ _ _)
  have h4 : gI w.2.2 7 4 = gI g 7 4 := hw3.2.trans (gI_nk (by decide))
  have hl := tkL_len op.length I
  rw [show xs ++ ktL false (tkL op.length I).2.2 = xs from List.append_nil _] at hw4
  by_cases hc : (tkL op.length I).1 = true
  · have e : rdQ0 op cl I = rdQ op cl 32768 1 (tkL op.length I).2.1 := if_pos hc
    rw [show (if (tkL op.length I).1 = true then (0 : Int32) else 31) = 0 from if_pos hc]
    exact loop 32768 1 0 _ _ xs (by decide) (by decide) (by decide) hs2 h3 h4 hw2 hw4 (by omega) (by rw [e]) (by rw [e]) (by rw [e])
  · have e : rdQ0 op cl I = (31, (tkL op.length I).2.1, []) := if_neg hc
    rw [show (if (tkL op.length I).1 = true then (0 : Int32) else 31) = 31 from if_neg hc]
    exact bad _ _ _ _ xs hs2 h3 h4 hw2 hw4 (by rw [e]) (by rw [e]) (by rw [e]; exact List.append_nil _)
end
section
/-! Input: readToken, useFirstQuotes -/
/-- the next token: its kind, the error, what is left, its bytes -/
def rdT (op cl : List Int32) (I : Ip) : Int32 × Int32 × Ip × List Int32 := if I.1 = [] then (0, 0, I, []) else if bgn I.1 op = true then (1, rdQ0 op cl I) else if atL I.1 (nI 0) = 35 then (2, rdR 32768 I) else if isLet (atL I.1 (nI 0)) = true then (3, rdN 32768 I) else (4, if tkV I < 0 then 31 else 0, tkI I, if tkV I < 0 then [] else [I.1.getD 0 0])
theorem at0_neg {u : List Int32} (hl : u.length ≤ 32768) : (0 ≤ atL u (nI 0)) ↔ ¬ u = [] := by
  cases u with
  | nil => rw [atL_out (xs := []) (j := 0) (by decide) (by decide)]; exact ⟨fun h => absurd h (by decide), fun h => absurd rfl h⟩
  | cons x u =>
    rw [atL_nI (Nat.succ_pos _) (by omega)]
    exact ⟨fun _ => List.cons_ne_nil _ _, fun _ => and255_pos _⟩
set_option maxHeartbeats 4000000 in
set_option maxRecDepth 100000 in
theorem k_readToken (l : Launch) (q : ev_T) {fu : Nat} {I : Ip} {xs op cl : List Int32} {ov oo oc : Bool} {g : mu_T} (hS : Shp g) (hI : IQ g fu I) (hX : RB g 12 13 32768 xs ov) (hO : RB g 8 9 4 op oo) (hC : RB g 10 11 4 cl oc) : Ctr l q M_In_readToken 4 [.ref 7] (0, 0, g) (fun v w => v = some (.int (rdT op cl I).2.1) ∧ sm g w.2.2 [7, 12, 13] ∧ IQ w.2.2 fu (rdT op cl I).2.2.1 ∧ gI w.2.2 7 3 = (rdT op cl I).1 ∧ gI w.2.2 7 4 = nI (I.2.2.2 + 1) ∧ RB w.2.2 12 13 32768 (rdT op cl I).2.2.2 false) := by

  refine Ctr.mk (lb := [some (.ref 7), none]) (by decide +kernel) (Nat.le_of_ble_eq_true rfl) rfl rfl ?_
  intro pp ee ss mm aa bb mt cd X hrt hlk hnm
  refine v_aload_n X (dk D_In_readToken 0 rfl) rfl ?_
  refine v_getF X (dk D_In_readToken 1 rfl) F_In_24 rfl rfl (hS.lt (by decide)) (hS.2 7 2) ?_
  refine v_iconst (v := 0) X (dk D_In_readToken 2 rfl) (by decide) ?_
  refine v_invV (As := [.int 0]) (st := []) X (k_cut0 l q hX) (dk D_In_readToken 3 rfl) G_In_53 K_By_cut V_By_cut rfl rfl (hS.lt (by decide)) rfl rfl (Nat.le_of_ble_eq_true rfl) (Nat.le_of_ble_eq_true rfl) (Nat.le_of_ble_eq_true rfl) (Nat.le_of_ble_eq_true rfl) (Nat.le_of_ble_eq_true rfl) ?_
  rintro v w0 ⟨rfl, hc1, hc2⟩
  have hS1 := hS.sm hc1
  have hI1 := hI.sm hc1 (by decide) (by decide) (by decide) (by decide)
  show Vv _ _ _ _ _ _ _ _ _ _ _ _ _ _ _ [] (0, 0, w0.2.2)
  refine v_aload_n X (dk D_In_readToken 4 rfl) rfl ?_
  refine v_aload_n X (dk D_In_readToken 5 rfl) rfl ?_
  refine v_invV (As := []) (st := [.ref 7]) X (k_line l q hS1 hI1) (dk D_In_readToken 6 rfl) G_In_86 K_In_line V_In_line rfl rfl (hS1.lt (by decide)) rfl rfl (Nat.le_of_ble_eq_true rfl) (Nat.le_of_ble_eq_true rfl) (Nat.le_of_ble_eq_true rfl) (Nat.le_of_ble_eq_true rfl) (Nat.le_of_ble_eq_true rfl) ?_
  rintro v w ⟨rfl, hw⟩
  rw [hw]
  show Vv _ _ _ _ _ _ _ _ _ _ _ _ _ _ _ [.int (nI (I.2.2.2 + 1)), .ref 7] (0, 0, w0.2.2)
  refine v_putI X (dk D_In_readToken 7 rfl) F_In_89 CK_In rfl rfl (hS1.lt (by decide)) rfl rfl ?_
  have z2 : sm g (xI w0.2.2 7 4 (nI (I.2.2.2 + 1))) [12, 7] := (hc1.mono (by decide)).xI (by decide)
  have hS2 := hS.sm z2
  have hI2 : IQ (xI w0.2.2 7 4 (nI (I.2.2.2 + 1))) fu I := hI1.kt 4 _ (by decide)
  have hX2 : RB (xI w0.2.2 7 4 (nI (I.2.2.2 + 1))) 12 13 32768 [] false := hc2.sm ((sm.rf _ [7]).xI (by simp)) (by decide) (by decide)
  have hO2 := hO.sm z2 (by decide) (by decide)
  have hC2 := hC.sm z2 (by decide) (by decide)
  have hlen := hI.len
  have hxl2 : ([] : List Int32).length + I.1.length ≤ 32768 := by rw [List.length_nil, Nat.zero_add]; exact hlen
  have h4 : gI (xI w0.2.2 7 4 (nI (I.2.2.2 + 1))) 7 4 = nI (I.2.2.2 + 1) := gI_eq _ _ _ _
  obtain ⟨g2, hg2⟩ : ∃ g2, g2 = (xI w0.2.2 7 4 (nI (I.2.2.2 + 1))) := ⟨_, rfl⟩
  rw [← hg2] at z2 hS2 hI2 hX2 hO2 hC2 h4 ⊢
  refine v_aload_n X (dk D_In_readToken 8 rfl) rfl ?_
  refine v_iconst (v := nI 0) X (dk D_In_readToken 9 rfl) (by decide) ?_
  refine v_invV (As := [.int (nI 0)]) (st := []) X (k_peek l q (k := 0) hS2 hI2 (by decide)) (dk D_In_readToken 10 rfl) G_In_92 K_In_peek V_In_peek rfl rfl (hS2.lt (by decide)) rfl rfl (Nat.le_of_ble_eq_true rfl) (Nat.le_of_ble_eq_true rfl) (Nat.le_of_ble_eq_true rfl) (Nat.le_of_ble_eq_true rfl) (Nat.le_of_ble_eq_true rfl) ?_
  rintro v w ⟨rfl, hw⟩
  rw [hw]
  show Vv _ _ _ _ _ _ _ _ _ _ _ _ _ _ _ [.int (atL I.1 (nI 0))] (0, 0, g2)
  refine v_istore_n (lb := [some (.ref 7), some (.int (atL I.1 (nI 0)))]) X (dk D_In_readToken 11 rfl) (by decide) rfl ?_
  refine v_iload_n X (dk D_In_readToken 12 rfl) rfl ?_
  refine v_if_ge (tgt := 33) X (dk D_In_readToken 13 rfl) (by decide) (fun c23 => ?_) (fun c23 => ?_)
  · refine v_aload_n X (dk D_In_readToken 19 rfl) rfl ?_
    refine v_aload_n X (dk D_In_readToken 20 rfl) rfl ?_
    refine v_getF X (dk D_In_readToken 21 rfl) F_In_14 rfl rfl (hS2.lt (by decide)) (hS2.2 7 0) ?_
    refine v_invV (As := [.ref 8]) (st := []) X (k_begins l q hS2 hI2 hO2) (dk D_In_readToken 22 rfl) G_In_98 K_In_begins V_In_begins rfl rfl (hS2.lt (by decide)) rfl rfl (Nat.le_of_ble_eq_true rfl) (Nat.le_of_ble_eq_true rfl) (Nat.le_of_ble_eq_true rfl) (Nat.le_of_ble_eq_true rfl) (Nat.le_of_ble_eq_true rfl) ?_
    rintro v w ⟨rfl, hw⟩
    rw [hw]
    show Vv _ _ _ _ _ _ _ _ _ _ _ _ _ _ _ [.int (if bgn I.1 op = true then 1 else 0)] (0, 0, g2)
    refine v_if_eq (tgt := 49) X (dk D_In_readToken 23 rfl) (by decide) (fun c41 => ?_) (fun c41 => ?_)
    · refine v_iload_n X (dk D_In_readToken 27 rfl) rfl ?_
      refine v_bipush (v := 35) X (dk D_In_readToken 28 rfl) (by decide) ?_
      refine v_icmp_ne (tgt := 60) X (dk D_In_readToken 29 rfl) (by decide) (fun c52 => ?_) (fun c52 => ?_)
      · refine v_iload_n X (dk D_In_readToken 33 rfl) rfl ?_
        refine v_invS (As := [.int (atL I.1 (nI 0))]) (st := []) X (k_isLetter l q (b := atL I.1 (nI 0)) (g := g2)) (dk D_In_readToken 34 rfl) G_In_108 K_Mi_isLetter S_Mi_isLetter rfl rfl (Nat.le_of_ble_eq_true rfl) (Nat.le_of_ble_eq_true rfl) (Nat.le_of_ble_eq_true rfl) (Nat.le_of_ble_eq_true rfl) (Nat.le_of_ble_eq_true rfl) ?_
        rintro v w ⟨rfl, hw⟩
        rw [hw]
        show Vv _ _ _ _ _ _ _ _ _ _ _ _ _ _ _ [.int (if isLet (atL I.1 (nI 0)) = true then 1 else 0)] (0, 0, g2)
        refine v_if_eq (tgt := 72) X (dk D_In_readToken 35 rfl) (by decide) (fun c64 => ?_) (fun c64 => ?_)
        · refine v_aload_n X (dk D_In_readToken 39 rfl) rfl ?_
          refine v_iconst (v := 4) X (dk D_In_readToken 40 rfl) (by decide) ?_
          refine v_putI X (dk D_In_readToken 41 rfl) F_In_95 CK_In rfl rfl (hS2.lt (by decide)) rfl rfl ?_
          have z3 : sm g2 (xI g2 7 3 4) [7] := (sm.rf g2 _).xI (by simp)
          have hS3 := hS2.sm z3
          have hI3 := hI2.kt 3 4 (by decide)
          have hX3 := hX2.sm z3 (by decide) (by decide)
          refine v_aload_n X (dk D_In_readToken 42 rfl) rfl ?_
          refine v_iconst (v := 1) X (dk D_In_readToken 43 rfl) (by decide) ?_
          refine v_iconst (v := 1) X (dk D_In_readToken 44 rfl) (by decide) ?_
          refine v_invV (As := [.int 1, .int 1]) (st := []) X (k_take1 l q hS3 hI3 hX3 hxl2) (dk D_In_readToken 45 rfl) G_In_115 K_In_takeSome V_In_takeSome rfl rfl (hS3.lt (by decide)) rfl rfl (Nat.le_of_ble_eq_true rfl) (Nat.le_of_ble_eq_true rfl) (Nat.le_of_ble_eq_true rfl) (Nat.le_of_ble_eq_true rfl) (Nat.le_of_ble_eq_true rfl) ?_
          rintro v w ⟨rfl, y1, y2, y3, y5⟩
          show Vv _ _ _ _ _ _ _ _ _ _ _ _ _ _ _ [.int (if tkV I < 0 then 31 else 0)] (0, 0, w.2.2)
          exact v_iret X hlk hrt (dk D_In_readToken 46 rfl) (by rw [show rdT op cl I = (4, if tkV I < 0 then 31 else 0, tkI I, if tkV I < 0 then [] else [I.1.getD 0 0]) from (if_neg ((at0_neg hlen).mp c23)).trans ((if_neg (fun e => absurd c41 (by rw [if_pos e]; decide))).trans ((if_neg c52).trans (if_neg (fun e => absurd c64 (by rw [if_pos e]; decide)))))]; exact ⟨rfl, z2.tr (z3.tr y1 (U := [7, 12, 13]) (by decide) (fun _ z => z)) (by decide) (by decide), y2, y3.1.trans (gI_eq _ _ _ _), y3.2.trans ((gI_nk (by decide)).trans h4), by rw [List.nil_append] at y5; exact y5⟩)
        · refine v_aload_n X (dk D_In_readToken 36 rfl) rfl ?_
          refine v_invV (As := []) (st := []) X (k_readName l q hS2 hI2 hX2 hxl2) (dk D_In_readToken 37 rfl) G_In_112 K_In_readName V_In_readName rfl rfl (hS2.lt (by decide)) rfl rfl (Nat.le_of_ble_eq_true rfl) (Nat.le_of_ble_eq_true rfl) (Nat.le_of_ble_eq_true rfl) (Nat.le_of_ble_eq_true rfl) (Nat.le_of_ble_eq_true rfl) ?_
          rintro v w ⟨rfl, y1, y2, y3, y4, y5⟩
          show Vv _ _ _ _ _ _ _ _ _ _ _ _ _ _ _ [.int (rdN 32768 I).1] (0, 0, w.2.2)
          exact v_iret X hlk hrt (dk D_In_readToken 38 rfl) (by rw [show rdT op cl I = (3, rdN 32768 I) from (if_neg ((at0_neg hlen).mp c23)).trans ((if_neg (fun e => absurd c41 (by rw [if_pos e]; decide))).trans ((if_neg c52).trans (if_pos (Decidable.byContradiction (fun e => c64 (if_neg e))))))]; exact ⟨rfl, z2.tr y1 (by decide) (by decide), y2, y3, y4.trans h4, y5⟩)
      · refine v_aload_n X (dk D_In_readToken 30 rfl) rfl ?_
        refine v_invV (As := []) (st := []) X (k_readRemark l q hS2 hI2 hX2 hxl2) (dk D_In_readToken 31 rfl) G_In_105 K_In_readRemark V_In_readRemark rfl rfl (hS2.lt (by decide)) rfl rfl (Nat.le_of_ble_eq_true rfl) (Nat.le_of_ble_eq_true rfl) (Nat.le_of_ble_eq_true rfl) (Nat.le_of_ble_eq_true rfl) (Nat.le_of_ble_eq_true rfl) ?_
        rintro v w ⟨rfl, y1, y2, y3, y4, y5⟩
        show Vv _ _ _ _ _ _ _ _ _ _ _ _ _ _ _ [.int (rdR 32768 I).1] (0, 0, w.2.2)
        exact v_iret X hlk hrt (dk D_In_readToken 32 rfl) (by rw [show rdT op cl I = (2, rdR 32768 I) from (if_neg ((at0_neg hlen).mp c23)).trans ((if_neg (fun e => absurd c41 (by rw [if_pos e]; decide))).trans (if_pos c52))]; exact ⟨rfl, z2.tr y1 (by decide) (by decide), y2, y3, y4.trans h4, y5⟩)
    · refine v_aload_n X (dk D_In_readToken 24 rfl) rfl ?_
      refine v_invV (As := []) (st := []) X (k_readQuoted l q hS2 hI2 hX2 hxl2 hO2 hC2) (dk D_In_readToken 25 rfl) G_In_102 K_In_readQuoted V_In_readQuoted rfl rfl (hS2.lt (by decide)) rfl rfl (Nat.le_of_ble_eq_true rfl) (Nat.le_of_ble_eq_true rfl) (Nat.le_of_ble_eq_true rfl) (Nat.le_of_ble_eq_true rfl) (Nat.le_of_ble_eq_true rfl) ?_
      rintro v w ⟨rfl, y1, y2, y3, y4, y5⟩
      show Vv _ _ _ _ _ _ _ _ _ _ _ _ _ _ _ [.int (rdQ0 op cl I).1] (0, 0, w.2.2)
      exact v_iret X hlk hrt (dk D_In_readToken 26 rfl) (by rw [show rdT op cl I = (1, rdQ0 op cl I) from (if_neg ((at0_neg hlen).mp c23)).trans (if_pos (Decidable.byContradiction (fun e => c41 (if_neg e))))]; exact ⟨rfl, z2.tr y1 (by decide) (by decide), y2, y3, y4.trans h4, y5⟩)
  · refine v_aload_n X (dk D_In_readToken 14 rfl) rfl ?_
    refine v_iconst (v := 0) X (dk D_In_readToken 15 rfl) (by decide) ?_
    refine v_putI X (dk D_In_readToken 16 rfl) F_In_95 CK_In rfl rfl (hS2.lt (by decide)) rfl rfl ?_
    refine v_iconst (v := 0) X (dk D_In_readToken 17 rfl) (by decide) ?_
    exact v_iret X hlk hrt (dk D_In_readToken 18 rfl) (by rw [show rdT op cl I = (0, 0, I, []) from if_pos (Decidable.byContradiction (fun e => c23 ((at0_neg hlen).mpr e)))]; exact ⟨rfl, (z2.mono (by decide)).xI (by decide), hI2.kt 3 _ (by decide), gI_eq _ _ _ _, (gI_nk (by decide)).trans h4, hX2.sm ((sm.rf _ [7]).xI (by simp)) (by decide) (by decide)⟩)
set_option maxHeartbeats 4000000 in
set_option maxRecDepth 100000 in
theorem k_useFirstQuotes (l : Launch) (q : ev_T) {op cl : List Int32} {oo oc : Bool} {g : mu_T} (hS : Shp g) (hO : RB g 8 9 4 op oo) (hC : RB g 10 11 4 cl oc) : Ctr l q M_In_useFirstQuotes 1 [.ref 7] (0, 0, g) (fun v w => v = none ∧ sm g w.2.2 [8, 9, 10, 11] ∧ RB w.2.2 8 9 4 [96] false ∧ RB w.2.2 10 11 4 [39] false) := by

  refine Ctr.mk (lb := [some (.ref 7)]) (by decide +kernel) (Nat.le_of_ble_eq_true rfl) rfl rfl ?_
  intro pp ee ss mm aa bb mt cd X hrt hlk hnm
  refine v_aload_n X (dk D_In_useFirstQuotes 0 rfl) rfl ?_
  refine v_getF X (dk D_In_useFirstQuotes 1 rfl) F_In_14 rfl rfl (hS.lt (by decide)) (hS.2 7 0) ?_
  refine v_iconst (v := 0) X (dk D_In_useFirstQuotes 2 rfl) (by decide) ?_
  refine v_invV (As := [.int 0]) (st := []) X (k_cut0 l q hO) (dk D_In_useFirstQuotes 3 rfl) G_In_53 K_By_cut V_By_cut rfl rfl (hS.lt (by decide)) rfl rfl (Nat.le_of_ble_eq_true rfl) (Nat.le_of_ble_eq_true rfl) (Nat.le_of_ble_eq_true rfl) (Nat.le_of_ble_eq_true rfl) (Nat.le_of_ble_eq_true rfl) ?_
  rintro v w1 ⟨rfl, a1, b1⟩
  have S1 := hS.sm a1
  show Vv _ _ _ _ _ _ _ _ _ _ _ _ _ _ _ [] (0, 0, w1.2.2)
  refine v_aload_n X (dk D_In_useFirstQuotes 4 rfl) rfl ?_
  refine v_getF X (dk D_In_useFirstQuotes 5 rfl) F_In_14 rfl rfl (S1.lt (by decide)) (S1.2 7 0) ?_
  refine v_bipush (v := 96) X (dk D_In_useFirstQuotes 6 rfl) (by decide) ?_
  refine v_invV (As := [.int 96]) (st := []) X (k_add l q (x := 96) b1) (dk D_In_useFirstQuotes 7 rfl) G_In_56 K_By_add V_By_add rfl rfl (S1.lt (by decide)) rfl rfl (Nat.le_of_ble_eq_true rfl) (Nat.le_of_ble_eq_true rfl) (Nat.le_of_ble_eq_true rfl) (Nat.le_of_ble_eq_true rfl) (Nat.le_of_ble_eq_true rfl) ?_
  rintro v w2 ⟨rfl, a2, b2⟩
  have S2 := S1.sm a2
  show Vv _ _ _ _ _ _ _ _ _ _ _ _ _ _ _ [] (0, 0, w2.2.2)
  refine v_aload_n X (dk D_In_useFirstQuotes 8 rfl) rfl ?_
  refine v_getF X (dk D_In_useFirstQuotes 9 rfl) F_In_20 rfl rfl (S2.lt (by decide)) (S2.2 7 1) ?_
  refine v_iconst (v := 0) X (dk D_In_useFirstQuotes 10 rfl) (by decide) ?_
  refine v_invV (As := [.int 0]) (st := []) X (k_cut0 l q ((hC.sm a1 (by decide) (by decide)).sm a2 (by decide) (by decide))) (dk D_In_useFirstQuotes 11 rfl) G_In_53 K_By_cut V_By_cut rfl rfl (S2.lt (by decide)) rfl rfl (Nat.le_of_ble_eq_true rfl) (Nat.le_of_ble_eq_true rfl) (Nat.le_of_ble_eq_true rfl) (Nat.le_of_ble_eq_true rfl) (Nat.le_of_ble_eq_true rfl) ?_
  rintro v w3 ⟨rfl, a3, b3⟩
  have S3 := S2.sm a3
  show Vv _ _ _ _ _ _ _ _ _ _ _ _ _ _ _ [] (0, 0, w3.2.2)
  refine v_aload_n X (dk D_In_useFirstQuotes 12 rfl) rfl ?_
  refine v_getF X (dk D_In_useFirstQuotes 13 rfl) F_In_20 rfl rfl (S3.lt (by decide)) (S3.2 7 1) ?_
  refine v_bipush (v := 39) X (dk D_In_useFirstQuotes 14 rfl) (by decide) ?_
  refine v_invV (As := [.int 39]) (st := []) X (k_add l q (x := 39) b3) (dk D_In_useFirstQuotes 15 rfl) G_In_56 K_By_add V_By_add rfl rfl (S3.lt (by decide)) rfl rfl (Nat.le_of_ble_eq_true rfl) (Nat.le_of_ble_eq_true rfl) (Nat.le_of_ble_eq_true rfl) (Nat.le_of_ble_eq_true rfl) (Nat.le_of_ble_eq_true rfl) ?_
  rintro v w4 ⟨rfl, a4, b4⟩
  have S4 := S3.sm a4
  show Vv _ _ _ _ _ _ _ _ _ _ _ _ _ _ _ [] (0, 0, w4.2.2)
  exact v_vret X hlk hrt (dk D_In_useFirstQuotes 16 rfl) ⟨rfl, (((a1.mono (by decide)).tr a2 (fun _ z => z) (by decide)).tr a3 (fun _ z => z) (by decide)).tr a4 (fun _ z => z) (by decide), (RB.sm b2 a3 (by decide) (by decide)).sm a4 (by decide) (by decide), b4⟩
end
section
/-! Input: begin, putBack -/
theorem n_In_begin {g : mu_T} {T : List Int32} {ov : Bool} {fu : Nat} (hT : RB g 1 2 32768 T ov) (hb : ∀ x ∈ T, isByte x) (hfu : fu < 2147483647) : sm g (xI (xI (xI (xI (xI (xR g 7 6 (some 1)) 7 10 (nI fu)) 7 5 0) 7 11 0) 7 7 0) 7 9 (nI 32768)) [7] ∧ IQ (xI (xI (xI (xI (xI (xR g 7 6 (some 1)) 7 10 (nI fu)) 7 5 0) 7 11 0) 7 7 0) 7 9 (nI 32768)) fu (T, T.length, fu, 0) := by
  have z : sm g (xI (xI (xI (xI (xI (xR g 7 6 (some 1)) 7 10 (nI fu)) 7 5 0) 7 11 0) 7 7 0) 7 9 (nI 32768)) [7] := ((((((sm.rf g [7]).xR (by simp)).xI (by simp)).xI (by simp)).xI (by simp)).xI (by simp)).xI (by simp)
  refine ⟨z, T, [], 0, ⟨ov, hT.sm z (by decide) (by decide)⟩, ?_, Nat.zero_le _, ?_, by rw [List.drop_zero]; rfl, rfl, gI_eq _ _ _ _, fun j hj => absurd hj (Nat.not_lt_zero _), ?_, hfu, Nat.le_refl _, ?_, ?_, Nat.le_refl _, hT.2.1, hb⟩
  · show gR (xR g 7 6 (some 1)) 7 6 = some 1
    exact gR_eq _ _ _ _
  · rw [gI_nk (by decide), gI_eq]; rfl
  · rw [gI_nk (by decide), gI_nk (by decide), gI_nk (by decide), gI_nk (by decide), gI_eq]
  · rw [gI_nk (by decide), gI_nk (by decide), gI_nk (by decide), gI_eq, Nat.sub_self]; rfl
  · rw [gI_nk (by decide), gI_nk (by decide), gI_eq]; rfl
set_option maxHeartbeats 4000000 in
set_option maxRecDepth 100000 in
theorem k_In_begin (l : Launch) (q : ev_T) {T op cl : List Int32} {ov oo oc : Bool} {fu : Nat} {g : mu_T} (hS : Shp g) (hT : RB g 1 2 32768 T ov) (hb : ∀ x ∈ T, isByte x) (hfu : fu < 2147483647) (hO : RB g 8 9 4 op oo) (hC : RB g 10 11 4 cl oc) : Ctr l q M_In_begin 2 [.ref 7, .ref 1, .int (nI fu)] (0, 0, g) (fun v w => v = none ∧ sm g w.2.2 [7, 8, 9, 10, 11] ∧ IQ w.2.2 fu (T, T.length, fu, 0) ∧ RB w.2.2 8 9 4 [96] false ∧ RB w.2.2 10 11 4 [39] false) := by

  refine Ctr.mk (lb := [some (.ref 7), some (.ref 1), some (.int (nI fu))]) (by decide +kernel) (Nat.le_of_ble_eq_true rfl) rfl rfl ?_
  intro pp ee ss mm aa bb mt cd X hrt hlk hnm
  refine v_aload_n X (dk D_In_begin 0 rfl) rfl ?_
  refine v_aload_n X (dk D_In_begin 1 rfl) rfl ?_
  refine v_putR (r := some 1) X (dk D_In_begin 2 rfl) F_In_27 CK_In rfl rfl (hS.lt (by decide)) ⟨_, rfl⟩ ?_
  refine v_aload_n X (dk D_In_begin 3 rfl) rfl ?_
  refine v_iload_n X (dk D_In_begin 4 rfl) rfl ?_
  refine v_putI X (dk D_In_begin 5 rfl) F_In_38 CK_In rfl rfl (hS.lt (by decide)) rfl rfl ?_
  refine v_aload_n X (dk D_In_begin 6 rfl) rfl ?_
  refine v_iconst (v := 0) X (dk D_In_begin 7 rfl) (by decide) ?_
  refine v_putI X (dk D_In_begin 8 rfl) F_In_41 CK_In rfl rfl (hS.lt (by decide)) rfl rfl ?_
  refine v_aload_n X (dk D_In_begin 9 rfl) rfl ?_
  refine v_iconst (v := 0) X (dk D_In_begin 10 rfl) (by decide) ?_
  refine v_putI X (dk D_In_begin 11 rfl) F_In_44 CK_In rfl rfl (hS.lt (by decide)) rfl rfl ?_
  refine v_aload_n X (dk D_In_begin 12 rfl) rfl ?_
  refine v_iconst (v := 0) X (dk D_In_begin 13 rfl) (by decide) ?_
  refine v_putI X (dk D_In_begin 14 rfl) F_In_47 CK_In rfl rfl (hS.lt (by decide)) rfl rfl ?_
  refine v_aload_n X (dk D_In_begin 15 rfl) rfl ?_
  refine v_aload_n X (dk D_In_begin 16 rfl) rfl ?_
  refine v_getF X (dk D_In_begin 17 rfl) F_In_30 rfl rfl (hS.lt (by decide)) (hS.2 7 8) ?_
  refine v_alen (v := nI _) X (dk D_In_begin 18 rfl) rfl rfl (hS.lt (by decide)) rfl ?_
  refine v_putI X (dk D_In_begin 19 rfl) F_In_34 CK_In rfl rfl (hS.lt (by decide)) rfl rfl ?_
  obtain ⟨z1, z2⟩ := n_In_begin hT hb hfu
  show Vv _ _ _ _ _ _ _ _ _ _ _ _ _ _ _ _ (0, 0, (xI (xI (xI (xI (xI (xR g 7 6 (some 1)) 7 10 (nI fu)) 7 5 0) 7 11 0) 7 7 0) 7 9 (nI 32768)))
  refine v_aload_n X (dk D_In_begin 20 rfl) rfl ?_
  refine v_invV (As := []) (st := []) X (k_useFirstQuotes l q (hS.sm z1) (hO.sm z1 (by decide) (by decide)) (hC.sm z1 (by decide) (by decide))) (dk D_In_begin 21 rfl) G_In_50 K_In_useFirstQuotes V_In_useFirstQuotes rfl rfl ((hS.sm z1).lt (by decide)) rfl rfl (Nat.le_of_ble_eq_true rfl) (Nat.le_of_ble_eq_true rfl) (Nat.le_of_ble_eq_true rfl) (Nat.le_of_ble_eq_true rfl) (Nat.le_of_ble_eq_true rfl) ?_
  rintro v w ⟨rfl, y1, y2, y3⟩
  show Vv _ _ _ _ _ _ _ _ _ _ _ _ _ _ _ [] (0, 0, w.2.2)
  exact v_vret X hlk hrt (dk D_In_begin 22 rfl) ⟨rfl, z1.tr y1 (by decide) (by decide), z2.sm y1 (by decide) (by decide) (by decide) (by decide), y2, y3⟩
theorem n_putBack {g : mu_T} {fu b r0 n0 ta : Nat} {I : Ip} {ys T bk : List Int32} {ov ot : Bool} (hT : RB g 1 2 32768 T ot) (hr : gR g 7 6 = some 1) (ha1 : ta ≤ T.length) (hat : gI g 7 7 = nI ta) (hu : I.1 = bk ++ T.drop ta) (hm : I.2.1 = T.length - ta) (hbk : ∀ j, j < bk.length → gI g 16 (32768 - bk.length + j) = bk.getD j 0) (hfu : gI g 7 10 = nI fu) (hfl : fu < 2147483647) (hff : I.2.2.1 ≤ fu) (htk : gI g 7 5 = nI (fu - I.2.2.1)) (hln : gI g 7 11 = nI I.2.2.2) (hl2 : I.2.2.2 ≤ ta) (hby : ∀ x ∈ I.1, isByte x) (hY : RB g b r0 n0 ys ov) (hr7 : r0 ≠ 7) (hr16 : r0 ≠ 16) (hyb : ∀ x ∈ ys, isByte x) (hl : ys.length + I.1.length ≤ 32768) : sm g (xA (xI g 7 9 (nI (32768 - bk.length - ys.length))) 16 (va_cpy (gI (xI g 7 9 (nI (32768 - bk.length - ys.length))) r0) (gI (xI g 7 9 (nI (32768 - bk.length - ys.length))) 16) 0 (32768 - bk.length - ys.length) ys.length)) [7, 16] ∧ kp g (xA (xI g 7 9 (nI (32768 - bk.length - ys.length))) 16 (va_cpy (gI (xI g 7 9 (nI (32768 - bk.length - ys.length))) r0) (gI (xI g 7 9 (nI (32768 - bk.length - ys.length))) 16) 0 (32768 - bk.length - ys.length) ys.length)) ∧ IQ (xA (xI g 7 9 (nI (32768 - bk.length - ys.length))) 16 (va_cpy (gI (xI g 7 9 (nI (32768 - bk.length - ys.length))) r0) (gI (xI g 7 9 (nI (32768 - bk.length - ys.length))) 16) 0 (32768 - bk.length - ys.length) ys.length)) fu (ys ++ I.1, I.2.1, I.2.2.1, I.2.2.2) := by
  have z : sm g (xA (xI g 7 9 (nI (32768 - bk.length - ys.length))) 16 (va_cpy (gI (xI g 7 9 (nI (32768 - bk.length - ys.length))) r0) (gI (xI g 7 9 (nI (32768 - bk.length - ys.length))) 16) 0 (32768 - bk.length - ys.length) ys.length)) [7, 16] := ((sm.rf g [7, 16]).xI (by simp)).xA (by simp)
  have hul : I.1.length = bk.length + (T.length - ta) := by rw [hu]; simp
  refine ⟨z, ⟨(gI_nA (by decide)).trans (gI_nk (by decide)), (gI_nA (by decide)).trans (gI_nk (by decide))⟩, T, ys ++ bk, ta, ⟨ot, hT.sm z (by decide) (by decide)⟩, hr, ha1, ?_, ?_, hm, ?_, fun j hj => ?_, ?_, hfl, hff, ?_, ?_, hl2, ?_, fun x hx => ?_⟩
  · rw [gI_nA (by decide), gI_nk (by decide)]; exact hat
  · show ys ++ I.1 = ys ++ bk ++ T.drop ta
    rw [hu, List.append_assoc]
  · rw [gI_nA (by decide), gI_eq, List.length_append]; exact congrArg nI (by omega)
  · rw [List.length_append] at hj ⊢
    rw [gI_A]
    simp only [va_cpy]
    rcases Nat.lt_or_ge j ys.length with y | y
    · rw [if_pos (by omega), gI_na hr7]
      rw [show 0 + (32768 - (ys.length + bk.length) + j - (32768 - bk.length - ys.length)) = j by omega, hY.2.2.2.2 j y]
      simp only [List.getD_eq_getElem?_getD]
      rw [List.getElem?_append_left y]
    · rw [if_neg (by omega), gI_na (by decide)]
      rw [show 32768 - (ys.length + bk.length) + j = 32768 - bk.length + (j - ys.length) by omega, hbk (j - ys.length) (by omega)]
      simp only [List.getD_eq_getElem?_getD]
      rw [List.getElem?_append_right y]
  · rw [gI_nA (by decide), gI_nk (by decide)]; exact hfu
  · rw [gI_nA (by decide), gI_nk (by decide)]; exact htk
  · rw [gI_nA (by decide), gI_nk (by decide)]; exact hln
  · show (ys ++ I.1).length ≤ 32768
    rw [List.length_append]; exact hl
  · rcases List.mem_append.mp hx with h | h
    · exact hyb x h
    · exact hby x h
set_option maxHeartbeats 4000000 in
set_option maxRecDepth 100000 in
theorem k_putBack (l : Launch) (q : ev_T) {fu b r0 n0 : Nat} {I : Ip} {ys : List Int32} {ov : Bool} {g : mu_T} (hS : Shp g) (hI : IQ g fu I) (hY : RB g b r0 n0 ys ov) (hn0 : n0 < 1073741824) (hb7 : b ≠ 7) (hr7 : r0 ≠ 7) (hr16 : r0 ≠ 16) (hyb : ∀ x ∈ ys, isByte x) : Ctr l q M_In_putBack 1 [.ref 7, .ref b] (0, 0, g) (fun v w => v = some (.int (if (ov = false ∧ ys.length + I.1.length ≤ 32768) then 1 else 0)) ∧ sm g w.2.2 [7, 16] ∧ kp g w.2.2 ∧ ((ov = false ∧ ys.length + I.1.length ≤ 32768) → IQ w.2.2 fu (ys ++ I.1, I.2.1, I.2.2.1, I.2.2.2)) ∧ (¬ (ov = false ∧ ys.length + I.1.length ≤ 32768) → w.2.2 = g)) := by
  have hI0 := hI
  obtain ⟨T, bk, ta, ⟨ot, hT⟩, hr, ha1, hat, hu, hm, hba, hbk, hfu, hfl, hff, htk, hln, hl2, h3, hby⟩ := hI
  have hul : I.1.length = bk.length + (T.length - ta) := by rw [hu]; simp
  have hyl : ys.length < 1073741824 := Nat.lt_of_le_of_lt hY.2.1 hn0
  have hYF : gF g b 0 = some r0 := hY.1.2.2.1
  have hyn := hY.2.1
  refine Ctr.mk (lb := [some (.ref 7), some (.ref b)]) (by decide +kernel) (Nat.le_of_ble_eq_true rfl) rfl rfl ?_
  intro pp ee ss mm aa bb mt cd X hrt hlk hnm
  refine v_aload_n X (dk D_In_putBack 0 rfl) rfl ?_
  refine v_getI X (dk D_In_putBack 1 rfl) F_In_70 rfl hY.1.1 hY.1.2.1 ?_
  refine v_if_ne (tgt := 32) X (dk D_In_putBack 2 rfl) (by decide) (fun c4 => ?_) (fun c4 => ?_)
  · refine v_iconst (v := 0) X (dk D_In_putBack 15 rfl) (by decide) ?_
    exact v_zret X hlk hrt rfl (dk D_In_putBack 16 rfl) (by have hc : ¬ (ov = false ∧ ys.length + I.1.length ≤ 32768) := (fun e => c4 (by rw [hY.2.2.2.1, e.1]; rfl)); rw [if_neg hc]; exact ⟨rfl, sm.rf _ _, kp.rf _, fun e => absurd e hc, fun _ => rfl⟩)
  · refine v_aload_n X (dk D_In_putBack 3 rfl) rfl ?_
    refine v_getI X (dk D_In_putBack 4 rfl) F_In_59 rfl hY.1.1 hY.1.2.1 ?_
    refine v_ldc X (dk D_In_putBack 5 rfl) C_In_23 ?_
    refine v_aload_n X (dk D_In_putBack 6 rfl) rfl ?_
    rw [hY.2.2.1]
    refine v_invV (As := []) (st := [.int 32768, .int (nI ys.length)]) X (k_left l q hS hI0) (dk D_In_putBack 7 rfl) G_In_66 K_In_left V_In_left rfl rfl (hS.lt (by decide)) rfl rfl (Nat.le_of_ble_eq_true rfl) (Nat.le_of_ble_eq_true rfl) (Nat.le_of_ble_eq_true rfl) (Nat.le_of_ble_eq_true rfl) (Nat.le_of_ble_eq_true rfl) ?_
    rintro v w ⟨rfl, hw⟩
    rw [hw]
    show Vv _ _ _ _ _ _ _ _ _ _ _ _ _ _ _ [.int (nI I.1.length), .int (nI 32768), .int (nI ys.length)] (0, 0, g)
    refine v_isub X (dk D_In_putBack 8 rfl) ?_
    rw [show nI 32768 - nI I.1.length = nI (32768 - I.1.length) from pk_sub (by omega)]
    refine v_icmp_gt (tgt := 32) X (dk D_In_putBack 9 rfl) (by decide) (fun c18 => ?_) (fun c18 => ?_)
    · refine v_iconst (v := 0) X (dk D_In_putBack 15 rfl) (by decide) ?_
      exact v_zret X hlk hrt rfl (dk D_In_putBack 16 rfl) (by have hc : ¬ (ov = false ∧ ys.length + I.1.length ≤ 32768) := (fun e => absurd c18 (nI_nlt (by omega) (by omega))); rw [if_neg hc]; exact ⟨rfl, sm.rf _ _, kp.rf _, fun e => absurd e hc, fun _ => rfl⟩)
    · have hroom : ys.length + I.1.length ≤ 32768 := by rcases Nat.lt_or_ge (32768 - I.1.length) ys.length with y | y; exact absurd (nI_lt y (by omega)) c18; omega
      refine v_aload_n X (dk D_In_putBack 10 rfl) rfl ?_
      refine v_getI X (dk D_In_putBack 11 rfl) F_In_59 rfl hY.1.1 hY.1.2.1 ?_
      refine v_aload_n X (dk D_In_putBack 12 rfl) rfl ?_
      refine v_getI X (dk D_In_putBack 13 rfl) F_In_34 rfl rfl (hS.lt (by decide)) ?_
      refine v_icmp_le (tgt := 34) X (dk D_In_putBack 14 rfl) (by decide) (fun _ => ?_) (fun c29 => absurd (by rw [hY.2.2.1, hba]; exact nI_le (by omega) (by omega)) c29)
      refine v_aload_n X (dk D_In_putBack 17 rfl) rfl ?_
      refine v_dup X (dk D_In_putBack 18 rfl) rfl ?_
      refine v_getI X (dk D_In_putBack 19 rfl) F_In_34 rfl rfl (hS.lt (by decide)) ?_
      refine v_aload_n X (dk D_In_putBack 20 rfl) rfl ?_
      refine v_getI X (dk D_In_putBack 21 rfl) F_In_59 rfl hY.1.1 hY.1.2.1 ?_
      rw [hba, hY.2.2.1]
      refine v_isub X (dk D_In_putBack 22 rfl) ?_
      rw [pk_sub (by omega)]
      refine v_putI X (dk D_In_putBack 23 rfl) F_In_34 CK_In rfl rfl (hS.lt (by decide)) rfl rfl ?_
      refine v_aload_n X (dk D_In_putBack 24 rfl) rfl ?_
      refine v_getF X (dk D_In_putBack 25 rfl) F_In_74 rfl hY.1.1 hY.1.2.1 hYF ?_
      refine v_iconst (v := 0) X (dk D_In_putBack 26 rfl) (by decide) ?_
      refine v_aload_n X (dk D_In_putBack 27 rfl) rfl ?_
      refine v_getF X (dk D_In_putBack 28 rfl) F_In_30 rfl rfl (hS.lt (by decide)) (hS.2 7 8) ?_
      refine v_aload_n X (dk D_In_putBack 29 rfl) rfl ?_
      refine v_getI X (dk D_In_putBack 30 rfl) F_In_34 rfl rfl (hS.lt (by decide)) ?_
      rw [gI_eq]
      refine v_aload_n X (dk D_In_putBack 31 rfl) rfl ?_
      refine v_getI X (dk D_In_putBack 32 rfl) F_In_59 rfl hY.1.1 hY.1.2.1 ?_
      rw [gI_na hb7, hY.2.2.1]
      refine v_copy (t := 0) (ty := .int) X (dk D_In_putBack 33 rfl) G_In_77 W_acN W_acS W_sysI hY.1.2.2.2.1 rfl hY.1.2.2.2.2.1 (hS.lt (by decide)) (by decide) (nI_pos (by omega)) (nI_pos (by omega)) (by rw [nI_clamp (by omega)]; show 0 + ys.length ≤ n0; omega) (by rw [nI_clamp (by omega), nI_clamp (by omega)]; omega) (Nat.le_of_ble_eq_true rfl) (Nat.le_of_ble_eq_true rfl) (Nat.le_of_ble_eq_true rfl) (f := va_cpy (gI (xI g 7 9 (nI (32768 - bk.length - ys.length))) r0) (gI (xI g 7 9 (nI (32768 - bk.length - ys.length))) 16) 0 (32768 - bk.length - ys.length) ys.length) (by rw [nI_clamp (by omega), nI_clamp (by omega)]; rfl) ?_
      refine v_iconst (v := 1) X (dk D_In_putBack 34 rfl) (by decide) ?_
      exact v_zret X hlk hrt rfl (dk D_In_putBack 35 rfl) (by have hc : (ov = false ∧ ys.length + I.1.length ≤ 32768) := ⟨by rw [hY.2.2.2.1] at c4; cases ov; rfl; exact absurd c4 (by decide), hroom⟩; rw [if_pos hc]; have hn := n_putBack hT hr ha1 hat hu hm hbk hfu hfl hff htk hln hl2 hby hY hr7 hr16 hyb hroom; exact ⟨rfl, hn.1, hn.2.1, fun _ => hn.2.2, fun e => absurd hc e⟩)
end
section
/-! Meanings: hashOf, bucketOf, isNamed -/
theorem kdM : ∀ i, i < 317 → kdT (31 + 3 * i) = .inl 8 ∧ kdT (32 + 3 * i) = .inl 4 ∧ kdT (33 + 3 * i) = .inl 4 := by decide +kernel
theorem fRM {i : Nat} (h : i < 317) : fR0 (31 + 3 * i) 0 = some (32 + 3 * i) ∧ fR0 (31 + 3 * i) 1 = some (33 + 3 * i) := by
  have c : 31 ≤ 31 + 3 * i ∧ 31 + 3 * i < 982 ∧ (31 + 3 * i - 31) % 3 = 0 := by omega
  refine ⟨(if_pos c).trans ((if_pos rfl).trans (congrArg some (by omega))), (if_pos c).trans ((if_neg (by decide)).trans ((if_pos rfl).trans (congrArg some (by omega))))⟩
theorem isC_M {g : mu_T} (hS : Shp g) : isC g 26 27 28 16512 := ⟨rfl, hS.lt (by decide), hS.2 26 0, hS.2 26 1, rfl, hS.lt (by decide), rfl, hS.lt (by decide), by decide⟩
def hsh (l : List Int32) : Int32 := l.foldl (fun h x => h * 31 + (x &&& 255)) 0
set_option maxHeartbeats 4000000 in
set_option maxRecDepth 100000 in
theorem k_hashOf (l : Launch) (q : ev_T) {b r0 n0 f n : Nat} {xs : List Int32} {ov : Bool} {g : mu_T} (hY : RB g b r0 n0 xs ov) (hn0 : n0 < 1073741824) (hfn : f + n ≤ xs.length) : Ctr l q M_Ms_hashOf 1 [.ref b, .int (nI f), .int (nI n)] (0, 0, g) (fun v w => v = some (.int (hsh ((xs.drop f).take n))) ∧ w.2.2 = g) := by
  have hyn := hY.2.1
  refine Ctr.mk (lb := [some (.ref b), some (.int (nI f)), some (.int (nI n)), none, none]) (by decide +kernel) (Nat.le_of_ble_eq_true rfl) rfl rfl ?_
  intro pp ee ss mm aa bb mt cd X hrt hlk hnm
  have loop : ∀ (d k : Nat), k + d = n → Vv pp l ee (rmT 1 0 0) ss mm aa bb mt cd 5 q (MQ bb (Qw q (fun v w => v = some (.int (hsh ((xs.drop f).take n))) ∧ w.2.2 = g)) aa ss 0 0 (fun a => q.1 ≤ a)) 5 [some (.ref b), some (.int (nI f)), some (.int (nI n)), some (.int (hsh ((xs.drop f).take k))), some (.int (nI k))] [] (0, 0, g) := by
    intro d
    induction d with
    | zero =>
      intro k hkd
      refine v_iload X (dk D_Ms_hashOf 4 rfl) rfl ?_
      refine v_iload_n X (dk D_Ms_hashOf 5 rfl) rfl ?_
      refine v_icmp_ge (tgt := 31) X (dk D_Ms_hashOf 6 rfl) (by decide) (fun _ => ?_) (fun c8 => absurd (nI_le (by omega) (by omega)) c8)
      refine v_iload_n X (dk D_Ms_hashOf 19 rfl) rfl ?_
      exact v_iret X hlk hrt (dk D_Ms_hashOf 20 rfl) ⟨by rw [show k = n by omega], rfl⟩
    | succ d ih =>
      intro k hkd
      refine v_iload X (dk D_Ms_hashOf 4 rfl) rfl ?_
      refine v_iload_n X (dk D_Ms_hashOf 5 rfl) rfl ?_
      refine v_icmp_ge (tgt := 31) X (dk D_Ms_hashOf 6 rfl) (by decide) (fun c8 => absurd c8 (nI_ge (by omega) (by omega))) (fun _ => ?_)
      refine v_iload_n X (dk D_Ms_hashOf 7 rfl) rfl ?_
      refine v_bipush (v := 31) X (dk D_Ms_hashOf 8 rfl) (by decide) ?_
      refine v_imul X (dk D_Ms_hashOf 9 rfl) ?_
      refine v_aload_n X (dk D_Ms_hashOf 10 rfl) rfl ?_
      refine v_iload_n X (dk D_Ms_hashOf 11 rfl) rfl ?_
      refine v_iload X (dk D_Ms_hashOf 12 rfl) rfl ?_
      refine v_iadd X (dk D_Ms_hashOf 13 rfl) ?_
      rw [nI_add]
      refine v_invV (As := [.int (nI (f + k))]) (st := [.int ((hsh ((xs.drop f).take k)) * 31)]) X (k_at l q hY) (dk D_Ms_hashOf 14 rfl) G_Ms_63 K_By_at V_By_at hY.1.1 rfl hY.1.2.1 rfl rfl (Nat.le_of_ble_eq_true rfl) (Nat.le_of_ble_eq_true rfl) (Nat.le_of_ble_eq_true rfl) (Nat.le_of_ble_eq_true rfl) (Nat.le_of_ble_eq_true rfl) ?_
      rintro v w ⟨rfl, hw⟩
      rw [hw, atL_nI (show f + k < xs.length by omega) (by omega)]
      show Vv _ _ _ _ _ _ _ _ _ _ _ _ _ _ _ [.int (xs.getD (f + k) 0 &&& 255), .int ((hsh ((xs.drop f).take k)) * 31)] (0, 0, g)
      refine v_iadd X (dk D_Ms_hashOf 15 rfl) ?_
      rw [show (hsh ((xs.drop f).take k)) * 31 + (xs.getD (f + k) 0 &&& 255) = (hsh ((xs.drop f).take (k + 1))) from by rw [tk_one _ (show k < (xs.drop f).length by rw [List.length_drop]; omega), hsh, hsh, List.foldl_append]; simp only [List.foldl_cons, List.foldl_nil, List.getD_eq_getElem?_getD, List.getElem?_drop]]
      refine v_istore_n (lb := [some (.ref b), some (.int (nI f)), some (.int (nI n)), some (.int (hsh ((xs.drop f).take (k + 1)))), some (.int (nI k))]) X (dk D_Ms_hashOf 16 rfl) (by decide) rfl ?_
      refine v_iinc (v := nI (k + 1)) (lb := [some (.ref b), some (.int (nI f)), some (.int (nI n)), some (.int (hsh ((xs.drop f).take (k + 1)))), some (.int (nI (k + 1)))]) X (dk D_Ms_hashOf 17 rfl) rfl (nI_1 k) (by decide) rfl ?_
      refine v_goto (tgt := 5) X (dk D_Ms_hashOf 18 rfl) (by decide) ?_
      exact ih (k + 1) (by omega)
  refine v_iconst (v := 0) X (dk D_Ms_hashOf 0 rfl) (by decide) ?_
  refine v_istore_n (lb := [some (.ref b), some (.int (nI f)), some (.int (nI n)), some (.int 0), none]) X (dk D_Ms_hashOf 1 rfl) (by decide) rfl ?_
  refine v_iconst (v := nI 0) X (dk D_Ms_hashOf 2 rfl) (by decide) ?_
  refine v_istore (lb := [some (.ref b), some (.int (nI f)), some (.int (nI n)), some (.int (hsh ((xs.drop f).take 0))), some (.int (nI 0))]) X (dk D_Ms_hashOf 3 rfl) (by decide) rfl ?_
  exact loop n 0 (by omega)
set_option maxHeartbeats 4000000 in
set_option maxRecDepth 100000 in
theorem k_bucketOf (l : Launch) (q : ev_T) {h : Int32} {g : mu_T}  : Ctr l q M_Ms_bucketOf 0 [.int h] (0, 0, g) (fun v w => v = some (.int (h &&& 127)) ∧ w.2.2 = g) := by

  refine Ctr.mk (lb := [some (.int h)]) (by decide +kernel) (Nat.le_of_ble_eq_true rfl) rfl rfl ?_
  intro pp ee ss mm aa bb mt cd X hrt hlk hnm
  refine v_iload_n X (dk D_Ms_bucketOf 0 rfl) rfl ?_
  refine v_bipush (v := 127) X (dk D_Ms_bucketOf 1 rfl) (by decide) ?_
  refine v_iand X (dk D_Ms_bucketOf 2 rfl) ?_
  exact v_iret X hlk hrt (dk D_Ms_bucketOf 3 rfl) ⟨rfl, rfl⟩
theorem b255_eq {x y : Int32} (hx : isByte x) (hy : isByte y) : x &&& 255 = y &&& 255 ↔ x = y := ⟨fun h => by rw [← hx, ← hy, ← and255_b x, ← and255_b y, h], fun h => by rw [h]⟩
theorem l_eq {l m : List Int32} (hl : l.length = m.length) (h : ∀ k, k < l.length → l.getD k 0 = m.getD k 0) : l = m := by
  refine List.ext_getElem hl (fun k h1 h2 => ?_)
  have := h k h1
  rw [List.getD_eq_getElem?_getD, List.getD_eq_getElem?_getD, List.getElem?_eq_getElem h1, List.getElem?_eq_getElem h2] at this
  exact this
set_option maxHeartbeats 4000000 in
set_option maxRecDepth 100000 in
theorem k_isNamed (l : Launch) (q : ev_T) {i : Nat} {ps : List Nat} {b r0 n0 f n : Nat} {xs : List Int32} {ov : Bool} {g : mu_T} (hS : Shp g) (hi : i < 317) (hch : CH g 28 (32 + 3 * i) ps) (hps : ∀ p ∈ ps, p < 16512) (hpl : ps.length ≤ 16512) (hpb : ∀ x ∈ bys g 27 ps, isByte x) (hxb : ∀ x ∈ xs, isByte x) (hY : RB g b r0 n0 xs ov) (hn0 : n0 < 1073741824) (hfn : f + n ≤ xs.length) : Ctr l q M_Ms_isNamed 1 [.ref 25, .ref (31 + 3 * i), .ref b, .int (nI f), .int (nI n)] (0, 0, g) (fun v w => v = some (.int (if bys g 27 ps = (xs.drop f).take n then 1 else 0)) ∧ w.2.2 = g) := by
  have hyn := hY.2.1
  have hbl : (bys g 27 ps).length = ps.length := by rw [bys, List.length_map]
  have htl : ((xs.drop f).take n).length = n := by rw [List.length_take, List.length_drop]; omega
  refine Ctr.mk (lb := [some (.ref 25), some (.ref (31 + 3 * i)), some (.ref b), some (.int (nI f)), some (.int (nI n)), none, none]) (by decide +kernel) (Nat.le_of_ble_eq_true rfl) rfl rfl ?_
  intro pp ee ss mm aa bb mt cd X hrt hlk hnm
  have loop : ps.length = n → ∀ (d k : Nat) (x : Int32), k + d = n → (k < ps.length → x = nI (ps.getD k 0)) → (∀ j, j < k → (bys g 27 ps).getD j 0 = ((xs.drop f).take n).getD j 0) → Vv pp l ee (rmT 1 0 0) ss mm aa bb mt cd 7 q (MQ bb (Qw q (fun v w => v = some (.int (if bys g 27 ps = (xs.drop f).take n then 1 else 0)) ∧ w.2.2 = g)) aa ss 0 0 (fun a => q.1 ≤ a)) 26 [some (.ref 25), some (.ref (31 + 3 * i)), some (.ref b), some (.int (nI f)), some (.int (nI n)), some (.int x), some (.int (nI k))] [] (0, 0, g) := by
    intro hlen d
    induction d with
    | zero =>
      intro k x hkd hxk hal
      refine v_iload X (dk D_Ms_isNamed 13 rfl) rfl ?_
      refine v_iload X (dk D_Ms_isNamed 14 rfl) rfl ?_
      refine v_icmp_ge (tgt := 72) X (dk D_Ms_isNamed 15 rfl) (by decide) (fun _ => ?_) (fun c30 => absurd (nI_le (by omega) (by omega)) c30)
      refine v_iconst (v := 1) X (dk D_Ms_isNamed 35 rfl) (by decide) ?_
      exact v_zret X hlk hrt rfl (dk D_Ms_isNamed 36 rfl) ⟨by rw [if_pos (l_eq (by rw [hbl, htl, hlen]) (fun j hj => hal j (by rw [hbl] at hj; omega)))], rfl⟩
    | succ d ih =>
      intro k x hkd hxk hal
      have hkl : k < ps.length := by omega
      have hx : x = nI (ps.getD k 0) := hxk hkl
      have hpN : ps.getD k 0 < 16512 := hps _ (getD_mem' hkl)
      have hgd : ((xs.drop f).take n).getD k 0 = xs.getD (f + k) 0 := by simp only [List.getD_eq_getElem?_getD]; rw [List.getElem?_take, if_pos (by omega), List.getElem?_drop]
      have hbx : isByte ((bys g 27 ps).getD k 0) := hpb _ (getD_mem (by rw [hbl]; exact hkl))
      have hby : isByte (((xs.drop f).take n).getD k 0) := by rw [hgd]; exact hxb _ (getD_mem (by omega))
      refine v_iload X (dk D_Ms_isNamed 13 rfl) rfl ?_
      refine v_iload X (dk D_Ms_isNamed 14 rfl) rfl ?_
      refine v_icmp_ge (tgt := 72) X (dk D_Ms_isNamed 15 rfl) (by decide) (fun c30 => absurd c30 (nI_ge (by omega) (by omega))) (fun _ => ?_)
      refine v_aload_n X (dk D_Ms_isNamed 16 rfl) rfl ?_
      refine v_getF X (dk D_Ms_isNamed 17 rfl) F_Ms_16 rfl rfl (hS.lt (by decide)) (hS.2 25 0) ?_
      refine v_iload X (dk D_Ms_isNamed 18 rfl) rfl ?_
      refine v_invV (As := [.int x]) (st := []) X (c_Ce_at l q (i := x) (isC_M hS)) (dk D_Ms_isNamed 19 rfl) G_Ms_89 K_Ce_at V_Ce_at rfl rfl (hS.lt (by decide)) rfl rfl (Nat.le_of_ble_eq_true rfl) (Nat.le_of_ble_eq_true rfl) (Nat.le_of_ble_eq_true rfl) (Nat.le_of_ble_eq_true rfl) (Nat.le_of_ble_eq_true rfl) ?_
      rintro v w ⟨rfl, hw⟩
      rw [hw, show (if ¬ x < 0 ∧ ¬ nI 16512 ≤ x then gI g 27 x.toNatClampNeg &&& 255 else -1) = (bys g 27 ps).getD k 0 &&& 255 from by rw [bys_getD hkl, hx, if_pos ⟨nI_pos (by omega), nI_ge hpN (by decide)⟩, nI_clamp (by omega)]]
      show Vv _ _ _ _ _ _ _ _ _ _ _ _ _ _ _ [.int ((bys g 27 ps).getD k 0 &&& 255)] (0, 0, g)
      refine v_aload_n X (dk D_Ms_isNamed 20 rfl) rfl ?_
      refine v_iload_n X (dk D_Ms_isNamed 21 rfl) rfl ?_
      refine v_iload X (dk D_Ms_isNamed 22 rfl) rfl ?_
      refine v_iadd X (dk D_Ms_isNamed 23 rfl) ?_
      rw [nI_add]
      refine v_invV (As := [.int (nI (f + k))]) (st := [.int ((bys g 27 ps).getD k 0 &&& 255)]) X (k_at l q hY) (dk D_Ms_isNamed 24 rfl) G_Ms_63 K_By_at V_By_at hY.1.1 rfl hY.1.2.1 rfl rfl (Nat.le_of_ble_eq_true rfl) (Nat.le_of_ble_eq_true rfl) (Nat.le_of_ble_eq_true rfl) (Nat.le_of_ble_eq_true rfl) (Nat.le_of_ble_eq_true rfl) ?_
      rintro v w ⟨rfl, hw⟩
      rw [hw, atL_nI (show f + k < xs.length by omega) (by omega), ← hgd]
      show Vv _ _ _ _ _ _ _ _ _ _ _ _ _ _ _ [.int (((xs.drop f).take n).getD k 0 &&& 255), .int ((bys g 27 ps).getD k 0 &&& 255)] (0, 0, g)
      refine v_icmp_eq (tgt := 55) X (dk D_Ms_isNamed 25 rfl) (by decide) (fun c50 => ?_) (fun c50 => ?_)
      · refine v_aload_n X (dk D_Ms_isNamed 28 rfl) rfl ?_
        refine v_getF X (dk D_Ms_isNamed 29 rfl) F_Ms_16 rfl rfl (hS.lt (by decide)) (hS.2 25 0) ?_
        refine v_iload X (dk D_Ms_isNamed 30 rfl) rfl ?_
        refine v_invV (As := [.int x]) (st := []) X (c_Ce_behind l q (i := x) (isC_M hS)) (dk D_Ms_isNamed 31 rfl) G_Ms_90 K_Ce_behind V_Ce_behind rfl rfl (hS.lt (by decide)) rfl rfl (Nat.le_of_ble_eq_true rfl) (Nat.le_of_ble_eq_true rfl) (Nat.le_of_ble_eq_true rfl) (Nat.le_of_ble_eq_true rfl) (Nat.le_of_ble_eq_true rfl) ?_
        rintro v w3 ⟨rfl, hw⟩
        rw [hw, show (if ¬ x < 0 ∧ ¬ nI 16512 ≤ x then gI g 28 x.toNatClampNeg else -1) = gI g 28 (ps.getD k 0) from by rw [hx, if_pos ⟨nI_pos (by omega), nI_ge hpN (by decide)⟩, nI_clamp (by omega)]]
        show Vv _ _ _ _ _ _ _ _ _ _ _ _ _ _ _ [.int (gI g 28 (ps.getD k 0))] (0, 0, g)
        refine v_istore (lb := [some (.ref 25), some (.ref (31 + 3 * i)), some (.ref b), some (.int (nI f)), some (.int (nI n)), some (.int (gI g 28 (ps.getD k 0))), some (.int (nI k))]) X (dk D_Ms_isNamed 32 rfl) (by decide) rfl ?_
        refine v_iinc (v := nI (k + 1)) (lb := [some (.ref 25), some (.ref (31 + 3 * i)), some (.ref b), some (.int (nI f)), some (.int (nI n)), some (.int (gI g 28 (ps.getD k 0))), some (.int (nI (k + 1)))]) X (dk D_Ms_isNamed 33 rfl) rfl (nI_1 k) (by decide) rfl ?_
        refine v_goto (tgt := 26) X (dk D_Ms_isNamed 34 rfl) (by decide) ?_
        exact ih (k + 1) _ (by omega) (fun hk1 => hch.at.2 k hk1) (fun j hj => if e : j = k then by rw [e]; exact (b255_eq hbx hby).mp c50 else hal j (by omega))
      · refine v_iconst (v := 0) X (dk D_Ms_isNamed 26 rfl) (by decide) ?_
        exact v_zret X hlk hrt rfl (dk D_Ms_isNamed 27 rfl) ⟨by rw [if_neg (fun e => c50 (by rw [e]))], rfl⟩
  refine v_aload_n X (dk D_Ms_isNamed 0 rfl) rfl ?_
  refine v_getF X (dk D_Ms_isNamed 1 rfl) F_Ms_48 rfl (kdM i hi).1 (hS.lt (by omega)) ((hS.2 _ 0).trans (fRM hi).1) ?_
  refine v_getI X (dk D_Ms_isNamed 2 rfl) F_Ms_83 rfl (kdM i hi).2.1 (hS.lt (by omega)) ?_
  refine v_iload X (dk D_Ms_isNamed 3 rfl) rfl ?_
  refine v_icmp_eq (tgt := 14) X (dk D_Ms_isNamed 4 rfl) (by decide) (fun c9 => ?_) (fun c9 => ?_)
  · refine v_aload_n X (dk D_Ms_isNamed 7 rfl) rfl ?_
    refine v_getF X (dk D_Ms_isNamed 8 rfl) F_Ms_48 rfl (kdM i hi).1 (hS.lt (by omega)) ((hS.2 _ 0).trans (fRM hi).1) ?_
    refine v_getI X (dk D_Ms_isNamed 9 rfl) F_Ms_86 rfl (kdM i hi).2.1 (hS.lt (by omega)) ?_
    refine v_istore (lb := [some (.ref 25), some (.ref (31 + 3 * i)), some (.ref b), some (.int (nI f)), some (.int (nI n)), some (.int (gI g (32 + 3 * i) 0)), none]) X (dk D_Ms_isNamed 10 rfl) (by decide) rfl ?_
    refine v_iconst (v := nI 0) X (dk D_Ms_isNamed 11 rfl) (by decide) ?_
    refine v_istore (lb := [some (.ref 25), some (.ref (31 + 3 * i)), some (.ref b), some (.int (nI f)), some (.int (nI n)), some (.int (gI g (32 + 3 * i) 0)), some (.int (nI 0))]) X (dk D_Ms_isNamed 12 rfl) (by decide) rfl ?_
    exact loop ((nI_eq (by omega) (by omega)).mp (by rw [← hch.2.1]; exact c9)) n 0 _ (by omega) (fun h0 => hch.at.1 h0) (fun j hj => absurd hj (Nat.not_lt_zero _))
  · refine v_iconst (v := 0) X (dk D_Ms_isNamed 5 rfl) (by decide) ?_
    exact v_zret X hlk hrt rfl (dk D_Ms_isNamed 6 rfl) ⟨by rw [if_neg (fun e => c9 (by rw [hch.2.1, show ps.length = n from by rw [← hbl, e, htl]]))], rfl⟩
end
section
/-! rows with null; Meanings: find -/
section VNL
variable {p : Program} {l : Launch} {e : Env} {R : Room} {s : State} {m : MethodId} {args : Array Value} {below : List Frame} {meth : Method} {c : Code} {nL : Nat} {q : ev_T} {Qf : State → Prop} {pc : Nat} {la : List (Option Value)} {st : List Value} {u : mm_T} {cc : ByteArray} {own : String}
theorem v_aloadN (X : Cx p s m args c cc nL own q) {i : Nat} (hd : decode cc pc = .ok (.aload i, 2)) (hl : la[i]? = some (some .null)) (k : Vv p l e R s m args below meth c nL q Qf (pc + 2) la (.null :: st) u) : Vv p l e R s m args below meth c nL q Qf pc la st u :=
  fun ls H locs cells slots h1 h2 h3 h4 h5 => lv_aloadN X.1 X.2.1 hd (h1.2.2.2 i _ hl) (k ls H locs cells slots h1 h2 h3 h4 h5)
theorem v_astoreN (X : Cx p s m args c cc nL own q) {i : Nat} {lb : List (Option Value)} (hd : decode cc pc = .ok (.astore i, 2)) (hn : i < nL) (hs : st1 la i .null = lb) (k : Vv p l e R s m args below meth c nL q Qf (pc + 2) lb st u) : Vv p l e R s m args below meth c nL q Qf pc la (.null :: st) u :=
  fun ls H locs cells slots h1 h2 h3 h4 h5 => lv_astoreN X.1 X.2.1 hd (lh_all_has h1) hn rfl (fun ls' hl' => k ls' H locs cells slots (hs ▸ lh_st1 h1 hl') h2 h3 h4 h5)
theorem v_astoreR (X : Cx p s m args c cc nL own q) {i : Nat} {r : Option Nat} {lb : List (Option Value)} (hd : decode cc pc = .ok (.astore i, 2)) (hn : i < nL) (hs : st1 la i (va_rf r) = lb) (k : Vv p l e R s m args below meth c nL q Qf (pc + 2) lb st u) : Vv p l e R s m args below meth c nL q Qf pc la (va_rf r :: st) u := by
  cases r with
  | none => exact v_astoreN X hd hn hs k
  | some a => exact v_astore X hd hn hs k
end VNL
theorem and127 (h : Int32) : ∃ n, n < 128 ∧ h &&& 127 = nI n := by
  refine ⟨(h.toBitVec &&& 127#32).toNat, ?_, ?_⟩
  · rw [BitVec.toNat_and]
    have : h.toBitVec.toNat &&& (127#32).toNat ≤ (127#32).toNat := Nat.and_le_right
    have e : (127#32).toNat = 127 := rfl
    omega
  · apply Int32.toBitVec_inj.mp
    show h.toBitVec &&& 127#32 = BitVec.ofNat 32 (h.toBitVec &&& 127#32).toNat
    rw [BitVec.ofNat_toNat, BitVec.setWidth_eq]
/-- a list of meanings, by their numbers, from the reference r on -/
def rlk (nx : Nat → Option Nat) : List Nat → Option Nat → Prop
  | [], r => r = none
  | i :: is, r => r = some (31 + 3 * i) ∧ rlk nx is (nx (31 + 3 * i))
/-- meaning i has its name in its chain ps, and the hash of it -/
def MN (g : mu_T) (i : Nat) (ps : List Nat) : Prop := i < 317 ∧ CH g 28 (32 + 3 * i) ps ∧ (∀ p ∈ ps, p < 16512) ∧ ps.length ≤ 16512 ∧ (∀ x ∈ bys g 27 ps, isByte x) ∧ gI g (31 + 3 * i) 3 = hsh (bys g 27 ps)
set_option maxHeartbeats 4000000 in
set_option maxRecDepth 100000 in
theorem k_find (l : Launch) (q : ev_T) {ch : Nat → List Nat} {L : List Nat} {k : Nat} {b r0 n0 f n : Nat} {xs : List Int32} {ov : Bool} {g : mu_T} (hS : Shp g) (hY : RB g b r0 n0 xs ov) (hn0 : n0 < 1073741824) (hfn : f + n ≤ xs.length) (hxb : ∀ x ∈ xs, isByte x) (hk1 : k < 128) (hk2 : (hsh ((xs.drop f).take n)) &&& 127 = nI k) (hL : ∀ i ∈ L, MN g i (ch i)) (hlk2 : rlk (fun a => gR g a 4) L (gR g 29 k)) : Ctr l q M_Ms_find 2 [.ref 25, .ref b, .int (nI f), .int (nI n)] (0, 0, g) (fun v w => v = some (va_rf ((L.find? (fun i => decide (bys g 27 (ch i) = (xs.drop f).take n))).map (fun i => 31 + 3 * i))) ∧ w.2.2 = g) := by

  refine Ctr.mk (lb := [some (.ref 25), some (.ref b), some (.int (nI f)), some (.int (nI n)), none, none]) (by decide +kernel) (Nat.le_of_ble_eq_true rfl) rfl rfl ?_
  intro pp ee ss mm aa bb mt cd X hrt hlk hnm
  have loop : ∀ (is : List Nat) (r : Option Nat), (∀ i ∈ is, MN g i (ch i)) → rlk (fun a => gR g a 4) is r → L.find? (fun i => decide (bys g 27 (ch i) = (xs.drop f).take n)) = is.find? (fun i => decide (bys g 27 (ch i) = (xs.drop f).take n)) → Vv pp l ee (rmT 2 0 0) ss mm aa bb mt cd 6 q (MQ bb (Qw q (fun v w => v = some (va_rf ((L.find? (fun i => decide (bys g 27 (ch i) = (xs.drop f).take n))).map (fun i => 31 + 3 * i))) ∧ w.2.2 = g)) aa ss 0 0 (fun a => q.1 ≤ a)) 20 [some (.ref 25), some (.ref b), some (.int (nI f)), some (.int (nI n)), some (.int (hsh ((xs.drop f).take n))), some (va_rf r)] [] (0, 0, g) := by
    intro is
    induction is with
    | nil =>
      intro r hg hr hfd
      obtain rfl : r = none := hr
      refine v_aloadN X (dk D_Ms_find 11 rfl) rfl ?_
      refine v_ifnullN (tgt := 60) X (dk D_Ms_find 12 rfl) (by decide) ?_
      refine v_null X (dk D_Ms_find 30 rfl) ?_
      exact v_aret (r := none) X hlk hrt (Or.inl ⟨_, rfl⟩) (dk D_Ms_find 31 rfl) ⟨by rw [hfd]; rfl, rfl⟩
    | cons i is ih =>
      intro r hg hr hfd
      obtain rfl : r = some (31 + 3 * i) := hr.1
      have hM := hg i (List.mem_cons_self ..)
      refine v_aload X (dk D_Ms_find 11 rfl) rfl ?_
      refine v_ifnull X (dk D_Ms_find 12 rfl) ?_
      refine v_aload X (dk D_Ms_find 13 rfl) rfl ?_
      refine v_getI X (dk D_Ms_find 14 rfl) F_Ms_76 rfl (kdM i hM.1).1 (hS.lt (by have := hM.1; omega)) ?_
      refine v_iload X (dk D_Ms_find 15 rfl) rfl ?_
      refine v_icmp_ne (tgt := 50) X (dk D_Ms_find 16 rfl) (by decide) (fun c32 => ?_) (fun c32 => ?_)
      · refine v_aload X (dk D_Ms_find 26 rfl) rfl ?_
        refine v_getR X (dk D_Ms_find 27 rfl) F_Ms_60 rfl (kdM i hM.1).1 (hS.lt (by have := hM.1; omega)) rfl ?_
        refine v_astoreR (lb := [some (.ref 25), some (.ref b), some (.int (nI f)), some (.int (nI n)), some (.int (hsh ((xs.drop f).take n))), some (va_rf (gR g (31 + 3 * i) 4))]) X (dk D_Ms_find 28 rfl) (by decide) rfl ?_
        refine v_goto (tgt := 20) X (dk D_Ms_find 29 rfl) (by decide) ?_
        exact ih _ (fun j hj => hg j (List.mem_cons_of_mem _ hj)) hr.2 (hfd.trans (List.find?_cons_of_neg (p := (fun i => decide (bys g 27 (ch i) = (xs.drop f).take n))) (show ¬ decide (bys g 27 (ch i) = (xs.drop f).take n) = true from fun e => (fun e => c32 (by rw [hM.2.2.2.2.2, e])) (of_decide_eq_true e))))
      · refine v_aload_n X (dk D_Ms_find 17 rfl) rfl ?_
        refine v_aload X (dk D_Ms_find 18 rfl) rfl ?_
        refine v_aload_n X (dk D_Ms_find 19 rfl) rfl ?_
        refine v_iload_n X (dk D_Ms_find 20 rfl) rfl ?_
        refine v_iload_n X (dk D_Ms_find 21 rfl) rfl ?_
        refine v_invV (As := [.ref (31 + 3 * i), .ref b, .int (nI f), .int (nI n)]) (st := []) X (k_isNamed l q hS hM.1 hM.2.1 hM.2.2.1 hM.2.2.2.1 hM.2.2.2.2.1 hxb hY hn0 hfn) (dk D_Ms_find 22 rfl) G_Ms_79 K_Ms_isNamed V_Ms_isNamed rfl rfl (hS.lt (by decide)) rfl rfl (Nat.le_of_ble_eq_true rfl) (Nat.le_of_ble_eq_true rfl) (Nat.le_of_ble_eq_true rfl) (Nat.le_of_ble_eq_true rfl) (Nat.le_of_ble_eq_true rfl) ?_
        rintro v w ⟨rfl, hw⟩
        rw [hw]
        show Vv _ _ _ _ _ _ _ _ _ _ _ _ _ _ _ [.int (if bys g 27 (ch i) = (xs.drop f).take n then 1 else 0)] (0, 0, g)
        refine v_if_eq (tgt := 50) X (dk D_Ms_find 23 rfl) (by decide) (fun c44 => ?_) (fun c44 => ?_)
        · refine v_aload X (dk D_Ms_find 26 rfl) rfl ?_
          refine v_getR X (dk D_Ms_find 27 rfl) F_Ms_60 rfl (kdM i hM.1).1 (hS.lt (by have := hM.1; omega)) rfl ?_
          refine v_astoreR (lb := [some (.ref 25), some (.ref b), some (.int (nI f)), some (.int (nI n)), some (.int (hsh ((xs.drop f).take n))), some (va_rf (gR g (31 + 3 * i) 4))]) X (dk D_Ms_find 28 rfl) (by decide) rfl ?_
          refine v_goto (tgt := 20) X (dk D_Ms_find 29 rfl) (by decide) ?_
          exact ih _ (fun j hj => hg j (List.mem_cons_of_mem _ hj)) hr.2 (hfd.trans (List.find?_cons_of_neg (p := (fun i => decide (bys g 27 (ch i) = (xs.drop f).take n))) (show ¬ decide (bys g 27 (ch i) = (xs.drop f).take n) = true from fun e => (fun e => absurd c44 (by rw [if_pos e]; decide)) (of_decide_eq_true e))))
        · refine v_aload X (dk D_Ms_find 24 rfl) rfl ?_
          exact v_aret (r := some (31 + 3 * i)) X hlk hrt (Or.inl ⟨_, rfl⟩) (dk D_Ms_find 25 rfl) ⟨by rw [hfd.trans (List.find?_cons_of_pos (p := (fun i => decide (bys g 27 (ch i) = (xs.drop f).take n))) (decide_eq_true (Decidable.byContradiction (fun e => c44 (if_neg e)))))]; rfl, rfl⟩
  refine v_aload_n X (dk D_Ms_find 0 rfl) rfl ?_
  refine v_iload_n X (dk D_Ms_find 1 rfl) rfl ?_
  refine v_iload_n X (dk D_Ms_find 2 rfl) rfl ?_
  refine v_invS (As := [.ref b, .int (nI f), .int (nI n)]) (st := []) X (k_hashOf l q hY hn0 hfn) (dk D_Ms_find 3 rfl) G_Ms_69 K_Ms_hashOf S_Ms_hashOf rfl rfl (Nat.le_of_ble_eq_true rfl) (Nat.le_of_ble_eq_true rfl) (Nat.le_of_ble_eq_true rfl) (Nat.le_of_ble_eq_true rfl) (Nat.le_of_ble_eq_true rfl) ?_
  rintro v w ⟨rfl, hw⟩
  rw [hw]
  show Vv _ _ _ _ _ _ _ _ _ _ _ _ _ _ _ [.int (hsh ((xs.drop f).take n))] (0, 0, g)
  refine v_istore (lb := [some (.ref 25), some (.ref b), some (.int (nI f)), some (.int (nI n)), some (.int (hsh ((xs.drop f).take n))), none]) X (dk D_Ms_find 4 rfl) (by decide) rfl ?_
  refine v_aload_n X (dk D_Ms_find 5 rfl) rfl ?_
  refine v_getF X (dk D_Ms_find 6 rfl) F_Ms_22 rfl rfl (hS.lt (by decide)) (hS.2 25 3) ?_
  refine v_iload X (dk D_Ms_find 7 rfl) rfl ?_
  refine v_invS (As := [.int (hsh ((xs.drop f).take n))]) (st := [.ref 29]) X (k_bucketOf l q (h := (hsh ((xs.drop f).take n))) (g := g)) (dk D_Ms_find 8 rfl) G_Ms_73 K_Ms_bucketOf S_Ms_bucketOf rfl rfl (Nat.le_of_ble_eq_true rfl) (Nat.le_of_ble_eq_true rfl) (Nat.le_of_ble_eq_true rfl) (Nat.le_of_ble_eq_true rfl) (Nat.le_of_ble_eq_true rfl) ?_
  rintro v w ⟨rfl, hw⟩
  rw [hw, hk2]
  show Vv _ _ _ _ _ _ _ _ _ _ _ _ _ _ _ [.int (nI k), .ref 29] (0, 0, g)
  refine v_aald X (dk D_Ms_find 9 rfl) rfl rfl (by decide) (hS.lt (by decide)) (vp_in_nI hk1 (by decide)) rfl ?_
  refine v_astoreR (lb := [some (.ref 25), some (.ref b), some (.int (nI f)), some (.int (nI n)), some (.int (hsh ((xs.drop f).take n))), some (va_rf (gR g 29 (nI k).toNatClampNeg))]) X (dk D_Ms_find 10 rfl) (by decide) rfl ?_
  exact loop L _ hL (by rw [nI_clamp (by omega)]; exact hlk2) rfl
end
section
/-! Meanings: the state -/
def smL : Nat → Nat → List Nat
  | _, 0 => []
  | i, n + 1 => (32 + 3 * i) :: (33 + 3 * i) :: smL (i + 1) n
theorem smL_mem : ∀ {n i j : Nat}, j ∈ smL i n ↔ ∃ k, i ≤ k ∧ k < i + n ∧ (j = 32 + 3 * k ∨ j = 33 + 3 * k)
  | 0, i, j => ⟨fun h => absurd h (by simp [smL]), fun ⟨k, h1, h2, _⟩ => by omega⟩
  | n + 1, i, j => by
    simp only [smL, List.mem_cons, smL_mem (n := n) (i := i + 1)]
    refine ⟨fun h => ?_, fun ⟨k, h1, h2, h3⟩ => ?_⟩
    · rcases h with h | h | ⟨k, h1, h2, h3⟩
      · exact ⟨i, by omega, by omega, Or.inl h⟩
      · exact ⟨i, by omega, by omega, Or.inr h⟩
      · exact ⟨k, by omega, by omega, h3⟩
    · by_cases e : k = i
      · subst e; rcases h3 with h3 | h3
        · exact Or.inl h3
        · exact Or.inr (Or.inl h3)
      · exact Or.inr (Or.inr ⟨k, by omega, by omega, h3⟩)
theorem smL_nd : ∀ (n i : Nat), (smL i n).Nodup
  | 0, _ => List.Pairwise.nil
  | n + 1, i => by
    refine List.nodup_cons.mpr ⟨fun h => ?_, List.nodup_cons.mpr ⟨fun h => ?_, smL_nd n (i + 1)⟩⟩
    · rcases List.mem_cons.mp h with h | h
      · omega
      · obtain ⟨k, h1, h2, h3⟩ := smL_mem.mp h; omega
    · obtain ⟨k, h1, h2, h3⟩ := smL_mem.mp h; omega
def SM : List Nat := smL 0 317
theorem SM_nd : SM.Nodup := smL_nd 317 0
theorem SM_1 {i : Nat} (h : i < 317) : 32 + 3 * i ∈ SM := smL_mem.mpr ⟨i, by omega, by omega, Or.inl rfl⟩
theorem SM_2 {i : Nat} (h : i < 317) : 33 + 3 * i ∈ SM := smL_mem.mpr ⟨i, by omega, by omega, Or.inr rfl⟩
theorem SM_of {j : Nat} (h : j ∈ SM) : ∃ i, i < 317 ∧ (j = 32 + 3 * i ∨ j = 33 + 3 * i) := by
  obtain ⟨k, h1, h2, h3⟩ := smL_mem.mp h
  exact ⟨k, by omega, h3⟩
theorem rlk_same {nx ny : Nat → Option Nat} : ∀ {is : List Nat} {r : Option Nat}, (∀ i ∈ is, ny (31 + 3 * i) = nx (31 + 3 * i)) → rlk nx is r → rlk ny is r
  | [], _, _, h => h
  | i :: is, _, hs, ⟨h1, h2⟩ => ⟨h1, by rw [hs i (List.mem_cons_self ..)]; exact rlk_same (fun j hj => hs j (List.mem_cons_of_mem _ hj)) h2⟩
/-- meanings by their numbers: the name, the text, the built-in; bk the buckets, newest first, sp those to spare; df and db count what is defined -/
def MS (g : mu_T) (bk : Nat → List Nat) (sp : List Nat) (N T : Nat → List Int32) (B : Nat → Option Nat) (df db : Nat) : Prop :=
  gI g 25 1 = nI df ∧ gI g 25 2 = nI db ∧ (∃ ch fl fr, CW g 26 27 28 16512 SM ch fl fr ∧ ∀ i, i < 317 → bys g 27 (ch (32 + 3 * i)) = N i ∧ bys g 27 (ch (33 + 3 * i)) = T i) ∧
  (∀ k, k < 128 → rlk (fun a => gR g a 4) (bk k) (gR g 29 k)) ∧ rlk (fun a => gR g a 4) sp (gR g 25 5) ∧
  (∀ k, k < 128 → ∀ i ∈ bk k, i < 317 ∧ gI g (31 + 3 * i) 3 = hsh (N i) ∧ hsh (N i) &&& 127 = nI k) ∧
  (∀ i, i < 317 → gR g (31 + 3 * i) 2 = B i) ∧ (∀ i ∈ sp, i < 317 ∧ N i = [] ∧ T i = [] ∧ B i = none) ∧
  (∀ k, k < 128 → (bk k).Nodup ∧ ∀ i ∈ bk k, i ∉ sp) ∧ sp.Nodup ∧ (∀ i, i < 317 → (∀ x ∈ N i, isByte x) ∧ ∀ x ∈ T i, isByte x)
/-- all meanings of bucket k are named, each by its own chain -/
theorem MS.mn {g : mu_T} {bk : Nat → List Nat} {sp : List Nat} {N T : Nat → List Int32} {B : Nat → Option Nat} {df db : Nat} (h : MS g bk sp N T B df db) : ∃ ch : Nat → List Nat, (∀ i, i < 317 → bys g 27 (ch i) = N i) ∧ ∀ k, k < 128 → ∀ i ∈ bk k, MN g i (ch i) := by
  obtain ⟨h1, h2, ⟨ch, fl, fr, hW, hN⟩, h4, h5, h6, h7, h8, h9, h10, h11⟩ := h
  refine ⟨fun i => ch (32 + 3 * i), fun i hi => (hN i hi).1, fun k hk i hi => ?_⟩
  obtain ⟨j1, j2, j3⟩ := h6 k hk i hi
  have hm := SM_1 j1
  have hfr := hW.2.2.2.2.2.2.2.1
  have hp := hW.2.2.2.2.2.2.2.2.2.2.2.1 _ hm
  have ht := tot_up (ch := ch) (x := []) hW.2.1 hm
  have hb := hW.2.2.2.2.2.2.2.2.1
  rw [List.length_nil] at ht
  refine ⟨j1, hW.2.2.2.1 _ hm, fun p hpp => by have := (hp.2 p hpp).1; omega, by show (ch (32 + 3 * i)).length ≤ 16512; omega, ?_, ?_⟩
  · show ∀ x ∈ bys g 27 (ch (32 + 3 * i)), isByte x
    rw [(hN i j1).1]; exact (h11 i j1).1
  · show gI g (31 + 3 * i) 3 = hsh (bys g 27 (ch (32 + 3 * i)))
    rw [(hN i j1).1]; exact j2
/-- find: the newest meaning of that name -/
theorem k_findM (l : Launch) (q : ev_T) {bk : Nat → List Nat} {sp : List Nat} {N T : Nat → List Int32} {B : Nat → Option Nat} {df db k : Nat} {b r0 n0 f n : Nat} {xs : List Int32} {ov : Bool} {g : mu_T} (hS : Shp g) (hM : MS g bk sp N T B df db) (hY : RB g b r0 n0 xs ov) (hn0 : n0 < 1073741824) (hfn : f + n ≤ xs.length) (hxb : ∀ x ∈ xs, isByte x) (hk1 : k < 128) (hk2 : hsh ((xs.drop f).take n) &&& 127 = nI k) : Ctr l q M_Ms_find 2 [.ref 25, .ref b, .int (nI f), .int (nI n)] (0, 0, g) (fun v w => v = some (va_rf (((bk k).find? (fun i => decide (N i = (xs.drop f).take n))).map (fun i => 31 + 3 * i))) ∧ w.2.2 = g) := by
  obtain ⟨ch, c1, c2⟩ := hM.mn
  refine (k_find l q hS hY hn0 hfn hxb hk1 hk2 (c2 k hk1) (hM.2.2.2.1 k hk1)).weak fun v w h => ⟨?_, h.2⟩
  rw [h.1]
  have e : ∀ is : List Nat, (∀ i ∈ is, i < 317) → is.find? (fun i => decide (bys g 27 (ch i) = (xs.drop f).take n)) = is.find? (fun i => decide (N i = (xs.drop f).take n)) := by
    intro is
    induction is with
    | nil => intro _; rfl
    | cons i is ih =>
      intro hi
      rw [List.find?_cons, List.find?_cons, c1 i (hi i (List.mem_cons_self ..)), ih (fun j hj => hi j (List.mem_cons_of_mem _ hj))]
  rw [e _ (fun i hi => (c2 k hk1 i hi).1)]
end
section
/-! Meanings: how many bytes their chains hold -/
/-- the sum of f over n numbers from i on -/
def sumN (f : Nat → Nat) : Nat → Nat → Nat
  | _, 0 => 0
  | i, n + 1 => f i + sumN f (i + 1) n
theorem sumN_same {f h : Nat → Nat} : ∀ {n i : Nat}, (∀ k, i ≤ k → k < i + n → h k = f k) → sumN h i n = sumN f i n
  | 0, _, _ => rfl
  | n + 1, i, e => by
    rw [sumN, sumN, e i (by omega) (by omega), sumN_same (fun k h1 h2 => e k (by omega) (by omega))]
/-- one place gets another value -/
theorem sumN_up {f h : Nat → Nat} {j : Nat} : ∀ {n i : Nat}, i ≤ j → j < i + n → (∀ k, k ≠ j → h k = f k) → sumN h i n + f j = sumN f i n + h j
  | 0, _, h1, h2, _ => by omega
  | n + 1, i, h1, h2, e => by
    rw [sumN, sumN]
    by_cases c : i = j
    · subst c
      rw [sumN_same (f := f) (h := h) (fun k k1 k2 => e k (by omega))]
      omega
    · rw [e i c]
      have := sumN_up (f := f) (h := h) (j := j) (n := n) (i := i + 1) (by omega) (by omega) e
      omega
theorem tot_smL {ch : Nat → List Nat} {f : Nat → Nat} : ∀ {n i : Nat}, (∀ k, i ≤ k → k < i + n → (ch (32 + 3 * k)).length + (ch (33 + 3 * k)).length = f k) → tot (smL i n) ch = sumN f i n
  | 0, _, _ => rfl
  | n + 1, i, e => by
    have h1 := e i (by omega) (by omega)
    have h2 := tot_smL (ch := ch) (f := f) (n := n) (i := i + 1) (fun k a b => e k (by omega) (by omega))
    rw [tot] at h2 ⊢
    simp only [smL, List.map_cons, List.sum_cons, sumN]
    omega
/-- all bytes of names and texts -/
def byM (N T : Nat → List Int32) : Nat := sumN (fun i => (N i).length + (T i).length) 0 317
theorem tot_SM {g : mu_T} {ch : Nat → List Nat} {N T : Nat → List Int32} (h : ∀ i, i < 317 → bys g 27 (ch (32 + 3 * i)) = N i ∧ bys g 27 (ch (33 + 3 * i)) = T i) : tot SM ch = byM N T :=
  tot_smL (fun k _ hk => by
    have e := h k (by omega)
    rw [← e.1, ← e.2, bys, bys, List.length_map, List.length_map])
/-- an emptied or filled name, the others as they were -/
theorem byM_N {N T M : Nat → List Int32} {j : Nat} (hj : j < 317) (e : ∀ k, k ≠ j → M k = N k) : byM M T + (N j).length = byM N T + (M j).length := by
  have h := sumN_up (f := fun i => (N i).length + (T i).length) (h := fun i => (M i).length + (T i).length) (j := j) (n := 317) (i := 0) (by omega) (by omega) (fun k hk => by show (M k).length + _ = _; rw [e k hk])
  rw [byM, byM]
  omega
theorem byM_T {N T U : Nat → List Int32} {j : Nat} (hj : j < 317) (e : ∀ k, k ≠ j → U k = T k) : byM N U + (T j).length = byM N T + (U j).length := by
  have h := sumN_up (f := fun i => (N i).length + (T i).length) (h := fun i => (N i).length + (U i).length) (j := j) (n := 317) (i := 0) (by omega) (by omega) (fun k hk => by show _ + (U k).length = _; rw [e k hk])
  rw [byM, byM]
  omega
end
section
/-! chains and meanings are kept where their cells are -/
theorem CW.sm {g k : mu_T} {c rb rn N fr : Nat} {S fl U : List Nat} {ch : Nat → List Nat} (w : CW g c rb rn N S ch fl fr) (z : sm g k U) (hc : c ∉ U) (hn : rn ∉ U) (hS : ∀ h ∈ S, h ∉ U) : CW k c rb rn N S ch fl fr := by
  obtain ⟨w1, w2, w3, w4, w5, w6, w7, w8, w9, w10, w11, w12, w13⟩ := w
  exact ⟨w1.sm z, w2, w3, fun h hh => (w4 h hh).keep z (hS h hh) (fun p _ => z.I hn p), by rw [z.I hc]; exact w5, by rw [z.I hc]; exact lkf_same (fun p _ => z.I hn p) w6, by rw [z.I hc]; exact w7, w8, w9, w10, w11, w12, w13⟩
theorem bys_sm {g k : mu_T} {rb : Nat} {U ps : List Nat} (z : sm g k U) (hb : rb ∉ U) : bys k rb ps = bys g rb ps := by
  rw [bys, bys, show gI k rb = gI g rb from funext fun j => z.I hb j]
theorem MS.sm {g k : mu_T} {U : List Nat} {bk : Nat → List Nat} {sp : List Nat} {N T : Nat → List Int32} {B : Nat → Option Nat} {df db : Nat} (h : MS g bk sp N T B df db) (z : sm g k U) (hU : ∀ a, 25 ≤ a → a < 982 → a ∉ U) : MS k bk sp N T B df db := by
  obtain ⟨h1, h2, ⟨ch, fl, fr, hW, hN⟩, h4, h5, h6, h7, h8, h9, h10, h11⟩ := h
  have u25 := hU 25 (by decide) (by decide)
  refine ⟨by rw [z.I u25]; exact h1, by rw [z.I u25]; exact h2, ⟨ch, fl, fr, hW.sm z (hU 26 (by decide) (by decide)) (hU 28 (by decide) (by decide)) (fun a ha => ?_), fun i hi => ?_⟩, fun j hj => ?_, ?_, fun j hj i hi => ?_, fun i hi => ?_, h8, h9, h10, h11⟩
  · obtain ⟨i, hi, e⟩ := SM_of ha
    exact hU a (by omega) (by omega)
  · rw [bys_sm z (hU 27 (by decide) (by decide)), bys_sm z (hU 27 (by decide) (by decide))]; exact hN i hi
  · rw [z.R (hU 29 (by decide) (by decide))]
    exact rlk_same (fun i hi => z.R (hU _ (by omega) (by have := (h6 j hj i hi).1; omega)) 4) (h4 j hj)
  · rw [z.R u25]
    exact rlk_same (fun i hi => z.R (hU _ (by omega) (by have := (h8 i hi).1; omega)) 4) h5
  · obtain ⟨j1, j2, j3⟩ := h6 j hj i hi
    exact ⟨j1, by rw [z.I (hU _ (by omega) (by omega))]; exact j2, j3⟩
  · rw [z.R (hU _ (by omega) (by omega))]; exact h7 i hi
end
section
/-! Meanings: a spare meaning comes on top of its bucket -/
theorem xRs {g : mu_T} {a b k j : Nat} {x : Option Nat} (h : b ≠ a ∨ j ≠ k) : gR (xR g a k x) b j = gR g b j := by
  rcases h with h | h
  · exact gR_na h
  · exact gR_nk h
theorem up_eq {α : Type} {f : Nat → α} {a : Nat} {x : α} : va_up f a x a = x := if_pos rfl
theorem up_ne {α : Type} {f : Nat → α} {a b : Nat} {x : α} (h : b ≠ a) : va_up f a x b = f b := if_neg h
theorem n_addOnTop {g w : mu_T} {bk : Nat → List Nat} {i k : Nat} {sp : List Nat} {N T : Nat → List Int32} {B : Nat → Option Nat} {df db : Nat} {ch : Nat → List Nat} {ps fl2 : List Nat} {fr2 : Nat} {nm : List Int32} (hM : MS g bk (i :: sp) N T B df db) (hN : ∀ i, i < 317 → bys g 27 (ch (32 + 3 * i)) = N i ∧ bys g 27 (ch (33 + 3 * i)) = T i) (hk1 : k < 128) (hk2 : hsh nm &&& 127 = nI k) (hnb : ∀ x ∈ nm, isByte x)
    (z : sm (xI (xR g 25 5 (gR g (31 + 3 * i) 4)) (31 + 3 * i) 3 (hsh nm)) w [26, 27, 28, 32 + 3 * i]) (hW : CW w 26 27 28 16512 SM (va_up ch (32 + 3 * i) (ch (32 + 3 * i) ++ ps)) fl2 fr2) (hb1 : bys w 27 (ch (32 + 3 * i) ++ ps) = bys g 27 (ch (32 + 3 * i)) ++ nm) (hb2 : ∀ j ∈ SM, j ≠ 32 + 3 * i → bys w 27 (ch j) = bys g 27 (ch j)) :
    MS (xR (xR w (31 + 3 * i) 4 (gR w 29 k)) 29 k (some (31 + 3 * i))) (va_up bk k (i :: bk k)) sp (va_up N i nm) T B df db := by
  obtain ⟨h1, h2, -, h4, h5, h6, h7, h8, h9, h10, h11⟩ := hM
  obtain ⟨i1, i2, i3, i4⟩ := h8 i (List.mem_cons_self ..)
  have hnd := List.nodup_cons.mp h10
  have zR : sm w (xR (xR w (31 + 3 * i) 4 (gR w 29 k)) 29 k (some (31 + 3 * i))) [31 + 3 * i, 29] := ((sm.rf w _).xR (by simp)).xR (by simp)
  have hbn : ∀ j, j < 128 → ∀ x ∈ bk j, x ≠ i := fun j hj x hx e => (h9 j hj).2 x hx (by rw [e]; exact List.mem_cons_self ..)
  have hspn : ∀ x ∈ sp, x ≠ i := fun x hx e => hnd.1 (by rw [← e]; exact hx)
  have rw29 : ∀ j, gR w 29 j = gR g 29 j := fun j => (z.R (by simp; omega) j).trans (show gR (xR g 25 5 (gR g (31 + 3 * i) 4)) 29 j = gR g 29 j from xRs (Or.inl (by decide)))
  have rwm : ∀ x, x < 317 → x ≠ i → ∀ j, gR (xR (xR w (31 + 3 * i) 4 (gR w 29 k)) 29 k (some (31 + 3 * i))) (31 + 3 * x) j = gR g (31 + 3 * x) j := fun x hx hxi j => by
    rw [xRs (Or.inl (by omega)), xRs (Or.inl (by omega)), z.R (by simp; omega)]
    exact xRs (Or.inl (by omega))
  have f2 : ∀ j, j ≠ k → gR (xR (xR w (31 + 3 * i) 4 (gR w 29 k)) 29 k (some (31 + 3 * i))) 29 j = gR g 29 j := fun j e => by
    rw [xRs (Or.inr e), xRs (Or.inl (by omega)), rw29]
  have f3 : gR (xR (xR w (31 + 3 * i) 4 (gR w 29 k)) 29 k (some (31 + 3 * i))) (31 + 3 * i) 4 = gR g 29 k := by
    rw [xRs (Or.inl (by omega)), gR_eq, rw29]
  have f5 : gR (xR (xR w (31 + 3 * i) 4 (gR w 29 k)) 29 k (some (31 + 3 * i))) 25 5 = gR g (31 + 3 * i) 4 := by
    rw [xRs (Or.inl (by decide)), xRs (Or.inl (by omega)), z.R (by simp; omega)]
    show gR (xR g 25 5 (gR g (31 + 3 * i) 4)) 25 5 = _
    exact gR_eq _ _ _ _
  have iw : ∀ x, x < 317 → x ≠ i → ∀ j, gI w (31 + 3 * x) j = gI g (31 + 3 * x) j := fun x hx hxi j => by
    rw [z.I (by simp; omega), gI_na (by omega)]; rfl
  refine ⟨?_, ?_, ⟨_, _, _, hW.sm zR (by simp; omega) (by simp; omega) (fun a ha => ?_), fun x hx => ⟨?_, ?_⟩⟩, fun j hj => ?_, ?_, fun j hj x hx => ?_, fun x hx => ?_, fun x hx => ?_, fun j hj => ?_, hnd.2, fun x hx => ⟨?_, (h11 x hx).2⟩⟩
  · show gI w 25 1 = _
    rw [z.I (by simp; omega), gI_na (by omega)]; exact h1
  · show gI w 25 2 = _
    rw [z.I (by simp; omega), gI_na (by omega)]; exact h2
  · obtain ⟨y, hy, e⟩ := SM_of ha
    simp; omega
  · show bys w 27 _ = _
    by_cases e : x = i
    · subst e; rw [up_eq, up_eq, hb1, (hN x hx).1, i2, List.nil_append]
    · rw [up_ne (by omega), up_ne e, hb2 _ (SM_1 hx) (by omega)]; exact (hN x hx).1
  · show bys w 27 _ = _
    rw [up_ne (by omega), hb2 _ (SM_2 hx) (by omega)]; exact (hN x hx).2
  · by_cases e : j = k
    · subst e
      rw [up_eq, gR_eq]
      refine ⟨rfl, ?_⟩
      show rlk _ _ (gR _ (31 + 3 * i) 4)
      rw [f3]
      exact rlk_same (fun x hx => rwm x (h6 j hj x hx).1 (hbn j hj x hx) 4) (h4 j hj)
    · rw [up_ne e, f2 j e]
      exact rlk_same (fun x hx => rwm x (h6 j hj x hx).1 (hbn j hj x hx) 4) (h4 j hj)
  · rw [f5]
    exact rlk_same (fun x hx => rwm x (h8 x (List.mem_cons_of_mem _ hx)).1 (hspn x hx) 4) h5.2
  · show x < 317 ∧ gI w (31 + 3 * x) 3 = _ ∧ _
    have other : ∀ y ∈ bk j, y < 317 ∧ gI w (31 + 3 * y) 3 = hsh (va_up N i nm y) ∧ hsh (va_up N i nm y) &&& 127 = nI j := fun y hy => by
      obtain ⟨a1, a2, a3⟩ := h6 j hj y hy
      have n1 := hbn j hj y hy
      rw [up_ne n1, iw y a1 n1]; exact ⟨a1, a2, a3⟩
    by_cases e : j = k
    · subst e
      rw [up_eq] at hx
      rcases List.mem_cons.mp hx with hx | hx
      · subst hx
        refine ⟨i1, ?_, ?_⟩
        · rw [up_eq, z.I (by simp; omega), gI_eq]
        · rw [up_eq]; exact hk2
      · exact other x hx
    · rw [up_ne e] at hx; exact other x hx
  · by_cases e : x = i
    · subst e
      rw [xRs (Or.inl (by omega)), xRs (Or.inr (by decide)), z.R (by simp; omega)]
      exact (xRs (Or.inl (by omega))).trans (h7 x hx)
    · rw [rwm x hx e]; exact h7 x hx
  · obtain ⟨a1, a2, a3, a4⟩ := h8 x (List.mem_cons_of_mem _ hx)
    exact ⟨a1, by rw [up_ne (hspn x hx)]; exact a2, a3, a4⟩
  · by_cases e : j = k
    · subst e
      rw [up_eq]
      refine ⟨List.nodup_cons.mpr ⟨fun hx => hbn j hj i hx rfl, (h9 j hj).1⟩, fun x hx => ?_⟩
      rcases List.mem_cons.mp hx with hx | hx
      · rw [hx]; exact hnd.1
      · exact fun y => (h9 j hj).2 x hx (List.mem_cons_of_mem _ y)
    · rw [up_ne e]
      exact ⟨(h9 j hj).1, fun x hx y => (h9 j hj).2 x hx (List.mem_cons_of_mem _ y)⟩
  · by_cases e : x = i
    · subst e; rw [up_eq]; exact hnb
    · rw [up_ne e]; exact (h11 x hx).1
end
section
/-! Meanings: addOnTop -/
def UU (i : Nat) : List Nat := [25, 26, 27, 28, 29, 31 + 3 * i, 32 + 3 * i]
set_option maxHeartbeats 4000000 in
set_option maxRecDepth 100000 in
theorem k_addOnTop (l : Launch) (q : ev_T) {bk : Nat → List Nat} {i k : Nat} {sp : List Nat} {N T : Nat → List Int32} {B : Nat → Option Nat} {df db : Nat} {b r0 n0 f n : Nat} {xs : List Int32} {ov : Bool} {g : mu_T} (hS : Shp g) (hM : MS g bk (i :: sp) N T B df db) (hY : RB g b r0 n0 xs ov) (hn0 : n0 < 1073741824) (hb : b < 25) (hr : r0 < 25) (hfn : f + n ≤ xs.length) (hxb : ∀ x ∈ xs, isByte x) (hk1 : k < 128) (hk2 : (hsh ((xs.drop f).take n)) &&& 127 = nI k) (hrm : byM N T + n ≤ 16512) : Ctr l q M_Ms_addOnTop 2 [.ref 25, .ref b, .int (nI f), .int (nI n)] (0, 0, g) (fun v w => v = some (va_rf (some (31 + 3 * i))) ∧ sm g w.2.2 (UU i) ∧ MS w.2.2 (va_up bk k (i :: bk k)) sp (va_up N i ((xs.drop f).take n)) T B df db) := by
  have hM0 := hM
  obtain ⟨-, -, ⟨ch, fl, fr, hW, hN⟩, -, hsp0, -, -, h8, -⟩ := hM0
  have hi := (h8 i (List.mem_cons_self ..)).1
  have hsp : gR g 25 5 = some (31 + 3 * i) := hsp0.1
  have hyn := hY.2.1
  have z1 : sm g (xR g 25 5 (gR g (31 + 3 * i) 4)) [25] := (sm.rf g _).xR (by simp)
  have z2 : sm g (xI (xR g 25 5 (gR g (31 + 3 * i) 4)) (31 + 3 * i) 3 (hsh ((xs.drop f).take n))) [25, (31 + 3 * i)] := ((sm.rf g _).xR (by simp)).xI (by simp)
  have hb1 : b ∉ [25] := by simp; omega
  have hr1 : r0 ∉ [25] := by simp; omega
  have hb2 : b ∉ [25, (31 + 3 * i)] := by simp; omega
  have hr2 : r0 ∉ [25, (31 + 3 * i)] := by simp; omega
  have hfree : b ∉ [26, 27, 28, (32 + 3 * i)] ∧ r0 ∉ [26, 27, 28, (32 + 3 * i)] := by constructor <;> (simp; omega)
  have hW2 : CW (xI (xR g 25 5 (gR g (31 + 3 * i) 4)) (31 + 3 * i) 3 (hsh ((xs.drop f).take n))) 26 27 28 16512 SM ch fl fr := hW.sm z2 (by simp; omega) (by simp; omega) (fun a ha => by obtain ⟨y, hy, e⟩ := SM_of ha; simp; omega)
  have hroom : tot SM ch + n ≤ 16512 := by rw [tot_SM hN]; exact hrm
  refine Ctr.mk (lb := [some (.ref 25), some (.ref b), some (.int (nI f)), some (.int (nI n)), none, none]) (by decide +kernel) (Nat.le_of_ble_eq_true rfl) rfl rfl ?_
  intro pp ee ss mm aa bb mt cd X hrt hlk hnm
  refine v_aload_n X (dk D_Ms_addOnTop 0 rfl) rfl ?_
  refine v_getR X (dk D_Ms_addOnTop 1 rfl) F_Ms_44 rfl rfl (hS.lt (by decide)) hsp ?_
  refine v_astore (lb := [some (.ref 25), some (.ref b), some (.int (nI f)), some (.int (nI n)), some (.ref (31 + 3 * i)), none]) X (dk D_Ms_addOnTop 2 rfl) (by decide) rfl ?_
  refine v_aload X (dk D_Ms_addOnTop 3 rfl) rfl ?_
  refine v_ifnonnull (tgt := 13) X (dk D_Ms_addOnTop 4 rfl) (by decide) ?_
  refine v_aload_n X (dk D_Ms_addOnTop 7 rfl) rfl ?_
  refine v_aload X (dk D_Ms_addOnTop 8 rfl) rfl ?_
  refine v_getR X (dk D_Ms_addOnTop 9 rfl) F_Ms_60 rfl (kdM i hi).1 (hS.lt (by omega)) rfl ?_
  refine v_putR (r := gR g (31 + 3 * i) 4) X (dk D_Ms_addOnTop 10 rfl) F_Ms_44 CK_Ms rfl rfl (hS.lt (by decide)) ⟨_, rfl⟩ ?_
  refine v_aload X (dk D_Ms_addOnTop 11 rfl) rfl ?_
  refine v_aload_n X (dk D_Ms_addOnTop 12 rfl) rfl ?_
  refine v_iload_n X (dk D_Ms_addOnTop 13 rfl) rfl ?_
  refine v_iload_n X (dk D_Ms_addOnTop 14 rfl) rfl ?_
  refine v_invS (As := [.ref b, .int (nI f), .int (nI n)]) (st := [.ref (31 + 3 * i)]) X (k_hashOf l q (hY.sm z1 hb1 hr1) hn0 hfn) (dk D_Ms_addOnTop 15 rfl) G_Ms_69 K_Ms_hashOf S_Ms_hashOf rfl rfl (Nat.le_of_ble_eq_true rfl) (Nat.le_of_ble_eq_true rfl) (Nat.le_of_ble_eq_true rfl) (Nat.le_of_ble_eq_true rfl) (Nat.le_of_ble_eq_true rfl) ?_
  rintro v w ⟨rfl, hw⟩
  rw [hw]
  show Vv _ _ _ _ _ _ _ _ _ _ _ _ _ _ _ [.int (hsh ((xs.drop f).take n)), .ref (31 + 3 * i)] (0, 0, (xR g 25 5 (gR g (31 + 3 * i) 4)))
  refine v_putI X (dk D_Ms_addOnTop 16 rfl) F_Ms_76 CK_Me rfl (kdM i hi).1 (hS.lt (by omega)) rfl rfl ?_
  refine v_aload_n X (dk D_Ms_addOnTop 17 rfl) rfl ?_
  refine v_getF X (dk D_Ms_addOnTop 18 rfl) F_Ms_16 rfl rfl (hS.lt (by decide)) (hS.2 25 0) ?_
  refine v_aload X (dk D_Ms_addOnTop 19 rfl) rfl ?_
  refine v_getF X (dk D_Ms_addOnTop 20 rfl) F_Ms_48 rfl (kdM i hi).1 (hS.lt (by omega)) ((hS.2 _ 0).trans (fRM hi).1) ?_
  refine v_aload_n X (dk D_Ms_addOnTop 21 rfl) rfl ?_
  refine v_iload_n X (dk D_Ms_addOnTop 22 rfl) rfl ?_
  refine v_iload_n X (dk D_Ms_addOnTop 23 rfl) rfl ?_
  refine v_invV (As := [.ref (32 + 3 * i), .ref b, .int (nI f), .int (nI n)]) (st := []) X (k_Ce_add l q hW2 (SM_1 hi) (hY.sm z2 hb2 hr2) (fun j hj => hxb _ (getD_mem hj)) hfree hfn (by omega)) (dk D_Ms_addOnTop 24 rfl) G_Ms_93 K_Ce_add V_Ce_add rfl rfl ((hS.sm z2).lt (by decide)) rfl rfl (Nat.le_of_ble_eq_true rfl) (Nat.le_of_ble_eq_true rfl) (Nat.le_of_ble_eq_true rfl) (Nat.le_of_ble_eq_true rfl) (Nat.le_of_ble_eq_true rfl) ?_
  rintro v w ⟨rfl, hw⟩
  rw [if_pos hroom] at hw
  obtain ⟨y1, ps, fl2, fr2, y2, y3, y4, y5⟩ := hw
  have S3 := (hS.sm z2).sm y1
  show Vv _ _ _ _ _ _ _ _ _ _ _ _ _ _ _ [.int _] (0, 0, w.2.2)
  refine v_pop X (dk D_Ms_addOnTop 25 rfl) rfl ?_
  refine v_aload X (dk D_Ms_addOnTop 26 rfl) rfl ?_
  refine v_getI X (dk D_Ms_addOnTop 27 rfl) F_Ms_76 rfl (kdM i hi).1 (S3.lt (by omega)) ?_
  rw [show gI w.2.2 (31 + 3 * i) 3 = (hsh ((xs.drop f).take n)) from (y1.I (by simp; omega) 3).trans (gI_eq _ _ _ _)]
  refine v_invS (As := [.int (hsh ((xs.drop f).take n))]) (st := []) X (k_bucketOf l q (h := (hsh ((xs.drop f).take n))) (g := w.2.2)) (dk D_Ms_addOnTop 28 rfl) G_Ms_73 K_Ms_bucketOf S_Ms_bucketOf rfl rfl (Nat.le_of_ble_eq_true rfl) (Nat.le_of_ble_eq_true rfl) (Nat.le_of_ble_eq_true rfl) (Nat.le_of_ble_eq_true rfl) (Nat.le_of_ble_eq_true rfl) ?_
  rintro v w4 ⟨rfl, hw⟩
  rw [hw, hk2]
  show Vv _ _ _ _ _ _ _ _ _ _ _ _ _ _ _ [.int (nI k)] (0, 0, w.2.2)
  refine v_istore (lb := [some (.ref 25), some (.ref b), some (.int (nI f)), some (.int (nI n)), some (.ref (31 + 3 * i)), some (.int (nI k))]) X (dk D_Ms_addOnTop 29 rfl) (by decide) rfl ?_
  refine v_aload X (dk D_Ms_addOnTop 30 rfl) rfl ?_
  refine v_aload_n X (dk D_Ms_addOnTop 31 rfl) rfl ?_
  refine v_getF X (dk D_Ms_addOnTop 32 rfl) F_Ms_22 rfl rfl (S3.lt (by decide)) (S3.2 25 3) ?_
  refine v_iload X (dk D_Ms_addOnTop 33 rfl) rfl ?_
  refine v_aald X (dk D_Ms_addOnTop 34 rfl) rfl rfl (by decide) (S3.lt (by decide)) (vp_in_nI hk1 (by decide)) (by rw [nI_clamp (by omega)]) ?_
  refine v_putR (r := gR w.2.2 29 k) X (dk D_Ms_addOnTop 35 rfl) F_Ms_60 CK_Me rfl (kdM i hi).1 (S3.lt (by omega)) ⟨_, rfl⟩ ?_
  refine v_aload_n X (dk D_Ms_addOnTop 36 rfl) rfl ?_
  refine v_getF X (dk D_Ms_addOnTop 37 rfl) F_Ms_22 rfl rfl (S3.lt (by decide)) (S3.2 25 3) ?_
  refine v_iload X (dk D_Ms_addOnTop 38 rfl) rfl ?_
  refine v_aload X (dk D_Ms_addOnTop 39 rfl) rfl ?_
  refine v_aast (r := ("RescanMill$Meaning", _, _)) X (dk D_Ms_addOnTop 40 rfl) rfl rfl (by decide) (S3.lt (by decide)) (vp_in_nI hk1 (by decide)) (kdM i hi).1 rfl (S3.lt (by omega)) ?_
  rw [nI_clamp (by omega)]
  refine v_aload X (dk D_Ms_addOnTop 41 rfl) rfl ?_
  exact v_aret (r := some (31 + 3 * i)) X hlk hrt (Or.inl ⟨_, rfl⟩) (dk D_Ms_addOnTop 42 rfl) ⟨rfl, ((z2.tr y1 (U := UU i) (by simp [UU]) (by simp [UU])).xR (by simp [UU])).xR (by simp [UU]), n_addOnTop hM hN hk1 hk2 (fun x hx => hxb x (List.mem_of_mem_drop (List.mem_of_mem_take hx))) y1 y2 (y4.trans (congrArg (· ++ _) (bys_sm z2 (by simp; omega)))) (fun j hj hne => (y5 j hj hne).trans (bys_sm z2 (by simp; omega)))⟩
end
section
/-! Meanings: addBuiltIn -/
theorem MS_setB {g : mu_T} {bk : Nat → List Nat} {sp : List Nat} {N T : Nat → List Int32} {B : Nat → Option Nat} {df db i : Nat} {x : Option Nat} (h : MS g bk sp N T B df db) (hi : i < 317) (hs : i ∉ sp) : MS (xR g (31 + 3 * i) 2 x) bk sp N T (va_up B i x) df db := by
  obtain ⟨h1, h2, ⟨ch, fl, fr, hW, hN⟩, h4, h5, h6, h7, h8, h9, h10, h11⟩ := h
  have z : sm g (xR g (31 + 3 * i) 2 x) [31 + 3 * i] := (sm.rf g _).xR (by simp)
  refine ⟨h1, h2, ⟨ch, fl, fr, hW.sm z (by simp; omega) (by simp; omega) (fun a ha => by obtain ⟨y, hy, e⟩ := SM_of ha; simp; omega), fun j hj => hN j hj⟩, fun j hj => ?_, ?_, h6, fun j hj => ?_, fun j hj => ?_, h9, h10, h11⟩
  · rw [gR_na (by omega)]
    exact rlk_same (fun y _ => gR_nk (by decide)) (h4 j hj)
  · rw [gR_na (by omega)]
    exact rlk_same (fun y _ => gR_nk (by decide)) h5
  · by_cases e : j = i
    · subst e; rw [up_eq, gR_eq]
    · rw [up_ne e, gR_na (by omega)]; exact h7 j hj
  · obtain ⟨a1, a2, a3, a4⟩ := h8 j hj
    exact ⟨a1, a2, a3, by rw [up_ne (fun e => hs (by rw [← e]; exact hj))]; exact a4⟩
set_option maxHeartbeats 4000000 in
set_option maxRecDepth 100000 in
theorem k_addBuiltIn (l : Launch) (q : ev_T) {bk : Nat → List Nat} {i j k : Nat} {sp : List Nat} {N T : Nat → List Int32} {B : Nat → Option Nat} {df db : Nat} {b r0 n0 : Nat} {xs : List Int32} {ov : Bool} {g : mu_T} (hS : Shp g) (hM : MS g bk (i :: sp) N T B df db) (hY : RB g b r0 n0 xs ov) (hn0 : n0 < 1073741824) (hb : b < 25) (hr : r0 < 25) (hxb : ∀ x ∈ xs, isByte x) (hk1 : k < 128) (hk2 : (hsh xs) &&& 127 = nI k) (hrm : byM N T + xs.length ≤ 16512) : Ctr l q M_Ms_addBuiltIn 3 [.ref 25, .ref (1048576 + j), .ref b] (0, 0, g) (fun v w => v = none ∧ sm g w.2.2 (UU i) ∧ MS w.2.2 (va_up bk k (i :: bk k)) sp (va_up N i xs) T (va_up B i (some (1048576 + j))) df db) := by
  have h8 := hM.2.2.2.2.2.2.2.1
  have hi := (h8 i (List.mem_cons_self ..)).1
  have hns : i ∉ sp := (List.nodup_cons.mp hM.2.2.2.2.2.2.2.2.2.1).1
  refine Ctr.mk (lb := [some (.ref 25), some (.ref (1048576 + j)), some (.ref b), none]) (by decide +kernel) (Nat.le_of_ble_eq_true rfl) rfl rfl ?_
  intro pp ee ss mm aa bb mt cd X hrt hlk hnm
  refine v_aload_n X (dk D_Ms_addBuiltIn 0 rfl) rfl ?_
  refine v_aload_n X (dk D_Ms_addBuiltIn 1 rfl) rfl ?_
  refine v_iconst (v := nI 0) X (dk D_Ms_addBuiltIn 2 rfl) (by decide) ?_
  refine v_aload_n X (dk D_Ms_addBuiltIn 3 rfl) rfl ?_
  refine v_getI X (dk D_Ms_addBuiltIn 4 rfl) F_Ms_97 rfl hY.1.1 hY.1.2.1 ?_
  rw [hY.2.2.1]
  refine v_invV (As := [.ref b, .int (nI 0), .int (nI xs.length)]) (st := []) X (k_addOnTop l q (f := 0) (n := xs.length) hS hM hY hn0 hb hr (by omega) hxb hk1 (by rw [List.drop_zero, List.take_length]; exact hk2) hrm) (dk D_Ms_addBuiltIn 5 rfl) G_Ms_98 K_Ms_addOnTop V_Ms_addOnTop rfl rfl (hS.lt (by decide)) rfl rfl (Nat.le_of_ble_eq_true rfl) (Nat.le_of_ble_eq_true rfl) (Nat.le_of_ble_eq_true rfl) (Nat.le_of_ble_eq_true rfl) (Nat.le_of_ble_eq_true rfl) ?_
  rintro v w ⟨rfl, y1, y2⟩
  rw [List.drop_zero, List.take_length] at y2
  show Vv _ _ _ _ _ _ _ _ _ _ _ _ _ _ _ [.ref (31 + 3 * i)] (0, 0, w.2.2)
  refine v_astore_n (lb := [some (.ref 25), some (.ref (1048576 + j)), some (.ref b), some (.ref (31 + 3 * i))]) X (dk D_Ms_addBuiltIn 6 rfl) (by decide) rfl ?_
  refine v_aload_n X (dk D_Ms_addBuiltIn 7 rfl) rfl ?_
  refine v_ifnull X (dk D_Ms_addBuiltIn 8 rfl) ?_
  refine v_aload_n X (dk D_Ms_addBuiltIn 9 rfl) rfl ?_
  refine v_aload_n X (dk D_Ms_addBuiltIn 10 rfl) rfl ?_
  refine v_putR (r := some (1048576 + j)) X (dk D_Ms_addBuiltIn 11 rfl) F_Ms_102 CK_Me rfl (kdM i hi).1 ((hS.sm y1).lt (by omega)) ⟨_, rfl⟩ ?_
  exact v_vret X hlk hrt (dk D_Ms_addBuiltIn 12 rfl) ⟨rfl, y1.xR (by simp [UU]), MS_setB y2 hi hns⟩
end
