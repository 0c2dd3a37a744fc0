-- ===== PART A: goes FIRST, ahead of the names: the tables' words, and 'selects' of the private methods out of them =====
/-- a private method of a class that the tables say can be made, by its rows of tables_1 -/
def lw_okq (q : MethodName × Nat) : Prop := (q.1.cls ≠ "java/lang/invoke/MethodHandle" ∧ q.1.cls ≠ "java/lang/invoke/VarHandle") ∧ Cond.instantiable q.1.cls q.2 ∈ tables_1 ∧ Cond.privateMethod q.1 ∈ tables_1 ∧ Cond.instanceMethod q.1 ∈ tables_1
theorem lw_p0 : lw_okq (⟨"BeforeThird", "refuseBad", "(I)I"⟩, 13) := ⟨⟨by decide +kernel, by decide +kernel⟩, List.mem_of_getElem? (i := 21) (by decide +kernel), List.mem_of_getElem? (i := 253) (by decide +kernel), List.mem_of_getElem? (i := 254) (by decide +kernel)⟩
theorem lw_p1 : lw_okq (⟨"BeforeThird", "refuseFull", "()I"⟩, 13) := ⟨⟨by decide +kernel, by decide +kernel⟩, List.mem_of_getElem? (i := 21) (by decide +kernel), List.mem_of_getElem? (i := 271) (by decide +kernel), List.mem_of_getElem? (i := 272) (by decide +kernel)⟩
theorem lw_p2 : lw_okq (⟨"BeforeThird$Reader", "takeToken", "()V"⟩, 7) := ⟨⟨by decide +kernel, by decide +kernel⟩, List.mem_of_getElem? (i := 68) (by decide +kernel), List.mem_of_getElem? (i := 300) (by decide +kernel), List.mem_of_getElem? (i := 301) (by decide +kernel)⟩
theorem lw_p3 : lw_okq (⟨"BeforeThird$Reader", "skipRun", "(II)V"⟩, 7) := ⟨⟨by decide +kernel, by decide +kernel⟩, List.mem_of_getElem? (i := 68) (by decide +kernel), List.mem_of_getElem? (i := 304) (by decide +kernel), List.mem_of_getElem? (i := 305) (by decide +kernel)⟩
theorem lw_p4 : lw_okq (⟨"BeforeThird$Reader", "byteAt", "(I)I"⟩, 7) := ⟨⟨by decide +kernel, by decide +kernel⟩, List.mem_of_getElem? (i := 68) (by decide +kernel), List.mem_of_getElem? (i := 308) (by decide +kernel), List.mem_of_getElem? (i := 309) (by decide +kernel)⟩
theorem lw_p5 : lw_okq (⟨"BeforeThird$Reader", "takeItem", "(Z)Z"⟩, 7) := ⟨⟨by decide +kernel, by decide +kernel⟩, List.mem_of_getElem? (i := 68) (by decide +kernel), List.mem_of_getElem? (i := 313) (by decide +kernel), List.mem_of_getElem? (i := 314) (by decide +kernel)⟩
theorem lw_p6 : lw_okq (⟨"BeforeThird$Reader", "spells", "(Ljava/lang/String;)Z"⟩, 7) := ⟨⟨by decide +kernel, by decide +kernel⟩, List.mem_of_getElem? (i := 68) (by decide +kernel), List.mem_of_getElem? (i := 318) (by decide +kernel), List.mem_of_getElem? (i := 319) (by decide +kernel)⟩
theorem lw_p7 : lw_okq (⟨"BeforeThird$Reader", "takeAccount", "()Z"⟩, 7) := ⟨⟨by decide +kernel, by decide +kernel⟩, List.mem_of_getElem? (i := 68) (by decide +kernel), List.mem_of_getElem? (i := 370) (by decide +kernel), List.mem_of_getElem? (i := 371) (by decide +kernel)⟩
theorem lw_p8 : lw_okq (⟨"BeforeThird$Reader", "takeNumber", "(II)Z"⟩, 7) := ⟨⟨by decide +kernel, by decide +kernel⟩, List.mem_of_getElem? (i := 68) (by decide +kernel), List.mem_of_getElem? (i := 374) (by decide +kernel), List.mem_of_getElem? (i := 375) (by decide +kernel)⟩
theorem lw_p9 : lw_okq (⟨"BeforeThird$Reader", "takeStop", "()Z"⟩, 7) := ⟨⟨by decide +kernel, by decide +kernel⟩, List.mem_of_getElem? (i := 68) (by decide +kernel), List.mem_of_getElem? (i := 378) (by decide +kernel), List.mem_of_getElem? (i := 379) (by decide +kernel)⟩
theorem lw_p10 : lw_okq (⟨"BeforeThird$Reader", "takeBill", "()Z"⟩, 7) := ⟨⟨by decide +kernel, by decide +kernel⟩, List.mem_of_getElem? (i := 68) (by decide +kernel), List.mem_of_getElem? (i := 383) (by decide +kernel), List.mem_of_getElem? (i := 384) (by decide +kernel)⟩
theorem lw_p11 : lw_okq (⟨"BeforeThird$Reader", "takeFigure", "(II)Z"⟩, 7) := ⟨⟨by decide +kernel, by decide +kernel⟩, List.mem_of_getElem? (i := 68) (by decide +kernel), List.mem_of_getElem? (i := 389) (by decide +kernel), List.mem_of_getElem? (i := 390) (by decide +kernel)⟩
theorem lw_p12 : lw_okq (⟨"BeforeThird", "passDay", "()V"⟩, 13) := ⟨⟨by decide +kernel, by decide +kernel⟩, List.mem_of_getElem? (i := 21) (by decide +kernel), List.mem_of_getElem? (i := 409) (by decide +kernel), List.mem_of_getElem? (i := 410) (by decide +kernel)⟩
theorem lw_p13 : lw_okq (⟨"BeforeThird", "drawnToday", "()I"⟩, 13) := ⟨⟨by decide +kernel, by decide +kernel⟩, List.mem_of_getElem? (i := 21) (by decide +kernel), List.mem_of_getElem? (i := 413) (by decide +kernel), List.mem_of_getElem? (i := 414) (by decide +kernel)⟩
theorem lw_p14 : lw_okq (⟨"BeforeThird$Book", "billPart", "(II)I"⟩, 7) := ⟨⟨by decide +kernel, by decide +kernel⟩, List.mem_of_getElem? (i := 29) (by decide +kernel), List.mem_of_getElem? (i := 421) (by decide +kernel), List.mem_of_getElem? (i := 422) (by decide +kernel)⟩
theorem lw_p15 : lw_okq (⟨"BeforeThird", "refuseNo", "()I"⟩, 13) := ⟨⟨by decide +kernel, by decide +kernel⟩, List.mem_of_getElem? (i := 21) (by decide +kernel), List.mem_of_getElem? (i := 482) (by decide +kernel), List.mem_of_getElem? (i := 483) (by decide +kernel)⟩
def lw_privs_1 : List (MethodName × Nat) := [(⟨"BeforeThird", "refuseBad", "(I)I"⟩, 13), (⟨"BeforeThird", "refuseFull", "()I"⟩, 13), (⟨"BeforeThird$Reader", "takeToken", "()V"⟩, 7), (⟨"BeforeThird$Reader", "skipRun", "(II)V"⟩, 7), (⟨"BeforeThird$Reader", "byteAt", "(I)I"⟩, 7), (⟨"BeforeThird$Reader", "takeItem", "(Z)Z"⟩, 7), (⟨"BeforeThird$Reader", "spells", "(Ljava/lang/String;)Z"⟩, 7), (⟨"BeforeThird$Reader", "takeAccount", "()Z"⟩, 7), (⟨"BeforeThird$Reader", "takeNumber", "(II)Z"⟩, 7), (⟨"BeforeThird$Reader", "takeStop", "()Z"⟩, 7), (⟨"BeforeThird$Reader", "takeBill", "()Z"⟩, 7), (⟨"BeforeThird$Reader", "takeFigure", "(II)Z"⟩, 7), (⟨"BeforeThird", "passDay", "()V"⟩, 13), (⟨"BeforeThird", "drawnToday", "()I"⟩, 13), (⟨"BeforeThird$Book", "billPart", "(II)I"⟩, 7), (⟨"BeforeThird", "refuseNo", "()I"⟩, 13)]
theorem lw_r1 : ∀ q ∈ lw_privs_1, lw_okq q := List.forall_mem_cons.mpr ⟨lw_p0, List.forall_mem_cons.mpr ⟨lw_p1, List.forall_mem_cons.mpr ⟨lw_p2, List.forall_mem_cons.mpr ⟨lw_p3, List.forall_mem_cons.mpr ⟨lw_p4, List.forall_mem_cons.mpr ⟨lw_p5, List.forall_mem_cons.mpr ⟨lw_p6, List.forall_mem_cons.mpr ⟨lw_p7, List.forall_mem_cons.mpr ⟨lw_p8, List.forall_mem_cons.mpr ⟨lw_p9, List.forall_mem_cons.mpr ⟨lw_p10, List.forall_mem_cons.mpr ⟨lw_p11, List.forall_mem_cons.mpr ⟨lw_p12, List.forall_mem_cons.mpr ⟨lw_p13, List.forall_mem_cons.mpr ⟨lw_p14, List.forall_mem_cons.mpr ⟨lw_p15, fun _ h => absurd h List.not_mem_nil⟩⟩⟩⟩⟩⟩⟩⟩⟩⟩⟩⟩⟩⟩⟩⟩
theorem lw_p16 : lw_okq (⟨"BeforeThird", "isBillNumber", "(I)Z"⟩, 13) := ⟨⟨by decide +kernel, by decide +kernel⟩, List.mem_of_getElem? (i := 21) (by decide +kernel), List.mem_of_getElem? (i := 498) (by decide +kernel), List.mem_of_getElem? (i := 499) (by decide +kernel)⟩
theorem lw_p17 : lw_okq (⟨"BeforeThird", "foresee", "(I)V"⟩, 13) := ⟨⟨by decide +kernel, by decide +kernel⟩, List.mem_of_getElem? (i := 21) (by decide +kernel), List.mem_of_getElem? (i := 515) (by decide +kernel), List.mem_of_getElem? (i := 516) (by decide +kernel)⟩
theorem lw_p18 : lw_okq (⟨"BeforeThird", "chargesAsLaid", "()I"⟩, 13) := ⟨⟨by decide +kernel, by decide +kernel⟩, List.mem_of_getElem? (i := 21) (by decide +kernel), List.mem_of_getElem? (i := 578) (by decide +kernel), List.mem_of_getElem? (i := 579) (by decide +kernel)⟩
theorem lw_p19 : lw_okq (⟨"BeforeThird", "kindsThatFit", "(I)I"⟩, 13) := ⟨⟨by decide +kernel, by decide +kernel⟩, List.mem_of_getElem? (i := 21) (by decide +kernel), List.mem_of_getElem? (i := 607) (by decide +kernel), List.mem_of_getElem? (i := 608) (by decide +kernel)⟩
theorem lw_p20 : lw_okq (⟨"BeforeThird", "fitsNotes", "(LBeforeThird$Plain;I)Z"⟩, 13) := ⟨⟨by decide +kernel, by decide +kernel⟩, List.mem_of_getElem? (i := 21) (by decide +kernel), List.mem_of_getElem? (i := 611) (by decide +kernel), List.mem_of_getElem? (i := 612) (by decide +kernel)⟩
theorem lw_p21 : lw_okq (⟨"BeforeThird", "fitsNote", "(LBeforeThird$Plain;II)Z"⟩, 13) := ⟨⟨by decide +kernel, by decide +kernel⟩, List.mem_of_getElem? (i := 21) (by decide +kernel), List.mem_of_getElem? (i := 619) (by decide +kernel), List.mem_of_getElem? (i := 620) (by decide +kernel)⟩
theorem lw_p22 : lw_okq (⟨"BeforeThird", "mostAlike", "(III)I"⟩, 13) := ⟨⟨by decide +kernel, by decide +kernel⟩, List.mem_of_getElem? (i := 21) (by decide +kernel), List.mem_of_getElem? (i := 627) (by decide +kernel), List.mem_of_getElem? (i := 628) (by decide +kernel)⟩
theorem lw_p23 : lw_okq (⟨"BeforeThird", "alikeTo", "(LBeforeThird$Plain;III)I"⟩, 13) := ⟨⟨by decide +kernel, by decide +kernel⟩, List.mem_of_getElem? (i := 21) (by decide +kernel), List.mem_of_getElem? (i := 634) (by decide +kernel), List.mem_of_getElem? (i := 635) (by decide +kernel)⟩
theorem lw_p24 : lw_okq (⟨"BeforeThird", "layChargesByExtra", "(I)V"⟩, 13) := ⟨⟨by decide +kernel, by decide +kernel⟩, List.mem_of_getElem? (i := 21) (by decide +kernel), List.mem_of_getElem? (i := 643) (by decide +kernel), List.mem_of_getElem? (i := 644) (by decide +kernel)⟩
theorem lw_p25 : lw_okq (⟨"BeforeThird", "isBestAgainst", "(II)Z"⟩, 13) := ⟨⟨by decide +kernel, by decide +kernel⟩, List.mem_of_getElem? (i := 21) (by decide +kernel), List.mem_of_getElem? (i := 647) (by decide +kernel), List.mem_of_getElem? (i := 648) (by decide +kernel)⟩
theorem lw_p26 : lw_okq (⟨"BeforeThird", "gainOf", "(II)I"⟩, 13) := ⟨⟨by decide +kernel, by decide +kernel⟩, List.mem_of_getElem? (i := 21) (by decide +kernel), List.mem_of_getElem? (i := 651) (by decide +kernel), List.mem_of_getElem? (i := 652) (by decide +kernel)⟩
theorem lw_p27 : lw_okq (⟨"BeforeThird", "setTenths", "(I)V"⟩, 13) := ⟨⟨by decide +kernel, by decide +kernel⟩, List.mem_of_getElem? (i := 21) (by decide +kernel), List.mem_of_getElem? (i := 659) (by decide +kernel), List.mem_of_getElem? (i := 660) (by decide +kernel)⟩
theorem lw_p28 : lw_okq (⟨"BeforeThird", "imageAt", "(I)LBeforeThird$Book;"⟩, 13) := ⟨⟨by decide +kernel, by decide +kernel⟩, List.mem_of_getElem? (i := 21) (by decide +kernel), List.mem_of_getElem? (i := 685) (by decide +kernel), List.mem_of_getElem? (i := 686) (by decide +kernel)⟩
theorem lw_p29 : lw_okq (⟨"BeforeThirdModel", "bad", "()I"⟩, 16) := ⟨⟨by decide +kernel, by decide +kernel⟩, List.mem_of_getElem? (i := 709) (by decide +kernel), List.mem_of_getElem? (i := 774) (by decide +kernel), List.mem_of_getElem? (i := 775) (by decide +kernel)⟩
theorem lw_p30 : lw_okq (⟨"BeforeThirdModel", "full", "()I"⟩, 16) := ⟨⟨by decide +kernel, by decide +kernel⟩, List.mem_of_getElem? (i := 709) (by decide +kernel), List.mem_of_getElem? (i := 782) (by decide +kernel), List.mem_of_getElem? (i := 783) (by decide +kernel)⟩
theorem lw_p31 : lw_okq (⟨"BeforeThirdModel", "isRead", "()Z"⟩, 16) := ⟨⟨by decide +kernel, by decide +kernel⟩, List.mem_of_getElem? (i := 709) (by decide +kernel), List.mem_of_getElem? (i := 801) (by decide +kernel), List.mem_of_getElem? (i := 802) (by decide +kernel)⟩
def lw_privs_2 : List (MethodName × Nat) := [(⟨"BeforeThird", "isBillNumber", "(I)Z"⟩, 13), (⟨"BeforeThird", "foresee", "(I)V"⟩, 13), (⟨"BeforeThird", "chargesAsLaid", "()I"⟩, 13), (⟨"BeforeThird", "kindsThatFit", "(I)I"⟩, 13), (⟨"BeforeThird", "fitsNotes", "(LBeforeThird$Plain;I)Z"⟩, 13), (⟨"BeforeThird", "fitsNote", "(LBeforeThird$Plain;II)Z"⟩, 13), (⟨"BeforeThird", "mostAlike", "(III)I"⟩, 13), (⟨"BeforeThird", "alikeTo", "(LBeforeThird$Plain;III)I"⟩, 13), (⟨"BeforeThird", "layChargesByExtra", "(I)V"⟩, 13), (⟨"BeforeThird", "isBestAgainst", "(II)Z"⟩, 13), (⟨"BeforeThird", "gainOf", "(II)I"⟩, 13), (⟨"BeforeThird", "setTenths", "(I)V"⟩, 13), (⟨"BeforeThird", "imageAt", "(I)LBeforeThird$Book;"⟩, 13), (⟨"BeforeThirdModel", "bad", "()I"⟩, 16), (⟨"BeforeThirdModel", "full", "()I"⟩, 16), (⟨"BeforeThirdModel", "isRead", "()Z"⟩, 16)]
theorem lw_r2 : ∀ q ∈ lw_privs_2, lw_okq q := List.forall_mem_cons.mpr ⟨lw_p16, List.forall_mem_cons.mpr ⟨lw_p17, List.forall_mem_cons.mpr ⟨lw_p18, List.forall_mem_cons.mpr ⟨lw_p19, List.forall_mem_cons.mpr ⟨lw_p20, List.forall_mem_cons.mpr ⟨lw_p21, List.forall_mem_cons.mpr ⟨lw_p22, List.forall_mem_cons.mpr ⟨lw_p23, List.forall_mem_cons.mpr ⟨lw_p24, List.forall_mem_cons.mpr ⟨lw_p25, List.forall_mem_cons.mpr ⟨lw_p26, List.forall_mem_cons.mpr ⟨lw_p27, List.forall_mem_cons.mpr ⟨lw_p28, List.forall_mem_cons.mpr ⟨lw_p29, List.forall_mem_cons.mpr ⟨lw_p30, List.forall_mem_cons.mpr ⟨lw_p31, fun _ h => absurd h List.not_mem_nil⟩⟩⟩⟩⟩⟩⟩⟩⟩⟩⟩⟩⟩⟩⟩⟩
theorem lw_p32 : lw_okq (⟨"BeforeThirdModel", "nextToken", "()V"⟩, 16) := ⟨⟨by decide +kernel, by decide +kernel⟩, List.mem_of_getElem? (i := 709) (by decide +kernel), List.mem_of_getElem? (i := 805) (by decide +kernel), List.mem_of_getElem? (i := 806) (by decide +kernel)⟩
theorem lw_p33 : lw_okq (⟨"BeforeThirdModel", "kindAt", "(I)I"⟩, 16) := ⟨⟨by decide +kernel, by decide +kernel⟩, List.mem_of_getElem? (i := 709) (by decide +kernel), List.mem_of_getElem? (i := 809) (by decide +kernel), List.mem_of_getElem? (i := 810) (by decide +kernel)⟩
theorem lw_p34 : lw_okq (⟨"BeforeThirdModel", "isItem", "()Z"⟩, 16) := ⟨⟨by decide +kernel, by decide +kernel⟩, List.mem_of_getElem? (i := 709) (by decide +kernel), List.mem_of_getElem? (i := 815) (by decide +kernel), List.mem_of_getElem? (i := 816) (by decide +kernel)⟩
theorem lw_p35 : lw_okq (⟨"BeforeThirdModel", "isOne", "(III)Z"⟩, 16) := ⟨⟨by decide +kernel, by decide +kernel⟩, List.mem_of_getElem? (i := 709) (by decide +kernel), List.mem_of_getElem? (i := 820) (by decide +kernel), List.mem_of_getElem? (i := 821) (by decide +kernel)⟩
theorem lw_p36 : lw_okq (⟨"BeforeThirdModel", "isNumber", "(II)Z"⟩, 16) := ⟨⟨by decide +kernel, by decide +kernel⟩, List.mem_of_getElem? (i := 709) (by decide +kernel), List.mem_of_getElem? (i := 824) (by decide +kernel), List.mem_of_getElem? (i := 825) (by decide +kernel)⟩
theorem lw_p37 : lw_okq (⟨"BeforeThirdModel", "isBillItem", "()Z"⟩, 16) := ⟨⟨by decide +kernel, by decide +kernel⟩, List.mem_of_getElem? (i := 709) (by decide +kernel), List.mem_of_getElem? (i := 829) (by decide +kernel), List.mem_of_getElem? (i := 830) (by decide +kernel)⟩
theorem lw_p38 : lw_okq (⟨"BeforeThirdModel", "keepBack", "()V"⟩, 16) := ⟨⟨by decide +kernel, by decide +kernel⟩, List.mem_of_getElem? (i := 709) (by decide +kernel), List.mem_of_getElem? (i := 842) (by decide +kernel), List.mem_of_getElem? (i := 843) (by decide +kernel)⟩
theorem lw_p39 : lw_okq (⟨"BeforeThirdModel", "no", "()I"⟩, 16) := ⟨⟨by decide +kernel, by decide +kernel⟩, List.mem_of_getElem? (i := 709) (by decide +kernel), List.mem_of_getElem? (i := 866) (by decide +kernel), List.mem_of_getElem? (i := 867) (by decide +kernel)⟩
theorem lw_p40 : lw_okq (⟨"BeforeThirdModel", "isBill", "(I)Z"⟩, 16) := ⟨⟨by decide +kernel, by decide +kernel⟩, List.mem_of_getElem? (i := 709) (by decide +kernel), List.mem_of_getElem? (i := 878) (by decide +kernel), List.mem_of_getElem? (i := 879) (by decide +kernel)⟩
theorem lw_p41 : lw_okq (⟨"BeforeThirdModel", "badBy", "(I)I"⟩, 16) := ⟨⟨by decide +kernel, by decide +kernel⟩, List.mem_of_getElem? (i := 709) (by decide +kernel), List.mem_of_getElem? (i := 882) (by decide +kernel), List.mem_of_getElem? (i := 883) (by decide +kernel)⟩
theorem lw_p42 : lw_okq (⟨"BeforeThirdModel", "copyNow", "()V"⟩, 16) := ⟨⟨by decide +kernel, by decide +kernel⟩, List.mem_of_getElem? (i := 709) (by decide +kernel), List.mem_of_getElem? (i := 899) (by decide +kernel), List.mem_of_getElem? (i := 900) (by decide +kernel)⟩
theorem lw_p43 : lw_okq (⟨"BeforeThirdModel", "chargesOn", "(II)I"⟩, 16) := ⟨⟨by decide +kernel, by decide +kernel⟩, List.mem_of_getElem? (i := 709) (by decide +kernel), List.mem_of_getElem? (i := 903) (by decide +kernel), List.mem_of_getElem? (i := 904) (by decide +kernel)⟩
theorem lw_p44 : lw_okq (⟨"BeforeThirdModel", "belowIn", "(II)I"⟩, 16) := ⟨⟨by decide +kernel, by decide +kernel⟩, List.mem_of_getElem? (i := 709) (by decide +kernel), List.mem_of_getElem? (i := 915) (by decide +kernel), List.mem_of_getElem? (i := 916) (by decide +kernel)⟩
theorem lw_p45 : lw_okq (⟨"BeforeThirdModel", "kindsOf", "(I)I"⟩, 16) := ⟨⟨by decide +kernel, by decide +kernel⟩, List.mem_of_getElem? (i := 709) (by decide +kernel), List.mem_of_getElem? (i := 951) (by decide +kernel), List.mem_of_getElem? (i := 952) (by decide +kernel)⟩
theorem lw_p46 : lw_okq (⟨"BeforeThirdModel", "alikeBy", "(IIII)I"⟩, 16) := ⟨⟨by decide +kernel, by decide +kernel⟩, List.mem_of_getElem? (i := 709) (by decide +kernel), List.mem_of_getElem? (i := 959) (by decide +kernel), List.mem_of_getElem? (i := 960) (by decide +kernel)⟩
theorem lw_p47 : lw_okq (⟨"BeforeThirdModel", "rests", "(III)Z"⟩, 16) := ⟨⟨by decide +kernel, by decide +kernel⟩, List.mem_of_getElem? (i := 709) (by decide +kernel), List.mem_of_getElem? (i := 967) (by decide +kernel), List.mem_of_getElem? (i := 968) (by decide +kernel)⟩
def lw_privs_3 : List (MethodName × Nat) := [(⟨"BeforeThirdModel", "nextToken", "()V"⟩, 16), (⟨"BeforeThirdModel", "kindAt", "(I)I"⟩, 16), (⟨"BeforeThirdModel", "isItem", "()Z"⟩, 16), (⟨"BeforeThirdModel", "isOne", "(III)Z"⟩, 16), (⟨"BeforeThirdModel", "isNumber", "(II)Z"⟩, 16), (⟨"BeforeThirdModel", "isBillItem", "()Z"⟩, 16), (⟨"BeforeThirdModel", "keepBack", "()V"⟩, 16), (⟨"BeforeThirdModel", "no", "()I"⟩, 16), (⟨"BeforeThirdModel", "isBill", "(I)Z"⟩, 16), (⟨"BeforeThirdModel", "badBy", "(I)I"⟩, 16), (⟨"BeforeThirdModel", "copyNow", "()V"⟩, 16), (⟨"BeforeThirdModel", "chargesOn", "(II)I"⟩, 16), (⟨"BeforeThirdModel", "belowIn", "(II)I"⟩, 16), (⟨"BeforeThirdModel", "kindsOf", "(I)I"⟩, 16), (⟨"BeforeThirdModel", "alikeBy", "(IIII)I"⟩, 16), (⟨"BeforeThirdModel", "rests", "(III)Z"⟩, 16)]
theorem lw_r3 : ∀ q ∈ lw_privs_3, lw_okq q := List.forall_mem_cons.mpr ⟨lw_p32, List.forall_mem_cons.mpr ⟨lw_p33, List.forall_mem_cons.mpr ⟨lw_p34, List.forall_mem_cons.mpr ⟨lw_p35, List.forall_mem_cons.mpr ⟨lw_p36, List.forall_mem_cons.mpr ⟨lw_p37, List.forall_mem_cons.mpr ⟨lw_p38, List.forall_mem_cons.mpr ⟨lw_p39, List.forall_mem_cons.mpr ⟨lw_p40, List.forall_mem_cons.mpr ⟨lw_p41, List.forall_mem_cons.mpr ⟨lw_p42, List.forall_mem_cons.mpr ⟨lw_p43, List.forall_mem_cons.mpr ⟨lw_p44, List.forall_mem_cons.mpr ⟨lw_p45, List.forall_mem_cons.mpr ⟨lw_p46, List.forall_mem_cons.mpr ⟨lw_p47, fun _ h => absurd h List.not_mem_nil⟩⟩⟩⟩⟩⟩⟩⟩⟩⟩⟩⟩⟩⟩⟩⟩
theorem lw_p48 : lw_okq (⟨"BeforeThirdModel", "gets", "(III)I"⟩, 16) := ⟨⟨by decide +kernel, by decide +kernel⟩, List.mem_of_getElem? (i := 709) (by decide +kernel), List.mem_of_getElem? (i := 971) (by decide +kernel), List.mem_of_getElem? (i := 972) (by decide +kernel)⟩
theorem lw_p49 : lw_okq (⟨"BeforeThirdModel", "counted", "(I)I"⟩, 16) := ⟨⟨by decide +kernel, by decide +kernel⟩, List.mem_of_getElem? (i := 709) (by decide +kernel), List.mem_of_getElem? (i := 1010) (by decide +kernel), List.mem_of_getElem? (i := 1011) (by decide +kernel)⟩
def lw_privs_4 : List (MethodName × Nat) := [(⟨"BeforeThirdModel", "gets", "(III)I"⟩, 16), (⟨"BeforeThirdModel", "counted", "(I)I"⟩, 16)]
theorem lw_r4 : ∀ q ∈ lw_privs_4, lw_okq q := List.forall_mem_cons.mpr ⟨lw_p48, List.forall_mem_cons.mpr ⟨lw_p49, fun _ h => absurd h List.not_mem_nil⟩⟩
def lw_privs : List (MethodName × Nat) := lw_privs_1 ++ (lw_privs_2 ++ (lw_privs_3 ++ (lw_privs_4)))
def lw_tbl : List Cond := k2_sels lw_privs ++ tables_1
theorem lw_privs_ok : ∀ q ∈ lw_privs, lw_okq q := by
  show ∀ q ∈ lw_privs_1 ++ (lw_privs_2 ++ (lw_privs_3 ++ (lw_privs_4))), lw_okq q
  exact List.forall_mem_append.mpr ⟨lw_r1, List.forall_mem_append.mpr ⟨lw_r2, List.forall_mem_append.mpr ⟨lw_r3, lw_r4⟩⟩⟩
def RX0 : String := "BeforeThird$Book"
def TX0 : u_T := fun k => match k with
  | 0 => ("BeforeThird$Book", "figures", "[I", true)
  | 1 => ("BeforeThird$Book", "bills", "[I", true)
  | 2 => ("BeforeThird$Book", "notes", "[I", true)
  | 3 => ("BeforeThird$Book", "past", "[I", true)
  | 4 => ("BeforeThird$Book", "billCount", "I", false)
  | 5 => ("BeforeThird$Book", "noteCount", "I", false)
  | _ => ("BeforeThird$Book", "pastCount", "I", false)
def tyX0 : Nat → FieldType := fun k => match k with
  | 0 => .array .int
  | 1 => .array .int
  | 2 => .array .int
  | 3 => .array .int
  | 4 => .int
  | 5 => .int
  | _ => .int
abbrev wsX00 : List Cond := u_ws RX0 TX0 7
theorem nmX0 : ∀ a, a < 7 → ∀ b, b < 7 → a ≠ b → (TX0 a).2.1 ≠ (TX0 b).2.1 := by decide +kernel
theorem tyX0_ok : ∀ k, k < 7 → parseFieldDescriptor (TX0 k).2.2.1 = some (tyX0 k) := by decide +kernel
abbrev cX0_init : ByteArray := prog_2_method_1_code
def yX0_init : MethodName := ⟨RX0, "<init>", "()V"⟩
abbrev cX0_beginWith : ByteArray := prog_2_method_2_code
def yX0_beginWith : MethodName := ⟨RX0, "beginWith", "(I)V"⟩
abbrev cX0_addBill : ByteArray := prog_2_method_3_code
def yX0_addBill : MethodName := ⟨RX0, "addBill", "(III)V"⟩
abbrev cX0_kindAt : ByteArray := prog_2_method_4_code
def yX0_kindAt : MethodName := ⟨RX0, "kindAt", "(I)I"⟩
abbrev cX0_dayAt : ByteArray := prog_2_method_5_code
def yX0_dayAt : MethodName := ⟨RX0, "dayAt", "(I)I"⟩
abbrev cX0_poundsAt : ByteArray := prog_2_method_6_code
def yX0_poundsAt : MethodName := ⟨RX0, "poundsAt", "(I)I"⟩
abbrev cX0_billPart : ByteArray := prog_2_method_7_code
def yX0_billPart : MethodName := ⟨RX0, "billPart", "(II)I"⟩
abbrev cX0_addNote : ByteArray := prog_2_method_8_code
def yX0_addNote : MethodName := ⟨RX0, "addNote", "(IIIII)V"⟩
abbrev cX0_notePart : ByteArray := prog_2_method_9_code
def yX0_notePart : MethodName := ⟨RX0, "notePart", "(II)I"⟩
abbrev cX0_keepPast : ByteArray := prog_2_method_10_code
def yX0_keepPast : MethodName := ⟨RX0, "keepPast", "()V"⟩
abbrev cX0_stepBack : ByteArray := prog_2_method_11_code
def yX0_stepBack : MethodName := ⟨RX0, "stepBack", "()V"⟩
abbrev cX0_copyFrom : ByteArray := prog_2_method_12_code
def yX0_copyFrom : MethodName := ⟨RX0, "copyFrom", "(LBeforeThird$Book;)V"⟩
def RX1 : String := "BeforeThird$Card"
def TX1 : u_T := fun k => match k with
  | _ => ("", "", "", false)
def tyX1 : Nat → FieldType := fun k => match k with
  | _ => .int
abbrev wsX10 : List Cond := u_ws RX1 TX1 0
theorem nmX1 : ∀ a, a < 0 → ∀ b, b < 0 → a ≠ b → (TX1 a).2.1 ≠ (TX1 b).2.1 := by decide +kernel
theorem tyX1_ok : ∀ k, k < 0 → parseFieldDescriptor (TX1 k).2.2.1 = some (tyX1 k) := by decide +kernel
abbrev cX1_init : ByteArray := prog_3_method_1_code
def yX1_init : MethodName := ⟨RX1, "<init>", "()V"⟩
abbrev cX1_drawnOn : ByteArray := prog_3_method_2_code
def yX1_drawnOn : MethodName := ⟨RX1, "drawnOn", "(I)I"⟩
def RX2 : String := "BeforeThird$Kinds"
def TX2 : u_T := fun k => match k with
  | 0 => ("BeforeThird$Kinds", "plain", "LBeforeThird$Plain;", true)
  | 1 => ("BeforeThird$Kinds", "moved", "LBeforeThird$Moved;", true)
  | 2 => ("BeforeThird$Kinds", "quarter", "LBeforeThird$Quarter;", true)
  | 3 => ("BeforeThird$Kinds", "card", "LBeforeThird$Card;", true)
  | 4 => ("BeforeThird$Kinds", "yearly", "LBeforeThird$Yearly;", true)
  | _ => ("BeforeThird$Kinds", "pay", "LBeforeThird$Pay;", true)
def tyX2 : Nat → FieldType := fun k => match k with
  | 0 => .object "BeforeThird$Plain"
  | 1 => .object "BeforeThird$Moved"
  | 2 => .object "BeforeThird$Quarter"
  | 3 => .object "BeforeThird$Card"
  | 4 => .object "BeforeThird$Yearly"
  | _ => .object "BeforeThird$Pay"
abbrev wsX20 : List Cond := u_ws RX2 TX2 6
theorem nmX2 : ∀ a, a < 6 → ∀ b, b < 6 → a ≠ b → (TX2 a).2.1 ≠ (TX2 b).2.1 := by decide +kernel
theorem tyX2_ok : ∀ k, k < 6 → parseFieldDescriptor (TX2 k).2.2.1 = some (tyX2 k) := by decide +kernel
abbrev cX2_init : ByteArray := prog_4_method_1_code
def yX2_init : MethodName := ⟨RX2, "<init>", "()V"⟩
abbrev cX2_numbered : ByteArray := prog_4_method_2_code
def yX2_numbered : MethodName := ⟨RX2, "numbered", "(I)LBeforeThird$Plain;"⟩
def RX3 : String := "BeforeThird$Moved"
def TX3 : u_T := fun k => match k with
  | _ => ("", "", "", false)
def tyX3 : Nat → FieldType := fun k => match k with
  | _ => .int
abbrev wsX30 : List Cond := u_ws RX3 TX3 0
theorem nmX3 : ∀ a, a < 0 → ∀ b, b < 0 → a ≠ b → (TX3 a).2.1 ≠ (TX3 b).2.1 := by decide +kernel
theorem tyX3_ok : ∀ k, k < 0 → parseFieldDescriptor (TX3 k).2.2.1 = some (tyX3 k) := by decide +kernel
abbrev cX3_init : ByteArray := prog_5_method_1_code
def yX3_init : MethodName := ⟨RX3, "<init>", "()V"⟩
abbrev cX3_drawnOn : ByteArray := prog_5_method_2_code
def yX3_drawnOn : MethodName := ⟨RX3, "drawnOn", "(I)I"⟩
def RX4 : String := "BeforeThird$Outlook"
def TX4 : u_T := fun k => match k with
  | 0 => ("BeforeThird$Outlook", "kinds", "LBeforeThird$Kinds;", true)
  | 1 => ("BeforeThird$Outlook", "draws", "[I", true)
  | 2 => ("BeforeThird$Outlook", "length", "I", false)
  | 3 => ("BeforeThird$Outlook", "left", "I", false)
  | 4 => ("BeforeThird$Outlook", "charges", "I", false)
  | 5 => ("BeforeThird$Outlook", "least", "I", false)
  | 6 => ("BeforeThird$Outlook", "leastIn", "I", false)
  | _ => ("BeforeThird$Outlook", "belowIn", "I", false)
def tyX4 : Nat → FieldType := fun k => match k with
  | 0 => .object "BeforeThird$Kinds"
  | 1 => .array .int
  | 2 => .int
  | 3 => .int
  | 4 => .int
  | 5 => .int
  | 6 => .int
  | _ => .int
abbrev wsX40 : List Cond := u_ws RX4 TX4 8
theorem nmX4 : ∀ a, a < 8 → ∀ b, b < 8 → a ≠ b → (TX4 a).2.1 ≠ (TX4 b).2.1 := by decide +kernel
theorem tyX4_ok : ∀ k, k < 8 → parseFieldDescriptor (TX4 k).2.2.1 = some (tyX4 k) := by decide +kernel
abbrev cX4_init : ByteArray := prog_6_method_1_code
def yX4_init : MethodName := ⟨RX4, "<init>", "()V"⟩
abbrev cX4_lay : ByteArray := prog_6_method_2_code
def yX4_lay : MethodName := ⟨RX4, "lay", "(LBeforeThird$Book;I)V"⟩
abbrev cX4_put : ByteArray := prog_6_method_3_code
def yX4_put : MethodName := ⟨RX4, "put", "(LBeforeThird$Book;III)V"⟩
abbrev cX4_drawMore : ByteArray := prog_6_method_4_code
def yX4_drawMore : MethodName := ⟨RX4, "drawMore", "(II)V"⟩
abbrev cX4_run : ByteArray := prog_6_method_5_code
def yX4_run : MethodName := ⟨RX4, "run", "(II)V"⟩
abbrev cX4_mostSpending : ByteArray := prog_6_method_6_code
def yX4_mostSpending : MethodName := ⟨RX4, "mostSpending", "(I)I"⟩
abbrev cX4_leastMore : ByteArray := prog_6_method_7_code
def yX4_leastMore : MethodName := ⟨RX4, "leastMore", "(II)I"⟩
def RX5 : String := "BeforeThird$Pay"
def TX5 : u_T := fun k => match k with
  | _ => ("", "", "", false)
def tyX5 : Nat → FieldType := fun k => match k with
  | _ => .int
abbrev wsX50 : List Cond := u_ws RX5 TX5 0
theorem nmX5 : ∀ a, a < 0 → ∀ b, b < 0 → a ≠ b → (TX5 a).2.1 ≠ (TX5 b).2.1 := by decide +kernel
theorem tyX5_ok : ∀ k, k < 0 → parseFieldDescriptor (TX5 k).2.2.1 = some (tyX5 k) := by decide +kernel
abbrev cX5_init : ByteArray := prog_7_method_1_code
def yX5_init : MethodName := ⟨RX5, "<init>", "()V"⟩
abbrev cX5_poundsIn : ByteArray := prog_7_method_2_code
def yX5_poundsIn : MethodName := ⟨RX5, "poundsIn", "(II)I"⟩
def RX6 : String := "BeforeThird$Plain"
def TX6 : u_T := fun k => match k with
  | _ => ("", "", "", false)
def tyX6 : Nat → FieldType := fun k => match k with
  | _ => .int
abbrev wsX60 : List Cond := u_ws RX6 TX6 0
theorem nmX6 : ∀ a, a < 0 → ∀ b, b < 0 → a ≠ b → (TX6 a).2.1 ≠ (TX6 b).2.1 := by decide +kernel
theorem tyX6_ok : ∀ k, k < 0 → parseFieldDescriptor (TX6 k).2.2.1 = some (tyX6 k) := by decide +kernel
abbrev cX6_init : ByteArray := prog_8_method_1_code
def yX6_init : MethodName := ⟨RX6, "<init>", "()V"⟩
abbrev cX6_drawnOn : ByteArray := prog_8_method_2_code
def yX6_drawnOn : MethodName := ⟨RX6, "drawnOn", "(I)I"⟩
abbrev cX6_poundsIn : ByteArray := prog_8_method_3_code
def yX6_poundsIn : MethodName := ⟨RX6, "poundsIn", "(II)I"⟩
def RX7 : String := "BeforeThird$Quarter"
def TX7 : u_T := fun k => match k with
  | _ => ("", "", "", false)
def tyX7 : Nat → FieldType := fun k => match k with
  | _ => .int
abbrev wsX70 : List Cond := u_ws RX7 TX7 0
theorem nmX7 : ∀ a, a < 0 → ∀ b, b < 0 → a ≠ b → (TX7 a).2.1 ≠ (TX7 b).2.1 := by decide +kernel
theorem tyX7_ok : ∀ k, k < 0 → parseFieldDescriptor (TX7 k).2.2.1 = some (tyX7 k) := by decide +kernel
abbrev cX7_init : ByteArray := prog_9_method_1_code
def yX7_init : MethodName := ⟨RX7, "<init>", "()V"⟩
abbrev cX7_poundsIn : ByteArray := prog_9_method_2_code
def yX7_poundsIn : MethodName := ⟨RX7, "poundsIn", "(II)I"⟩
def RX8 : String := "BeforeThird$Reader"
def TX8 : u_T := fun k => match k with
  | 0 => ("BeforeThird$Reader", "text", "[B", true)
  | 1 => ("BeforeThird$Reader", "draft", "LBeforeThird$Book;", true)
  | 2 => ("BeforeThird$Reader", "length", "I", false)
  | 3 => ("BeforeThird$Reader", "start", "I", false)
  | 4 => ("BeforeThird$Reader", "next", "I", false)
  | 5 => ("BeforeThird$Reader", "sort", "I", false)
  | _ => ("BeforeThird$Reader", "value", "I", false)
def tyX8 : Nat → FieldType := fun k => match k with
  | 0 => .array .byte
  | 1 => .object "BeforeThird$Book"
  | 2 => .int
  | 3 => .int
  | 4 => .int
  | 5 => .int
  | _ => .int
abbrev wsX80 : List Cond := u_ws RX8 TX8 7
theorem nmX8 : ∀ a, a < 7 → ∀ b, b < 7 → a ≠ b → (TX8 a).2.1 ≠ (TX8 b).2.1 := by decide +kernel
theorem tyX8_ok : ∀ k, k < 7 → parseFieldDescriptor (TX8 k).2.2.1 = some (tyX8 k) := by decide +kernel
abbrev cX8_init : ByteArray := prog_10_method_1_code
def yX8_init : MethodName := ⟨RX8, "<init>", "()V"⟩
abbrev cX8_addByte : ByteArray := prog_10_method_2_code
def yX8_addByte : MethodName := ⟨RX8, "addByte", "(I)V"⟩
abbrev cX8_itemsOrFault : ByteArray := prog_10_method_3_code
def yX8_itemsOrFault : MethodName := ⟨RX8, "itemsOrFault", "()I"⟩
abbrev cX8_takeItem : ByteArray := prog_10_method_4_code
def yX8_takeItem : MethodName := ⟨RX8, "takeItem", "(Z)Z"⟩
abbrev cX8_takeAccount : ByteArray := prog_10_method_5_code
def yX8_takeAccount : MethodName := ⟨RX8, "takeAccount", "()Z"⟩
abbrev cX8_takeBill : ByteArray := prog_10_method_6_code
def yX8_takeBill : MethodName := ⟨RX8, "takeBill", "()Z"⟩
abbrev cX8_takeFigure : ByteArray := prog_10_method_7_code
def yX8_takeFigure : MethodName := ⟨RX8, "takeFigure", "(II)Z"⟩
abbrev cX8_takeNumber : ByteArray := prog_10_method_8_code
def yX8_takeNumber : MethodName := ⟨RX8, "takeNumber", "(II)Z"⟩
abbrev cX8_takeStop : ByteArray := prog_10_method_9_code
def yX8_takeStop : MethodName := ⟨RX8, "takeStop", "()Z"⟩
abbrev cX8_spells : ByteArray := prog_10_method_10_code
def yX8_spells : MethodName := ⟨RX8, "spells", "(Ljava/lang/String;)Z"⟩
abbrev cX8_takeToken : ByteArray := prog_10_method_11_code
def yX8_takeToken : MethodName := ⟨RX8, "takeToken", "()V"⟩
abbrev cX8_skipRun : ByteArray := prog_10_method_12_code
def yX8_skipRun : MethodName := ⟨RX8, "skipRun", "(II)V"⟩
abbrev cX8_byteAt : ByteArray := prog_10_method_13_code
def yX8_byteAt : MethodName := ⟨RX8, "byteAt", "(I)I"⟩
def RX9 : String := "BeforeThird$Yearly"
def TX9 : u_T := fun k => match k with
  | _ => ("", "", "", false)
def tyX9 : Nat → FieldType := fun k => match k with
  | _ => .int
abbrev wsX90 : List Cond := u_ws RX9 TX9 0
theorem nmX9 : ∀ a, a < 0 → ∀ b, b < 0 → a ≠ b → (TX9 a).2.1 ≠ (TX9 b).2.1 := by decide +kernel
theorem tyX9_ok : ∀ k, k < 0 → parseFieldDescriptor (TX9 k).2.2.1 = some (tyX9 k) := by decide +kernel
abbrev cX9_init : ByteArray := prog_11_method_1_code
def yX9_init : MethodName := ⟨RX9, "<init>", "()V"⟩
abbrev cX9_poundsIn : ByteArray := prog_11_method_2_code
def yX9_poundsIn : MethodName := ⟨RX9, "poundsIn", "(II)I"⟩
def RX10 : String := "BeforeThird"
def TX10 : u_T := fun k => match k with
  | 0 => ("BeforeThird", "book", "LBeforeThird$Book;", true)
  | 1 => ("BeforeThird", "imageZero", "LBeforeThird$Book;", true)
  | 2 => ("BeforeThird", "imageOne", "LBeforeThird$Book;", true)
  | 3 => ("BeforeThird", "kept", "[Z", true)
  | 4 => ("BeforeThird", "reader", "LBeforeThird$Reader;", true)
  | 5 => ("BeforeThird", "outlook", "LBeforeThird$Outlook;", true)
  | 6 => ("BeforeThird", "kinds", "LBeforeThird$Kinds;", true)
  | 7 => ("BeforeThird", "chargesByExtra", "[I", true)
  | 8 => ("BeforeThird", "fractionAbove", "J", false)
  | 9 => ("BeforeThird", "fractionBelow", "J", false)
  | 10 => ("BeforeThird", "badCalls", "I", false)
  | 11 => ("BeforeThird", "noCalls", "I", false)
  | _ => ("BeforeThird", "fullCalls", "I", false)
def tyX10 : Nat → FieldType := fun k => match k with
  | 0 => .object "BeforeThird$Book"
  | 1 => .object "BeforeThird$Book"
  | 2 => .object "BeforeThird$Book"
  | 3 => .array .boolean
  | 4 => .object "BeforeThird$Reader"
  | 5 => .object "BeforeThird$Outlook"
  | 6 => .object "BeforeThird$Kinds"
  | 7 => .array .int
  | 8 => .long
  | 9 => .long
  | 10 => .int
  | 11 => .int
  | _ => .int
abbrev wsX100 : List Cond := u_ws RX10 TX10 13
theorem nmX10 : ∀ a, a < 13 → ∀ b, b < 13 → a ≠ b → (TX10 a).2.1 ≠ (TX10 b).2.1 := by decide +kernel
theorem tyX10_ok : ∀ k, k < 13 → parseFieldDescriptor (TX10 k).2.2.1 = some (tyX10 k) := by decide +kernel
abbrev cX10_init : ByteArray := prog_1_method_1_code
def yX10_init : MethodName := ⟨RX10, "<init>", "()V"⟩
abbrev cX10_account : ByteArray := prog_1_method_2_code
def yX10_account : MethodName := ⟨RX10, "account", "(I)I"⟩
abbrev cX10_bill : ByteArray := prog_1_method_3_code
def yX10_bill : MethodName := ⟨RX10, "bill", "(III)I"⟩
abbrev cX10_type : ByteArray := prog_1_method_4_code
def yX10_type : MethodName := ⟨RX10, "type", "(I)I"⟩
abbrev cX10_clear : ByteArray := prog_1_method_5_code
def yX10_clear : MethodName := ⟨RX10, "clear", "()I"⟩
abbrev cX10_read : ByteArray := prog_1_method_6_code
def yX10_read : MethodName := ⟨RX10, "read", "()I"⟩
abbrev cX10_days : ByteArray := prog_1_method_7_code
def yX10_days : MethodName := ⟨RX10, "days", "(I)I"⟩
abbrev cX10_spend : ByteArray := prog_1_method_8_code
def yX10_spend : MethodName := ⟨RX10, "spend", "(I)I"⟩
abbrev cX10_jar : ByteArray := prog_1_method_9_code
def yX10_jar : MethodName := ⟨RX10, "jar", "(I)I"⟩
abbrev cX10_undo : ByteArray := prog_1_method_10_code
def yX10_undo : MethodName := ⟨RX10, "undo", "()I"⟩
abbrev cX10_of : ByteArray := prog_1_method_11_code
def yX10_of : MethodName := ⟨RX10, "of", "(II)I"⟩
abbrev cX10_now : ByteArray := prog_1_method_12_code
def yX10_now : MethodName := ⟨RX10, "now", "(I)I"⟩
abbrev cX10_truly : ByteArray := prog_1_method_13_code
def yX10_truly : MethodName := ⟨RX10, "truly", "()I"⟩
abbrev cX10_then : ByteArray := prog_1_method_14_code
def yX10_then : MethodName := ⟨RX10, "then", "(II)I"⟩
abbrev cX10_low : ByteArray := prog_1_method_15_code
def yX10_low : MethodName := ⟨RX10, "low", "(II)I"⟩
abbrev cX10_below : ByteArray := prog_1_method_16_code
def yX10_below : MethodName := ⟨RX10, "below", "()I"⟩
abbrev cX10_most : ByteArray := prog_1_method_17_code
def yX10_most : MethodName := ⟨RX10, "most", "(I)I"⟩
abbrev cX10_need : ByteArray := prog_1_method_18_code
def yX10_need : MethodName := ⟨RX10, "need", "(I)I"⟩
abbrev cX10_move : ByteArray := prog_1_method_19_code
def yX10_move : MethodName := ⟨RX10, "move", "()I"⟩
abbrev cX10_monthly : ByteArray := prog_1_method_20_code
def yX10_monthly : MethodName := ⟨RX10, "monthly", "(I)I"⟩
abbrev cX10_dear : ByteArray := prog_1_method_21_code
def yX10_dear : MethodName := ⟨RX10, "dear", "()I"⟩
abbrev cX10_note : ByteArray := prog_1_method_22_code
def yX10_note : MethodName := ⟨RX10, "note", "(IIIII)I"⟩
abbrev cX10_forget : ByteArray := prog_1_method_23_code
def yX10_forget : MethodName := ⟨RX10, "forget", "()I"⟩
abbrev cX10_is : ByteArray := prog_1_method_24_code
def yX10_is : MethodName := ⟨RX10, "is", "(I)I"⟩
abbrev cX10_look : ByteArray := prog_1_method_25_code
def yX10_look : MethodName := ⟨RX10, "look", "(I)I"⟩
abbrev cX10_two : ByteArray := prog_1_method_26_code
def yX10_two : MethodName := ⟨RX10, "two", "(II)I"⟩
abbrev cX10_boiler : ByteArray := prog_1_method_27_code
def yX10_boiler : MethodName := ⟨RX10, "boiler", "(III)I"⟩
abbrev cX10_years : ByteArray := prog_1_method_28_code
def yX10_years : MethodName := ⟨RX10, "years", "(II)I"⟩
abbrev cX10_part : ByteArray := prog_1_method_29_code
def yX10_part : MethodName := ⟨RX10, "part", "(I)J"⟩
abbrev cX10_image : ByteArray := prog_1_method_30_code
def yX10_image : MethodName := ⟨RX10, "image", "(I)I"⟩
abbrev cX10_from : ByteArray := prog_1_method_31_code
def yX10_from : MethodName := ⟨RX10, "from", "(I)I"⟩
abbrev cX10_status : ByteArray := prog_1_method_32_code
def yX10_status : MethodName := ⟨RX10, "status", "(I)I"⟩
abbrev cX10_count : ByteArray := prog_1_method_33_code
def yX10_count : MethodName := ⟨RX10, "count", "(I)I"⟩
abbrev cX10_digest : ByteArray := prog_1_method_34_code
def yX10_digest : MethodName := ⟨RX10, "digest", "()J"⟩
abbrev cX10_digestOf : ByteArray := prog_1_method_35_code
def yX10_digestOf : MethodName := ⟨RX10, "digestOf", "(J[II)J"⟩
abbrev cX10_within : ByteArray := prog_1_method_36_code
def yX10_within : MethodName := ⟨RX10, "within", "(III)Z"⟩
abbrev cX10_isBill : ByteArray := prog_1_method_37_code
def yX10_isBill : MethodName := ⟨RX10, "isBill", "(III)Z"⟩
abbrev cX10_isBillNumber : ByteArray := prog_1_method_38_code
def yX10_isBillNumber : MethodName := ⟨RX10, "isBillNumber", "(I)Z"⟩
abbrev cX10_refuseBad : ByteArray := prog_1_method_39_code
def yX10_refuseBad : MethodName := ⟨RX10, "refuseBad", "(I)I"⟩
abbrev cX10_refuseNo : ByteArray := prog_1_method_40_code
def yX10_refuseNo : MethodName := ⟨RX10, "refuseNo", "()I"⟩
abbrev cX10_refuseFull : ByteArray := prog_1_method_41_code
def yX10_refuseFull : MethodName := ⟨RX10, "refuseFull", "()I"⟩
abbrev cX10_imageAt : ByteArray := prog_1_method_42_code
def yX10_imageAt : MethodName := ⟨RX10, "imageAt", "(I)LBeforeThird$Book;"⟩
abbrev cX10_passDay : ByteArray := prog_1_method_43_code
def yX10_passDay : MethodName := ⟨RX10, "passDay", "()V"⟩
abbrev cX10_drawnToday : ByteArray := prog_1_method_44_code
def yX10_drawnToday : MethodName := ⟨RX10, "drawnToday", "()I"⟩
abbrev cX10_foresee : ByteArray := prog_1_method_45_code
def yX10_foresee : MethodName := ⟨RX10, "foresee", "(I)V"⟩
abbrev cX10_chargesAsLaid : ByteArray := prog_1_method_46_code
def yX10_chargesAsLaid : MethodName := ⟨RX10, "chargesAsLaid", "()I"⟩
abbrev cX10_kindsThatFit : ByteArray := prog_1_method_47_code
def yX10_kindsThatFit : MethodName := ⟨RX10, "kindsThatFit", "(I)I"⟩
abbrev cX10_fitsNotes : ByteArray := prog_1_method_48_code
def yX10_fitsNotes : MethodName := ⟨RX10, "fitsNotes", "(LBeforeThird$Plain;I)Z"⟩
abbrev cX10_fitsNote : ByteArray := prog_1_method_49_code
def yX10_fitsNote : MethodName := ⟨RX10, "fitsNote", "(LBeforeThird$Plain;II)Z"⟩
abbrev cX10_mostAlike : ByteArray := prog_1_method_50_code
def yX10_mostAlike : MethodName := ⟨RX10, "mostAlike", "(III)I"⟩
abbrev cX10_alikeTo : ByteArray := prog_1_method_51_code
def yX10_alikeTo : MethodName := ⟨RX10, "alikeTo", "(LBeforeThird$Plain;III)I"⟩
abbrev cX10_hasBit : ByteArray := prog_1_method_52_code
def yX10_hasBit : MethodName := ⟨RX10, "hasBit", "(II)Z"⟩
abbrev cX10_layChargesByExtra : ByteArray := prog_1_method_53_code
def yX10_layChargesByExtra : MethodName := ⟨RX10, "layChargesByExtra", "(I)V"⟩
abbrev cX10_isBestAgainst : ByteArray := prog_1_method_54_code
def yX10_isBestAgainst : MethodName := ⟨RX10, "isBestAgainst", "(II)Z"⟩
abbrev cX10_gainOf : ByteArray := prog_1_method_55_code
def yX10_gainOf : MethodName := ⟨RX10, "gainOf", "(II)I"⟩
abbrev cX10_setTenths : ByteArray := prog_1_method_56_code
def yX10_setTenths : MethodName := ⟨RX10, "setTenths", "(I)V"⟩
def RX11 : String := "BeforeThirdModel"
def TX11 : u_T := fun k => match k with
  | 0 => ("BeforeThirdModel", "now", "[I", true)
  | 1 => ("BeforeThirdModel", "tried", "[I", true)
  | 2 => ("BeforeThirdModel", "read", "[I", true)
  | 3 => ("BeforeThirdModel", "image", "[I", true)
  | 4 => ("BeforeThirdModel", "isKept", "[Z", true)
  | 5 => ("BeforeThirdModel", "refused", "[I", true)
  | 6 => ("BeforeThirdModel", "upper", "J", false)
  | 7 => ("BeforeThirdModel", "lower", "J", false)
  | 8 => ("BeforeThirdModel", "letters", "I", false)
  | 9 => ("BeforeThirdModel", "text", "[I", true)
  | 10 => ("BeforeThirdModel", "position", "I", false)
  | 11 => ("BeforeThirdModel", "tokenAt", "I", false)
  | 12 => ("BeforeThirdModel", "token", "I", false)
  | 13 => ("BeforeThirdModel", "number", "I", false)
  | 14 => ("BeforeThirdModel", "word", "J", false)
  | _ => ("BeforeThirdModel", "items", "I", false)
def tyX11 : Nat → FieldType := fun k => match k with
  | 0 => .array .int
  | 1 => .array .int
  | 2 => .array .int
  | 3 => .array .int
  | 4 => .array .boolean
  | 5 => .array .int
  | 6 => .long
  | 7 => .long
  | 8 => .int
  | 9 => .array .int
  | 10 => .int
  | 11 => .int
  | 12 => .int
  | 13 => .int
  | 14 => .long
  | _ => .int
abbrev wsX110 : List Cond := u_ws RX11 TX11 16
theorem nmX11 : ∀ a, a < 16 → ∀ b, b < 16 → a ≠ b → (TX11 a).2.1 ≠ (TX11 b).2.1 := by decide +kernel
theorem tyX11_ok : ∀ k, k < 16 → parseFieldDescriptor (TX11 k).2.2.1 = some (tyX11 k) := by decide +kernel
abbrev cX11_init : ByteArray := prog_13_method_1_code
def yX11_init : MethodName := ⟨RX11, "<init>", "()V"⟩
abbrev cX11_begin : ByteArray := prog_13_method_2_code
def yX11_begin : MethodName := ⟨RX11, "begin", "([I)V"⟩
abbrev cX11_in : ByteArray := prog_13_method_3_code
def yX11_in : MethodName := ⟨RX11, "in", "(III)Z"⟩
abbrev cX11_bad : ByteArray := prog_13_method_5_code
def yX11_bad : MethodName := ⟨RX11, "bad", "()I"⟩
abbrev cX11_badBy : ByteArray := prog_13_method_6_code
def yX11_badBy : MethodName := ⟨RX11, "badBy", "(I)I"⟩
abbrev cX11_no : ByteArray := prog_13_method_7_code
def yX11_no : MethodName := ⟨RX11, "no", "()I"⟩
abbrev cX11_full : ByteArray := prog_13_method_8_code
def yX11_full : MethodName := ⟨RX11, "full", "()I"⟩
abbrev cX11_isBill : ByteArray := prog_13_method_9_code
def yX11_isBill : MethodName := ⟨RX11, "isBill", "(I)Z"⟩
abbrev cX11_bring : ByteArray := prog_13_method_10_code
def yX11_bring : MethodName := ⟨RX11, "bring", "([II[III)V"⟩
abbrev cX11_account : ByteArray := prog_13_method_11_code
def yX11_account : MethodName := ⟨RX11, "account", "(I)I"⟩
abbrev cX11_addBill : ByteArray := prog_13_method_12_code
def yX11_addBill : MethodName := ⟨RX11, "addBill", "([IIII)I"⟩
abbrev cX11_bill : ByteArray := prog_13_method_13_code
def yX11_bill : MethodName := ⟨RX11, "bill", "(III)I"⟩
abbrev cX11_type : ByteArray := prog_13_method_14_code
def yX11_type : MethodName := ⟨RX11, "type", "(I)I"⟩
abbrev cX11_clear : ByteArray := prog_13_method_15_code
def yX11_clear : MethodName := ⟨RX11, "clear", "()I"⟩
abbrev cX11_kindAt : ByteArray := prog_13_method_16_code
def yX11_kindAt : MethodName := ⟨RX11, "kindAt", "(I)I"⟩
abbrev cX11_nextToken : ByteArray := prog_13_method_17_code
def yX11_nextToken : MethodName := ⟨RX11, "nextToken", "()V"⟩
abbrev cX11_isNumber : ByteArray := prog_13_method_18_code
def yX11_isNumber : MethodName := ⟨RX11, "isNumber", "(II)Z"⟩
abbrev cX11_isBillItem : ByteArray := prog_13_method_19_code
def yX11_isBillItem : MethodName := ⟨RX11, "isBillItem", "()Z"⟩
abbrev cX11_isOne : ByteArray := prog_13_method_20_code
def yX11_isOne : MethodName := ⟨RX11, "isOne", "(III)Z"⟩
abbrev cX11_isItem : ByteArray := prog_13_method_21_code
def yX11_isItem : MethodName := ⟨RX11, "isItem", "()Z"⟩
abbrev cX11_isRead : ByteArray := prog_13_method_22_code
def yX11_isRead : MethodName := ⟨RX11, "isRead", "()Z"⟩
abbrev cX11_read : ByteArray := prog_13_method_23_code
def yX11_read : MethodName := ⟨RX11, "read", "()I"⟩
abbrev cX11_dayBy : ByteArray := prog_13_method_24_code
def yX11_dayBy : MethodName := ⟨RX11, "dayBy", "(II)I"⟩
abbrev cX11_poundsBy : ByteArray := prog_13_method_25_code
def yX11_poundsBy : MethodName := ⟨RX11, "poundsBy", "(III)I"⟩
abbrev cX11_drawn : ByteArray := prog_13_method_26_code
def yX11_drawn : MethodName := ⟨RX11, "drawn", "([II)I"⟩
abbrev cX11_goBy : ByteArray := prog_13_method_27_code
def yX11_goBy : MethodName := ⟨RX11, "goBy", "([II)V"⟩
abbrev cX11_keepBack : ByteArray := prog_13_method_28_code
def yX11_keepBack : MethodName := ⟨RX11, "keepBack", "()V"⟩
abbrev cX11_days : ByteArray := prog_13_method_29_code
def yX11_days : MethodName := ⟨RX11, "days", "(I)I"⟩
abbrev cX11_spend : ByteArray := prog_13_method_30_code
def yX11_spend : MethodName := ⟨RX11, "spend", "(I)I"⟩
abbrev cX11_jar : ByteArray := prog_13_method_31_code
def yX11_jar : MethodName := ⟨RX11, "jar", "(I)I"⟩
abbrev cX11_undo : ByteArray := prog_13_method_32_code
def yX11_undo : MethodName := ⟨RX11, "undo", "()I"⟩
abbrev cX11_of : ByteArray := prog_13_method_33_code
def yX11_of : MethodName := ⟨RX11, "of", "(II)I"⟩
abbrev cX11_now : ByteArray := prog_13_method_34_code
def yX11_now : MethodName := ⟨RX11, "now", "(I)I"⟩
abbrev cX11_truly : ByteArray := prog_13_method_35_code
def yX11_truly : MethodName := ⟨RX11, "truly", "()I"⟩
abbrev cX11_copyNow : ByteArray := prog_13_method_36_code
def yX11_copyNow : MethodName := ⟨RX11, "copyNow", "()V"⟩
abbrev cX11_chargesOn : ByteArray := prog_13_method_37_code
def yX11_chargesOn : MethodName := ⟨RX11, "chargesOn", "(II)I"⟩
abbrev cX11_then : ByteArray := prog_13_method_38_code
def yX11_then : MethodName := ⟨RX11, "then", "(II)I"⟩
abbrev cX11_low : ByteArray := prog_13_method_39_code
def yX11_low : MethodName := ⟨RX11, "low", "(II)I"⟩
abbrev cX11_belowIn : ByteArray := prog_13_method_40_code
def yX11_belowIn : MethodName := ⟨RX11, "belowIn", "(II)I"⟩
abbrev cX11_below : ByteArray := prog_13_method_41_code
def yX11_below : MethodName := ⟨RX11, "below", "()I"⟩
abbrev cX11_most : ByteArray := prog_13_method_42_code
def yX11_most : MethodName := ⟨RX11, "most", "(I)I"⟩
abbrev cX11_need : ByteArray := prog_13_method_43_code
def yX11_need : MethodName := ⟨RX11, "need", "(I)I"⟩
abbrev cX11_move : ByteArray := prog_13_method_44_code
def yX11_move : MethodName := ⟨RX11, "move", "()I"⟩
abbrev cX11_monthly : ByteArray := prog_13_method_45_code
def yX11_monthly : MethodName := ⟨RX11, "monthly", "(I)I"⟩
abbrev cX11_dear : ByteArray := prog_13_method_46_code
def yX11_dear : MethodName := ⟨RX11, "dear", "()I"⟩
abbrev cX11_note : ByteArray := prog_13_method_47_code
def yX11_note : MethodName := ⟨RX11, "note", "(IIIII)I"⟩
abbrev cX11_forget : ByteArray := prog_13_method_48_code
def yX11_forget : MethodName := ⟨RX11, "forget", "()I"⟩
abbrev cX11_kindsOf : ByteArray := prog_13_method_49_code
def yX11_kindsOf : MethodName := ⟨RX11, "kindsOf", "(I)I"⟩
abbrev cX11_is : ByteArray := prog_13_method_50_code
def yX11_is : MethodName := ⟨RX11, "is", "(I)I"⟩
abbrev cX11_alikeBy : ByteArray := prog_13_method_51_code
def yX11_alikeBy : MethodName := ⟨RX11, "alikeBy", "(IIII)I"⟩
abbrev cX11_look : ByteArray := prog_13_method_52_code
def yX11_look : MethodName := ⟨RX11, "look", "(I)I"⟩
abbrev cX11_gets : ByteArray := prog_13_method_53_code
def yX11_gets : MethodName := ⟨RX11, "gets", "(III)I"⟩
abbrev cX11_rests : ByteArray := prog_13_method_54_code
def yX11_rests : MethodName := ⟨RX11, "rests", "(III)Z"⟩
abbrev cX11_two : ByteArray := prog_13_method_55_code
def yX11_two : MethodName := ⟨RX11, "two", "(II)I"⟩
abbrev cX11_boiler : ByteArray := prog_13_method_56_code
def yX11_boiler : MethodName := ⟨RX11, "boiler", "(III)I"⟩
abbrev cX11_years : ByteArray := prog_13_method_57_code
def yX11_years : MethodName := ⟨RX11, "years", "(II)I"⟩
abbrev cX11_part : ByteArray := prog_13_method_58_code
def yX11_part : MethodName := ⟨RX11, "part", "(I)J"⟩
abbrev cX11_image : ByteArray := prog_13_method_59_code
def yX11_image : MethodName := ⟨RX11, "image", "(I)I"⟩
abbrev cX11_from : ByteArray := prog_13_method_60_code
def yX11_from : MethodName := ⟨RX11, "from", "(I)I"⟩
abbrev cX11_status : ByteArray := prog_13_method_61_code
def yX11_status : MethodName := ⟨RX11, "status", "(I)I"⟩
abbrev cX11_counted : ByteArray := prog_13_method_62_code
def yX11_counted : MethodName := ⟨RX11, "counted", "(I)I"⟩
abbrev cX11_count : ByteArray := prog_13_method_63_code
def yX11_count : MethodName := ⟨RX11, "count", "(I)I"⟩
abbrev cX11_digest : ByteArray := prog_13_method_64_code
def yX11_digest : MethodName := ⟨RX11, "digest", "()J"⟩
def RJ9 : String := "java/lang/Math"
abbrev cJ9_floorDiv_7cf53 : ByteArray := prog_14_method_47_code
def yJ9_floorDiv_7cf53 : MethodName := ⟨RJ9, "floorDiv", "(II)I"⟩
abbrev cJ9_floorMod_7cf53 : ByteArray := prog_14_method_50_code
def yJ9_floorMod_7cf53 : MethodName := ⟨RJ9, "floorMod", "(II)I"⟩
abbrev cJ9_max_7cf53 : ByteArray := prog_14_method_65_code
def yJ9_max_7cf53 : MethodName := ⟨RJ9, "max", "(II)I"⟩
abbrev cJ9_min_7cf53 : ByteArray := prog_14_method_69_code
def yJ9_min_7cf53 : MethodName := ⟨RJ9, "min", "(II)I"⟩
def RJ0 : String := "java/lang/String"
abbrev cJ0_length_8abf5 : ByteArray := prog_15_method_54_code
def yJ0_length_8abf5 : MethodName := ⟨RJ0, "length", "()I"⟩
abbrev cJ0_charAt_5068e : ByteArray := prog_15_method_56_code
def yJ0_charAt_5068e : MethodName := ⟨RJ0, "charAt", "(I)C"⟩
abbrev cJ0_coder_7d493 : ByteArray := prog_15_method_152_code
def yJ0_coder_7d493 : MethodName := ⟨RJ0, "coder", "()B"⟩
abbrev cJ0_isLatin1_aae02 : ByteArray := prog_15_method_154_code
def yJ0_isLatin1_aae02 : MethodName := ⟨RJ0, "isLatin1", "()Z"⟩
abbrev cJ0_checkIndex_df160 : ByteArray := prog_15_method_155_code
def yJ0_checkIndex_df160 : MethodName := ⟨RJ0, "checkIndex", "(II)V"⟩
def RJ1 : String := "java/lang/StringLatin1"
abbrev cJ1_charAt_3b067 : ByteArray := prog_16_method_2_code
def yJ1_charAt_3b067 : MethodName := ⟨RJ1, "charAt", "([BI)C"⟩
def RJ2 : String := "java/lang/StringUTF16"
abbrev cJ2_getChar_3b067 : ByteArray := prog_17_method_5_code
def yJ2_getChar_3b067 : MethodName := ⟨RJ2, "getChar", "([BI)C"⟩
abbrev cJ2_length_9d52b : ByteArray := prog_17_method_6_code
def yJ2_length_9d52b : MethodName := ⟨RJ2, "length", "([B)I"⟩
abbrev cJ2_charAt_3b067 : ByteArray := prog_17_method_83_code
def yJ2_charAt_3b067 : MethodName := ⟨RJ2, "charAt", "([BI)C"⟩
abbrev cJ2_checkIndex_2214a : ByteArray := prog_17_method_91_code
def yJ2_checkIndex_2214a : MethodName := ⟨RJ2, "checkIndex", "(I[B)V"⟩
def RJ10 : String := "java/lang/System"
def RJ7 : String := "java/util/Arrays"
abbrev cJ7_fill_53178 : ByteArray := prog_19_method_103_code
def yJ7_fill_53178 : MethodName := ⟨RJ7, "fill", "([II)V"⟩
def RJ3 : String := "jdk/internal/util/Preconditions"
abbrev cJ3_checkIndex_8e157 : ByteArray := prog_20_method_11_code
def yJ3_checkIndex_8e157 : MethodName := ⟨RJ3, "checkIndex", "(IILjava/util/function/BiFunction;)I"⟩
def RL : String := "BeforeThirdLaw"
abbrev cL_law : ByteArray := code
abbrev classes : List vw_C := [(RX0, TX0, 7), (RX1, TX1, 0), (RX2, TX2, 6), (RX3, TX3, 0), (RX4, TX4, 8), (RX5, TX5, 0), (RX6, TX6, 0), (RX7, TX7, 0), (RX8, TX8, 7), (RX9, TX9, 0), (RX10, TX10, 13), (RX11, TX11, 16)]
def yL_law : MethodName := ⟨RL, "law", "([I)Z"⟩
