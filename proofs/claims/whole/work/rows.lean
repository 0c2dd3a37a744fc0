section
-- ===== PART A: goes FIRST, ahead of the names: the tables' words, and 'selects' of the private methods out of them =====
/-- a private method of a class that the tables say can be made, by its rows of tables_1 -/
def lw_okq (q : MethodName × Nat) : Prop := (q.1.cls ≠ "java/lang/invoke/MethodHandle" ∧ q.1.cls ≠ "java/lang/invoke/VarHandle") ∧ Cond.instantiable q.1.cls q.2 ∈ tables_1 ∧ Cond.privateMethod q.1 ∈ tables_1 ∧ Cond.instanceMethod q.1 ∈ tables_1
theorem lw_p0 : lw_okq (⟨"BeforeThird", "refuseBad", "(I)I"⟩, 13) := ⟨⟨by decide +kernel, by decide +kernel⟩, List.mem_of_getElem? (i := 21) (by decide +kernel), List.mem_of_getElem? (i := 253) (by decide +kernel), List.mem_of_getElem? (i := 254) (by decide +kernel)⟩
theorem lw_p1 : lw_okq (⟨"BeforeThird", "refuseFull", "()I"⟩, 13) := ⟨⟨by decide +kernel, by decide +kernel⟩, List.mem_of_getElem? (i := 21) (by decide +kernel), List.mem_of_getElem? (i := 271) (by decide +kernel), List.mem_of_getElem? (i := 272) (by decide +kernel)⟩
theorem lw_p2 : lw_okq (⟨"BeforeThird$Reader", "takeToken", "()V"⟩, 7) := ⟨⟨by decide +kernel, by decide +kernel⟩, List.mem_of_getElem? (i := 68) (by decide +kernel), List.mem_of_getElem? (i := 300) (by decide +kernel), List.mem_of_getElem? (i := 301) (by decide +kernel)⟩
theorem lw_p3 : lw_okq (⟨"BeforeThird$Reader", "skipRun", "(II)V"⟩, 7) := ⟨⟨by decide +kernel, by decide +kernel⟩, List.mem_of_getElem? (i := 68) (by decide +kernel), List.mem_of_getElem? (i := 304) (by decide +kernel), List.mem_of_getElem? (i := 305) (by decide +kernel)⟩
theorem lw_p4 : lw_okq (⟨"BeforeThird$Reader", "byteAt", "(I)I"⟩, 7) := ⟨⟨by decide +kernel, by decide +kernel⟩, List.mem_of_getElem? (i := 68) (by decide +kernel), List.mem_of_getElem? (i := 308) (by decide +kernel), List.mem_of_getElem? (i := 309) (by decide +kernel)⟩
theorem lw_p5 : lw_okq (⟨"BeforeThird$Reader", "takeItem", "(Z)Z"⟩, 7) := ⟨⟨by decide +kernel, by decide +kernel⟩, List.mem_of_getElem? (i := 68) (by decide +kernel), List.mem_of_getElem? (i := 313) (by decide +kernel), List.mem_of_getElem? (i := 314) (by decide +kernel)⟩
theorem lw_p6 : lw_okq (⟨"BeforeThird$Reader", "spells", "(Ljava/lang/String;)Z"⟩, 7) := ⟨⟨by decide +kernel, by decide +kernel⟩, List.mem_of_getElem? (i := 68) (by decide +kernel), List.mem_of_getElem? (i := 318) (by decide +kernel), List.mem_of_getElem? (i := 319) (by decide +kernel)⟩
theorem lw_p7 : lw_okq (⟨"BeforeThird$Reader", "takeAccount", "()Z"⟩, 7) := ⟨⟨by decide +kernel, by decide +kernel⟩, List.mem_of_getElem? (i := 68) (by decide +kernel), List.mem_of_getElem? (i := 370) (by decide +kernel), List.mem_of_getElem? (i := 371) (by decide +kernel)⟩
theorem lw_p8 : lw_okq (⟨"BeforeThird$Reader", "takeNumber", "(II)Z"⟩, 7) := ⟨⟨by decide +kernel, by decide +kernel⟩, List.mem_of_getElem? (i := 68) (by decide +kernel), List.mem_of_getElem? (i := 374) (by decide +kernel), List.mem_of_getElem? (i := 375) (by decide +kernel)⟩
theorem lw_p9 : lw_okq (⟨"BeforeThird$Reader", "takeStop", "()Z"⟩, 7) := ⟨⟨by decide +kernel, by decide +kernel⟩, List.mem_of_getElem? (i := 68) (by decide +kernel), List.mem_of_getElem? (i := 378) (by decide +kernel), List.mem_of_getElem? (i := 379) (by decide +kernel)⟩
theorem lw_p10 : lw_okq (⟨"BeforeThird$Reader", "takeBill", "()Z"⟩, 7) := ⟨⟨by decide +kernel, by decide +kernel⟩, List.mem_of_getElem? (i := 68) (by decide +kernel), List.mem_of_getElem? (i := 383) (by decide +kernel), List.mem_of_getElem? (i := 384) (by decide +kernel)⟩
theorem lw_p11 : lw_okq (⟨"BeforeThird$Reader", "takeFigure", "(II)Z"⟩, 7) := ⟨⟨by decide +kernel, by decide +kernel⟩, List.mem_of_getElem? (i := 68) (by decide +kernel), List.mem_of_getElem? (i := 389) (by decide +kernel), List.mem_of_getElem? (i := 390) (by decide +kernel)⟩
theorem lw_p12 : lw_okq (⟨"BeforeThird", "passDay", "()V"⟩, 13) := ⟨⟨by decide +kernel, by decide +kernel⟩, List.mem_of_getElem? (i := 21) (by decide +kernel), List.mem_of_getElem? (i := 409) (by decide +kernel), List.mem_of_getElem? (i := 410) (by decide +kernel)⟩
theorem lw_p13 : lw_okq (⟨"BeforeThird", "drawnToday", "()I"⟩, 13) := ⟨⟨by decide +kernel, by decide +kernel⟩, List.mem_of_getElem? (i := 21) (by decide +kernel), List.mem_of_getElem? (i := 413) (by decide +kernel), List.mem_of_getElem? (i := 414) (by decide +kernel)⟩
theorem lw_p14 : lw_okq (⟨"BeforeThird$Book", "billPart", "(II)I"⟩, 7) := ⟨⟨by decide +kernel, by decide +kernel⟩, List.mem_of_getElem? (i := 29) (by decide +kernel), List.mem_of_getElem? (i := 421) (by decide +kernel), List.mem_of_getElem? (i := 422) (by decide +kernel)⟩
theorem lw_p15 : lw_okq (⟨"BeforeThird", "refuseNo", "()I"⟩, 13) := ⟨⟨by decide +kernel, by decide +kernel⟩, List.mem_of_getElem? (i := 21) (by decide +kernel), List.mem_of_getElem? (i := 482) (by decide +kernel), List.mem_of_getElem? (i := 483) (by decide +kernel)⟩
def lw_privs_1 : List (MethodName × Nat) := [(⟨"BeforeThird", "refuseBad", "(I)I"⟩, 13), (⟨"BeforeThird", "refuseFull", "()I"⟩, 13), (⟨"BeforeThird$Reader", "takeToken", "()V"⟩, 7), (⟨"BeforeThird$Reader", "skipRun", "(II)V"⟩, 7), (⟨"BeforeThird$Reader", "byteAt", "(I)I"⟩, 7), (⟨"BeforeThird$Reader", "takeItem", "(Z)Z"⟩, 7), (⟨"BeforeThird$Reader", "spells", "(Ljava/lang/String;)Z"⟩, 7), (⟨"BeforeThird$Reader", "takeAccount", "()Z"⟩, 7), (⟨"BeforeThird$Reader", "takeNumber", "(II)Z"⟩, 7), (⟨"BeforeThird$Reader", "takeStop", "()Z"⟩, 7), (⟨"BeforeThird$Reader", "takeBill", "()Z"⟩, 7), (⟨"BeforeThird$Reader", "takeFigure", "(II)Z"⟩, 7), (⟨"BeforeThird", "passDay", "()V"⟩, 13), (⟨"BeforeThird", "drawnToday", "()I"⟩, 13), (⟨"BeforeThird$Book", "billPart", "(II)I"⟩, 7), (⟨"BeforeThird", "refuseNo", "()I"⟩, 13)]
theorem lw_r1 : ∀ q ∈ lw_privs_1, lw_okq q := List.forall_mem_cons.mpr ⟨lw_p0, List.forall_mem_cons.mpr ⟨lw_p1, List.forall_mem_cons.mpr ⟨lw_p2, List.forall_mem_cons.mpr ⟨lw_p3, List.forall_mem_cons.mpr ⟨lw_p4, List.forall_mem_cons.mpr ⟨lw_p5, List.forall_mem_cons.mpr ⟨lw_p6, List.forall_mem_cons.mpr ⟨lw_p7, List.forall_mem_cons.mpr ⟨lw_p8, List.forall_mem_cons.mpr ⟨lw_p9, List.forall_mem_cons.mpr ⟨lw_p10, List.forall_mem_cons.mpr ⟨lw_p11, List.forall_mem_cons.mpr ⟨lw_p12, List.forall_mem_cons.mpr ⟨lw_p13, List.forall_mem_cons.mpr ⟨lw_p14, List.forall_mem_cons.mpr ⟨lw_p15, fun _ h => absurd h List.not_mem_nil⟩⟩⟩⟩⟩⟩⟩⟩⟩⟩⟩⟩⟩⟩⟩⟩
theorem lw_p16 : lw_okq (⟨"BeforeThird", "isBillNumber", "(I)Z"⟩, 13) := ⟨⟨by decide +kernel, by decide +kernel⟩, List.mem_of_getElem? (i := 21) (by decide +kernel), List.mem_of_getElem? (i := 498) (by decide +kernel), List.mem_of_getElem? (i := 499) (by decide +kernel)⟩
theorem lw_p17 : lw_okq (⟨"BeforeThird", "foresee", "(I)V"⟩, 13) := ⟨⟨by decide +kernel, by decide +kernel⟩, List.mem_of_getElem? (i := 21) (by decide +kernel), List.mem_of_getElem? (i := 515) (by decide +kernel), List.mem_of_getElem? (i := 516) (by decide +kernel)⟩
theorem lw_p18 : lw_okq (⟨"BeforeThird", "chargesAsLaid", "()I"⟩, 13) := ⟨⟨by decide +kernel, by decide +kernel⟩, List.mem_of_getElem? (i := 21) (by decide +kernel), List.mem_of_getElem? (i := 578) (by decide +kernel), List.mem_of_getElem? (i := 579) (by decide +kernel)⟩
theorem lw_p19 : lw_okq (⟨"BeforeThird", "kindsThatFit", "(I)I"⟩, 13) := ⟨⟨by decide +kernel, by decide +kernel⟩, List.mem_of_getElem? (i := 21) (by decide +kernel), List.mem_of_getElem? (i := 607) (by decide +kernel), List.mem_of_getElem? (i := 608) (by decide +kernel)⟩
theorem lw_p20 : lw_okq (⟨"BeforeThird", "fitsNotes", "(LBeforeThird$Plain;I)Z"⟩, 13) := ⟨⟨by decide +kernel, by decide +kernel⟩, List.mem_of_getElem? (i := 21) (by decide +kernel), List.mem_of_getElem? (i := 611) (by decide +kernel), List.mem_of_getElem? (i := 612) (by decide +kernel)⟩
theorem lw_p21 : lw_okq (⟨"BeforeThird", "fitsNote", "(LBeforeThird$Plain;II)Z"⟩, 13) := ⟨⟨by decide +kernel, by decide +kernel⟩, List.mem_of_getElem? (i := 21) (by decide +kernel), List.mem_of_getElem? (i := 619) (by decide +kernel), List.mem_of_getElem? (i := 620) (by decide +kernel)⟩
theorem lw_p22 : lw_okq (⟨"BeforeThird", "mostAlike", "(III)I"⟩, 13) := ⟨⟨by decide +kernel, by decide +kernel⟩, List.mem_of_getElem? (i := 21) (by decide +kernel), List.mem_of_getElem? (i := 627) (by decide +kernel), List.mem_of_getElem? (i := 628) (by decide +kernel)⟩
theorem lw_p23 : lw_okq (⟨"BeforeThird", "alikeTo", "(LBeforeThird$Plain;III)I"⟩, 13) := ⟨⟨by decide +kernel, by decide +kernel⟩, List.mem_of_getElem? (i := 21) (by decide +kernel), List.mem_of_getElem? (i := 634) (by decide +kernel), List.mem_of_getElem? (i := 635) (by decide +kernel)⟩
theorem lw_p24 : lw_okq (⟨"BeforeThird", "layChargesByExtra", "(I)V"⟩, 13) := ⟨⟨by decide +kernel, by decide +kernel⟩, List.mem_of_getElem? (i := 21) (by decide +kernel), List.mem_of_getElem? (i := 643) (by decide +kernel), List.mem_of_getElem? (i := 644) (by decide +kernel)⟩
theorem lw_p25 : lw_okq (⟨"BeforeThird", "isBestAgainst", "(II)Z"⟩, 13) := ⟨⟨by decide +kernel, by decide +kernel⟩, List.mem_of_getElem? (i := 21) (by decide +kernel), List.mem_of_getElem? (i := 647) (by decide +kernel), List.mem_of_getElem? (i := 648) (by decide +kernel)⟩
theorem lw_p26 : lw_okq (⟨"BeforeThird", "gainOf", "(II)I"⟩, 13) := ⟨⟨by decide +kernel, by decide +kernel⟩, List.mem_of_getElem? (i := 21) (by decide +kernel), List.mem_of_getElem? (i := 651) (by decide +kernel), List.mem_of_getElem? (i := 652) (by decide +kernel)⟩
theorem lw_p27 : lw_okq (⟨"BeforeThird", "setTenths", "(I)V"⟩, 13) := ⟨⟨by decide +kernel, by decide +kernel⟩, List.mem_of_getElem? (i := 21) (by decide +kernel), List.mem_of_getElem? (i := 659) (by decide +kernel), List.mem_of_getElem? (i := 660) (by decide +kernel)⟩
theorem lw_p28 : lw_okq (⟨"BeforeThird", "imageAt", "(I)LBeforeThird$Book;"⟩, 13) := ⟨⟨by decide +kernel, by decide +kernel⟩, List.mem_of_getElem? (i := 21) (by decide +kernel), List.mem_of_getElem? (i := 685) (by decide +kernel), List.mem_of_getElem? (i := 686) (by decide +kernel)⟩
theorem lw_p29 : lw_okq (⟨"BeforeThirdModel", "bad", "()I"⟩, 16) := ⟨⟨by decide +kernel, by decide +kernel⟩, List.mem_of_getElem? (i := 709) (by decide +kernel), List.mem_of_getElem? (i := 774) (by decide +kernel), List.mem_of_getElem? (i := 775) (by decide +kernel)⟩
theorem lw_p30 : lw_okq (⟨"BeforeThirdModel", "full", "()I"⟩, 16) := ⟨⟨by decide +kernel, by decide +kernel⟩, List.mem_of_getElem? (i := 709) (by decide +kernel), List.mem_of_getElem? (i := 782) (by decide +kernel), List.mem_of_getElem? (i := 783) (by decide +kernel)⟩
theorem lw_p31 : lw_okq (⟨"BeforeThirdModel", "isRead", "()Z"⟩, 16) := ⟨⟨by decide +kernel, by decide +kernel⟩, List.mem_of_getElem? (i := 709) (by decide +kernel), List.mem_of_getElem? (i := 801) (by decide +kernel), List.mem_of_getElem? (i := 802) (by decide +kernel)⟩
def lw_privs_2 : List (MethodName × Nat) := [(⟨"BeforeThird", "isBillNumber", "(I)Z"⟩, 13), (⟨"BeforeThird", "foresee", "(I)V"⟩, 13), (⟨"BeforeThird", "chargesAsLaid", "()I"⟩, 13), (⟨"BeforeThird", "kindsThatFit", "(I)I"⟩, 13), (⟨"BeforeThird", "fitsNotes", "(LBeforeThird$Plain;I)Z"⟩, 13), (⟨"BeforeThird", "fitsNote", "(LBeforeThird$Plain;II)Z"⟩, 13), (⟨"BeforeThird", "mostAlike", "(III)I"⟩, 13), (⟨"BeforeThird", "alikeTo", "(LBeforeThird$Plain;III)I"⟩, 13), (⟨"BeforeThird", "layChargesByExtra", "(I)V"⟩, 13), (⟨"BeforeThird", "isBestAgainst", "(II)Z"⟩, 13), (⟨"BeforeThird", "gainOf", "(II)I"⟩, 13), (⟨"BeforeThird", "setTenths", "(I)V"⟩, 13), (⟨"BeforeThird", "imageAt", "(I)LBeforeThird$Book;"⟩, 13), (⟨"BeforeThirdModel", "bad", "()I"⟩, 16), (⟨"BeforeThirdModel", "full", "()I"⟩, 16), (⟨"BeforeThirdModel", "isRead", "()Z"⟩, 16)]
theorem lw_r2 : ∀ q ∈ lw_privs_2, lw_okq q := List.forall_mem_cons.mpr ⟨lw_p16, List.forall_mem_cons.mpr ⟨lw_p17, List.forall_mem_cons.mpr ⟨lw_p18, List.forall_mem_cons.mpr ⟨lw_p19, List.forall_mem_cons.mpr ⟨lw_p20, List.forall_mem_cons.mpr ⟨lw_p21, List.forall_mem_cons.mpr ⟨lw_p22, List.forall_mem_cons.mpr ⟨lw_p23, List.forall_mem_cons.mpr ⟨lw_p24, List.forall_mem_cons.mpr ⟨lw_p25, List.forall_mem_cons.mpr ⟨lw_p26, List.forall_mem_cons.mpr ⟨lw_p27, List.forall_mem_cons.mpr ⟨lw_p28, List.forall_mem_cons.mpr ⟨lw_p29, List.forall_mem_cons.mpr ⟨lw_p30, List.forall_mem_cons.mpr ⟨lw_p31, fun _ h => absurd h List.not_mem_nil⟩⟩⟩⟩⟩⟩⟩⟩⟩⟩⟩⟩⟩⟩⟩⟩
theorem lw_p32 : lw_okq (⟨"BeforeThirdModel", "nextToken", "()V"⟩, 16) := ⟨⟨by decide +kernel, by decide +kernel⟩, List.mem_of_getElem? (i := 709) (by decide +kernel), List.mem_of_getElem? (i := 805) (by decide +kernel), List.mem_of_getElem? (i := 806) (by decide +kernel)⟩
theorem lw_p33 : lw_okq (⟨"BeforeThirdModel", "kindAt", "(I)I"⟩, 16) := ⟨⟨by decide +kernel, by decide +kernel⟩, List.mem_of_getElem? (i := 709) (by decide +kernel), List.mem_of_getElem? (i := 809) (by decide +kernel), List.mem_of_getElem? (i := 810) (by decide +kernel)⟩
theorem lw_p34 : lw_okq (⟨"BeforeThirdModel", "isItem", "()Z"⟩, 16) := ⟨⟨by decide +kernel, by decide +kernel⟩, List.mem_of_getElem? (i := 709) (by decide +kernel), List.mem_of_getElem? (i := 815) (by decide +kernel), List.mem_of_getElem? (i := 816) (by decide +kernel)⟩
theorem lw_p35 : lw_okq (⟨"BeforeThirdModel", "isOne", "(III)Z"⟩, 16) := ⟨⟨by decide +kernel, by decide +kernel⟩, List.mem_of_getElem? (i := 709) (by decide +kernel), List.mem_of_getElem? (i := 820) (by decide +kernel), List.mem_of_getElem? (i := 821) (by decide +kernel)⟩
theorem lw_p36 : lw_okq (⟨"BeforeThirdModel", "isNumber", "(II)Z"⟩, 16) := ⟨⟨by decide +kernel, by decide +kernel⟩, List.mem_of_getElem? (i := 709) (by decide +kernel), List.mem_of_getElem? (i := 824) (by decide +kernel), List.mem_of_getElem? (i := 825) (by decide +kernel)⟩
theorem lw_p37 : lw_okq (⟨"BeforeThirdModel", "isBillItem", "()Z"⟩, 16) := ⟨⟨by decide +kernel, by decide +kernel⟩, List.mem_of_getElem? (i := 709) (by decide +kernel), List.mem_of_getElem? (i := 829) (by decide +kernel), List.mem_of_getElem? (i := 830) (by decide +kernel)⟩
theorem lw_p38 : lw_okq (⟨"BeforeThirdModel", "keepBack", "()V"⟩, 16) := ⟨⟨by decide +kernel, by decide +kernel⟩, List.mem_of_getElem? (i := 709) (by decide +kernel), List.mem_of_getElem? (i := 842) (by decide +kernel), List.mem_of_getElem? (i := 843) (by decide +kernel)⟩
theorem lw_p39 : lw_okq (⟨"BeforeThirdModel", "no", "()I"⟩, 16) := ⟨⟨by decide +kernel, by decide +kernel⟩, List.mem_of_getElem? (i := 709) (by decide +kernel), List.mem_of_getElem? (i := 866) (by decide +kernel), List.mem_of_getElem? (i := 867) (by decide +kernel)⟩
theorem lw_p40 : lw_okq (⟨"BeforeThirdModel", "isBill", "(I)Z"⟩, 16) := ⟨⟨by decide +kernel, by decide +kernel⟩, List.mem_of_getElem? (i := 709) (by decide +kernel), List.mem_of_getElem? (i := 878) (by decide +kernel), List.mem_of_getElem? (i := 879) (by decide +kernel)⟩
theorem lw_p41 : lw_okq (⟨"BeforeThirdModel", "badBy", "(I)I"⟩, 16) := ⟨⟨by decide +kernel, by decide +kernel⟩, List.mem_of_getElem? (i := 709) (by decide +kernel), List.mem_of_getElem? (i := 882) (by decide +kernel), List.mem_of_getElem? (i := 883) (by decide +kernel)⟩
theorem lw_p42 : lw_okq (⟨"BeforeThirdModel", "copyNow", "()V"⟩, 16) := ⟨⟨by decide +kernel, by decide +kernel⟩, List.mem_of_getElem? (i := 709) (by decide +kernel), List.mem_of_getElem? (i := 899) (by decide +kernel), List.mem_of_getElem? (i := 900) (by decide +kernel)⟩
theorem lw_p43 : lw_okq (⟨"BeforeThirdModel", "chargesOn", "(II)I"⟩, 16) := ⟨⟨by decide +kernel, by decide +kernel⟩, List.mem_of_getElem? (i := 709) (by decide +kernel), List.mem_of_getElem? (i := 903) (by decide +kernel), List.mem_of_getElem? (i := 904) (by decide +kernel)⟩
theorem lw_p44 : lw_okq (⟨"BeforeThirdModel", "belowIn", "(II)I"⟩, 16) := ⟨⟨by decide +kernel, by decide +kernel⟩, List.mem_of_getElem? (i := 709) (by decide +kernel), List.mem_of_getElem? (i := 915) (by decide +kernel), List.mem_of_getElem? (i := 916) (by decide +kernel)⟩
theorem lw_p45 : lw_okq (⟨"BeforeThirdModel", "kindsOf", "(I)I"⟩, 16) := ⟨⟨by decide +kernel, by decide +kernel⟩, List.mem_of_getElem? (i := 709) (by decide +kernel), List.mem_of_getElem? (i := 951) (by decide +kernel), List.mem_of_getElem? (i := 952) (by decide +kernel)⟩
theorem lw_p46 : lw_okq (⟨"BeforeThirdModel", "alikeBy", "(IIII)I"⟩, 16) := ⟨⟨by decide +kernel, by decide +kernel⟩, List.mem_of_getElem? (i := 709) (by decide +kernel), List.mem_of_getElem? (i := 959) (by decide +kernel), List.mem_of_getElem? (i := 960) (by decide +kernel)⟩
theorem lw_p47 : lw_okq (⟨"BeforeThirdModel", "rests", "(III)Z"⟩, 16) := ⟨⟨by decide +kernel, by decide +kernel⟩, List.mem_of_getElem? (i := 709) (by decide +kernel), List.mem_of_getElem? (i := 967) (by decide +kernel), List.mem_of_getElem? (i := 968) (by decide +kernel)⟩
def lw_privs_3 : List (MethodName × Nat) := [(⟨"BeforeThirdModel", "nextToken", "()V"⟩, 16), (⟨"BeforeThirdModel", "kindAt", "(I)I"⟩, 16), (⟨"BeforeThirdModel", "isItem", "()Z"⟩, 16), (⟨"BeforeThirdModel", "isOne", "(III)Z"⟩, 16), (⟨"BeforeThirdModel", "isNumber", "(II)Z"⟩, 16), (⟨"BeforeThirdModel", "isBillItem", "()Z"⟩, 16), (⟨"BeforeThirdModel", "keepBack", "()V"⟩, 16), (⟨"BeforeThirdModel", "no", "()I"⟩, 16), (⟨"BeforeThirdModel", "isBill", "(I)Z"⟩, 16), (⟨"BeforeThirdModel", "badBy", "(I)I"⟩, 16), (⟨"BeforeThirdModel", "copyNow", "()V"⟩, 16), (⟨"BeforeThirdModel", "chargesOn", "(II)I"⟩, 16), (⟨"BeforeThirdModel", "belowIn", "(II)I"⟩, 16), (⟨"BeforeThirdModel", "kindsOf", "(I)I"⟩, 16), (⟨"BeforeThirdModel", "alikeBy", "(IIII)I"⟩, 16), (⟨"BeforeThirdModel", "rests", "(III)Z"⟩, 16)]
theorem lw_r3 : ∀ q ∈ lw_privs_3, lw_okq q := List.forall_mem_cons.mpr ⟨lw_p32, List.forall_mem_cons.mpr ⟨lw_p33, List.forall_mem_cons.mpr ⟨lw_p34, List.forall_mem_cons.mpr ⟨lw_p35, List.forall_mem_cons.mpr ⟨lw_p36, List.forall_mem_cons.mpr ⟨lw_p37, List.forall_mem_cons.mpr ⟨lw_p38, List.forall_mem_cons.mpr ⟨lw_p39, List.forall_mem_cons.mpr ⟨lw_p40, List.forall_mem_cons.mpr ⟨lw_p41, List.forall_mem_cons.mpr ⟨lw_p42, List.forall_mem_cons.mpr ⟨lw_p43, List.forall_mem_cons.mpr ⟨lw_p44, List.forall_mem_cons.mpr ⟨lw_p45, List.forall_mem_cons.mpr ⟨lw_p46, List.forall_mem_cons.mpr ⟨lw_p47, fun _ h => absurd h List.not_mem_nil⟩⟩⟩⟩⟩⟩⟩⟩⟩⟩⟩⟩⟩⟩⟩⟩
theorem lw_p48 : lw_okq (⟨"BeforeThirdModel", "gets", "(III)I"⟩, 16) := ⟨⟨by decide +kernel, by decide +kernel⟩, List.mem_of_getElem? (i := 709) (by decide +kernel), List.mem_of_getElem? (i := 971) (by decide +kernel), List.mem_of_getElem? (i := 972) (by decide +kernel)⟩
theorem lw_p49 : lw_okq (⟨"BeforeThirdModel", "counted", "(I)I"⟩, 16) := ⟨⟨by decide +kernel, by decide +kernel⟩, List.mem_of_getElem? (i := 709) (by decide +kernel), List.mem_of_getElem? (i := 1010) (by decide +kernel), List.mem_of_getElem? (i := 1011) (by decide +kernel)⟩
def lw_privs_4 : List (MethodName × Nat) := [(⟨"BeforeThirdModel", "gets", "(III)I"⟩, 16), (⟨"BeforeThirdModel", "counted", "(I)I"⟩, 16)]
theorem lw_r4 : ∀ q ∈ lw_privs_4, lw_okq q := List.forall_mem_cons.mpr ⟨lw_p48, List.forall_mem_cons.mpr ⟨lw_p49, fun _ h => absurd h List.not_mem_nil⟩⟩
def lw_privs : List (MethodName × Nat) := lw_privs_1 ++ (lw_privs_2 ++ (lw_privs_3 ++ (lw_privs_4)))
def lw_tbl : List Cond := k2_sels lw_privs ++ tables_1
theorem lw_privs_ok : ∀ q ∈ lw_privs, lw_okq q := by
  show ∀ q ∈ lw_privs_1 ++ (lw_privs_2 ++ (lw_privs_3 ++ (lw_privs_4))), lw_okq q
  exact List.forall_mem_append.mpr ⟨lw_r1, List.forall_mem_append.mpr ⟨lw_r2, List.forall_mem_append.mpr ⟨lw_r3, lw_r4⟩⟩⟩
def RX0 : String := "BeforeThird$Book"
def TX0 : u_T := fun k => match k with
  | 0 => ("BeforeThird$Book", "figures", "[I", true)
  | 1 => ("BeforeThird$Book", "bills", "[I", true)
  | 2 => ("BeforeThird$Book", "notes", "[I", true)
  | 3 => ("BeforeThird$Book", "past", "[I", true)
  | 4 => ("BeforeThird$Book", "billCount", "I", false)
  | 5 => ("BeforeThird$Book", "noteCount", "I", false)
  | _ => ("BeforeThird$Book", "pastCount", "I", false)
def tyX0 : Nat → FieldType := fun k => match k with
  | 0 => .array .int
  | 1 => .array .int
  | 2 => .array .int
  | 3 => .array .int
  | 4 => .int
  | 5 => .int
  | _ => .int
abbrev wsX00 : List Cond := u_ws RX0 TX0 7
theorem nmX0 : ∀ a, a < 7 → ∀ b, b < 7 → a ≠ b → (TX0 a).2.1 ≠ (TX0 b).2.1 := by decide +kernel
theorem tyX0_ok : ∀ k, k < 7 → parseFieldDescriptor (TX0 k).2.2.1 = some (tyX0 k) := by decide +kernel
abbrev cX0_init : ByteArray := prog_2_method_1_code
def yX0_init : MethodName := ⟨RX0, "<init>", "()V"⟩
abbrev cX0_beginWith : ByteArray := prog_2_method_2_code
def yX0_beginWith : MethodName := ⟨RX0, "beginWith", "(I)V"⟩
abbrev cX0_addBill : ByteArray := prog_2_method_3_code
def yX0_addBill : MethodName := ⟨RX0, "addBill", "(III)V"⟩
abbrev cX0_kindAt : ByteArray := prog_2_method_4_code
def yX0_kindAt : MethodName := ⟨RX0, "kindAt", "(I)I"⟩
abbrev cX0_dayAt : ByteArray := prog_2_method_5_code
def yX0_dayAt : MethodName := ⟨RX0, "dayAt", "(I)I"⟩
abbrev cX0_poundsAt : ByteArray := prog_2_method_6_code
def yX0_poundsAt : MethodName := ⟨RX0, "poundsAt", "(I)I"⟩
abbrev cX0_billPart : ByteArray := prog_2_method_7_code
def yX0_billPart : MethodName := ⟨RX0, "billPart", "(II)I"⟩
abbrev cX0_addNote : ByteArray := prog_2_method_8_code
def yX0_addNote : MethodName := ⟨RX0, "addNote", "(IIIII)V"⟩
abbrev cX0_notePart : ByteArray := prog_2_method_9_code
def yX0_notePart : MethodName := ⟨RX0, "notePart", "(II)I"⟩
abbrev cX0_keepPast : ByteArray := prog_2_method_10_code
def yX0_keepPast : MethodName := ⟨RX0, "keepPast", "()V"⟩
abbrev cX0_stepBack : ByteArray := prog_2_method_11_code
def yX0_stepBack : MethodName := ⟨RX0, "stepBack", "()V"⟩
abbrev cX0_copyFrom : ByteArray := prog_2_method_12_code
def yX0_copyFrom : MethodName := ⟨RX0, "copyFrom", "(LBeforeThird$Book;)V"⟩
def RX1 : String := "BeforeThird$Card"
def TX1 : u_T := fun k => match k with
  | _ => ("", "", "", false)
def tyX1 : Nat → FieldType := fun k => match k with
  | _ => .int
abbrev wsX10 : List Cond := u_ws RX1 TX1 0
theorem nmX1 : ∀ a, a < 0 → ∀ b, b < 0 → a ≠ b → (TX1 a).2.1 ≠ (TX1 b).2.1 := by decide +kernel
theorem tyX1_ok : ∀ k, k < 0 → parseFieldDescriptor (TX1 k).2.2.1 = some (tyX1 k) := by decide +kernel
abbrev cX1_init : ByteArray := prog_3_method_1_code
def yX1_init : MethodName := ⟨RX1, "<init>", "()V"⟩
abbrev cX1_drawnOn : ByteArray := prog_3_method_2_code
def yX1_drawnOn : MethodName := ⟨RX1, "drawnOn", "(I)I"⟩
def RX2 : String := "BeforeThird$Kinds"
def TX2 : u_T := fun k => match k with
  | 0 => ("BeforeThird$Kinds", "plain", "LBeforeThird$Plain;", true)
  | 1 => ("BeforeThird$Kinds", "moved", "LBeforeThird$Moved;", true)
  | 2 => ("BeforeThird$Kinds", "quarter", "LBeforeThird$Quarter;", true)
  | 3 => ("BeforeThird$Kinds", "card", "LBeforeThird$Card;", true)
  | 4 => ("BeforeThird$Kinds", "yearly", "LBeforeThird$Yearly;", true)
  | _ => ("BeforeThird$Kinds", "pay", "LBeforeThird$Pay;", true)
def tyX2 : Nat → FieldType := fun k => match k with
  | 0 => .object "BeforeThird$Plain"
  | 1 => .object "BeforeThird$Moved"
  | 2 => .object "BeforeThird$Quarter"
  | 3 => .object "BeforeThird$Card"
  | 4 => .object "BeforeThird$Yearly"
  | _ => .object "BeforeThird$Pay"
abbrev wsX20 : List Cond := u_ws RX2 TX2 6
theorem nmX2 : ∀ a, a < 6 → ∀ b, b < 6 → a ≠ b → (TX2 a).2.1 ≠ (TX2 b).2.1 := by decide +kernel
theorem tyX2_ok : ∀ k, k < 6 → parseFieldDescriptor (TX2 k).2.2.1 = some (tyX2 k) := by decide +kernel
abbrev cX2_init : ByteArray := prog_4_method_1_code
def yX2_init : MethodName := ⟨RX2, "<init>", "()V"⟩
abbrev cX2_numbered : ByteArray := prog_4_method_2_code
def yX2_numbered : MethodName := ⟨RX2, "numbered", "(I)LBeforeThird$Plain;"⟩
def RX3 : String := "BeforeThird$Moved"
def TX3 : u_T := fun k => match k with
  | _ => ("", "", "", false)
def tyX3 : Nat → FieldType := fun k => match k with
  | _ => .int
abbrev wsX30 : List Cond := u_ws RX3 TX3 0
theorem nmX3 : ∀ a, a < 0 → ∀ b, b < 0 → a ≠ b → (TX3 a).2.1 ≠ (TX3 b).2.1 := by decide +kernel
theorem tyX3_ok : ∀ k, k < 0 → parseFieldDescriptor (TX3 k).2.2.1 = some (tyX3 k) := by decide +kernel
abbrev cX3_init : ByteArray := prog_5_method_1_code
def yX3_init : MethodName := ⟨RX3, "<init>", "()V"⟩
abbrev cX3_drawnOn : ByteArray := prog_5_method_2_code
def yX3_drawnOn : MethodName := ⟨RX3, "drawnOn", "(I)I"⟩
def RX4 : String := "BeforeThird$Outlook"
def TX4 : u_T := fun k => match k with
  | 0 => ("BeforeThird$Outlook", "kinds", "LBeforeThird$Kinds;", true)
  | 1 => ("BeforeThird$Outlook", "draws", "[I", true)
  | 2 => ("BeforeThird$Outlook", "length", "I", false)
  | 3 => ("BeforeThird$Outlook", "left", "I", false)
  | 4 => ("BeforeThird$Outlook", "charges", "I", false)
  | 5 => ("BeforeThird$Outlook", "least", "I", false)
  | 6 => ("BeforeThird$Outlook", "leastIn", "I", false)
  | _ => ("BeforeThird$Outlook", "belowIn", "I", false)
def tyX4 : Nat → FieldType := fun k => match k with
  | 0 => .object "BeforeThird$Kinds"
  | 1 => .array .int
  | 2 => .int
  | 3 => .int
  | 4 => .int
  | 5 => .int
  | 6 => .int
  | _ => .int
abbrev wsX40 : List Cond := u_ws RX4 TX4 8
theorem nmX4 : ∀ a, a < 8 → ∀ b, b < 8 → a ≠ b → (TX4 a).2.1 ≠ (TX4 b).2.1 := by decide +kernel
theorem tyX4_ok : ∀ k, k < 8 → parseFieldDescriptor (TX4 k).2.2.1 = some (tyX4 k) := by decide +kernel
abbrev cX4_init : ByteArray := prog_6_method_1_code
def yX4_init : MethodName := ⟨RX4, "<init>", "()V"⟩
abbrev cX4_lay : ByteArray := prog_6_method_2_code
def yX4_lay : MethodName := ⟨RX4, "lay", "(LBeforeThird$Book;I)V"⟩
abbrev cX4_put : ByteArray := prog_6_method_3_code
def yX4_put : MethodName := ⟨RX4, "put", "(LBeforeThird$Book;III)V"⟩
abbrev cX4_drawMore : ByteArray := prog_6_method_4_code
def yX4_drawMore : MethodName := ⟨RX4, "drawMore", "(II)V"⟩
abbrev cX4_run : ByteArray := prog_6_method_5_code
def yX4_run : MethodName := ⟨RX4, "run", "(II)V"⟩
abbrev cX4_mostSpending : ByteArray := prog_6_method_6_code
def yX4_mostSpending : MethodName := ⟨RX4, "mostSpending", "(I)I"⟩
abbrev cX4_leastMore : ByteArray := prog_6_method_7_code
def yX4_leastMore : MethodName := ⟨RX4, "leastMore", "(II)I"⟩
def RX5 : String := "BeforeThird$Pay"
def TX5 : u_T := fun k => match k with
  | _ => ("", "", "", false)
def tyX5 : Nat → FieldType := fun k => match k with
  | _ => .int
abbrev wsX50 : List Cond := u_ws RX5 TX5 0
theorem nmX5 : ∀ a, a < 0 → ∀ b, b < 0 → a ≠ b → (TX5 a).2.1 ≠ (TX5 b).2.1 := by decide +kernel
theorem tyX5_ok : ∀ k, k < 0 → parseFieldDescriptor (TX5 k).2.2.1 = some (tyX5 k) := by decide +kernel
abbrev cX5_init : ByteArray := prog_7_method_1_code
def yX5_init : MethodName := ⟨RX5, "<init>", "()V"⟩
abbrev cX5_poundsIn : ByteArray := prog_7_method_2_code
def yX5_poundsIn : MethodName := ⟨RX5, "poundsIn", "(II)I"⟩
def RX6 : String := "BeforeThird$Plain"
def TX6 : u_T := fun k => match k with
  | _ => ("", "", "", false)
def tyX6 : Nat → FieldType := fun k => match k with
  | _ => .int
abbrev wsX60 : List Cond := u_ws RX6 TX6 0
theorem nmX6 : ∀ a, a < 0 → ∀ b, b < 0 → a ≠ b → (TX6 a).2.1 ≠ (TX6 b).2.1 := by decide +kernel
theorem tyX6_ok : ∀ k, k < 0 → parseFieldDescriptor (TX6 k).2.2.1 = some (tyX6 k) := by decide +kernel
abbrev cX6_init : ByteArray := prog_8_method_1_code
def yX6_init : MethodName := ⟨RX6, "<init>", "()V"⟩
abbrev cX6_drawnOn : ByteArray := prog_8_method_2_code
def yX6_drawnOn : MethodName := ⟨RX6, "drawnOn", "(I)I"⟩
abbrev cX6_poundsIn : ByteArray := prog_8_method_3_code
def yX6_poundsIn : MethodName := ⟨RX6, "poundsIn", "(II)I"⟩
def RX7 : String := "BeforeThird$Quarter"
def TX7 : u_T := fun k => match k with
  | _ => ("", "", "", false)
def tyX7 : Nat → FieldType := fun k => match k with
  | _ => .int
abbrev wsX70 : List Cond := u_ws RX7 TX7 0
theorem nmX7 : ∀ a, a < 0 → ∀ b, b < 0 → a ≠ b → (TX7 a).2.1 ≠ (TX7 b).2.1 := by decide +kernel
theorem tyX7_ok : ∀ k, k < 0 → parseFieldDescriptor (TX7 k).2.2.1 = some (tyX7 k) := by decide +kernel
abbrev cX7_init : ByteArray := prog_9_method_1_code
def yX7_init : MethodName := ⟨RX7, "<init>", "()V"⟩
abbrev cX7_poundsIn : ByteArray := prog_9_method_2_code
def yX7_poundsIn : MethodName := ⟨RX7, "poundsIn", "(II)I"⟩
def RX8 : String := "BeforeThird$Reader"
def TX8 : u_T := fun k => match k with
  | 0 => ("BeforeThird$Reader", "text", "[B", true)
  | 1 => ("BeforeThird$Reader", "draft", "LBeforeThird$Book;", true)
  | 2 => ("BeforeThird$Reader", "length", "I", false)
  | 3 => ("BeforeThird$Reader", "start", "I", false)
  | 4 => ("BeforeThird$Reader", "next", "I", false)
  | 5 => ("BeforeThird$Reader", "sort", "I", false)
  | _ => ("BeforeThird$Reader", "value", "I", false)
def tyX8 : Nat → FieldType := fun k => match k with
  | 0 => .array .byte
  | 1 => .object "BeforeThird$Book"
  | 2 => .int
  | 3 => .int
  | 4 => .int
  | 5 => .int
  | _ => .int
abbrev wsX80 : List Cond := u_ws RX8 TX8 7
theorem nmX8 : ∀ a, a < 7 → ∀ b, b < 7 → a ≠ b → (TX8 a).2.1 ≠ (TX8 b).2.1 := by decide +kernel
theorem tyX8_ok : ∀ k, k < 7 → parseFieldDescriptor (TX8 k).2.2.1 = some (tyX8 k) := by decide +kernel
abbrev cX8_init : ByteArray := prog_10_method_1_code
def yX8_init : MethodName := ⟨RX8, "<init>", "()V"⟩
abbrev cX8_addByte : ByteArray := prog_10_method_2_code
def yX8_addByte : MethodName := ⟨RX8, "addByte", "(I)V"⟩
abbrev cX8_itemsOrFault : ByteArray := prog_10_method_3_code
def yX8_itemsOrFault : MethodName := ⟨RX8, "itemsOrFault", "()I"⟩
abbrev cX8_takeItem : ByteArray := prog_10_method_4_code
def yX8_takeItem : MethodName := ⟨RX8, "takeItem", "(Z)Z"⟩
abbrev cX8_takeAccount : ByteArray := prog_10_method_5_code
def yX8_takeAccount : MethodName := ⟨RX8, "takeAccount", "()Z"⟩
abbrev cX8_takeBill : ByteArray := prog_10_method_6_code
def yX8_takeBill : MethodName := ⟨RX8, "takeBill", "()Z"⟩
abbrev cX8_takeFigure : ByteArray := prog_10_method_7_code
def yX8_takeFigure : MethodName := ⟨RX8, "takeFigure", "(II)Z"⟩
abbrev cX8_takeNumber : ByteArray := prog_10_method_8_code
def yX8_takeNumber : MethodName := ⟨RX8, "takeNumber", "(II)Z"⟩
abbrev cX8_takeStop : ByteArray := prog_10_method_9_code
def yX8_takeStop : MethodName := ⟨RX8, "takeStop", "()Z"⟩
abbrev cX8_spells : ByteArray := prog_10_method_10_code
def yX8_spells : MethodName := ⟨RX8, "spells", "(Ljava/lang/String;)Z"⟩
abbrev cX8_takeToken : ByteArray := prog_10_method_11_code
def yX8_takeToken : MethodName := ⟨RX8, "takeToken", "()V"⟩
abbrev cX8_skipRun : ByteArray := prog_10_method_12_code
def yX8_skipRun : MethodName := ⟨RX8, "skipRun", "(II)V"⟩
abbrev cX8_byteAt : ByteArray := prog_10_method_13_code
def yX8_byteAt : MethodName := ⟨RX8, "byteAt", "(I)I"⟩
def RX9 : String := "BeforeThird$Yearly"
def TX9 : u_T := fun k => match k with
  | _ => ("", "", "", false)
def tyX9 : Nat → FieldType := fun k => match k with
  | _ => .int
abbrev wsX90 : List Cond := u_ws RX9 TX9 0
theorem nmX9 : ∀ a, a < 0 → ∀ b, b < 0 → a ≠ b → (TX9 a).2.1 ≠ (TX9 b).2.1 := by decide +kernel
theorem tyX9_ok : ∀ k, k < 0 → parseFieldDescriptor (TX9 k).2.2.1 = some (tyX9 k) := by decide +kernel
abbrev cX9_init : ByteArray := prog_11_method_1_code
def yX9_init : MethodName := ⟨RX9, "<init>", "()V"⟩
abbrev cX9_poundsIn : ByteArray := prog_11_method_2_code
def yX9_poundsIn : MethodName := ⟨RX9, "poundsIn", "(II)I"⟩
def RX10 : String := "BeforeThird"
def TX10 : u_T := fun k => match k with
  | 0 => ("BeforeThird", "book", "LBeforeThird$Book;", true)
  | 1 => ("BeforeThird", "imageZero", "LBeforeThird$Book;", true)
  | 2 => ("BeforeThird", "imageOne", "LBeforeThird$Book;", true)
  | 3 => ("BeforeThird", "kept", "[Z", true)
  | 4 => ("BeforeThird", "reader", "LBeforeThird$Reader;", true)
  | 5 => ("BeforeThird", "outlook", "LBeforeThird$Outlook;", true)
  | 6 => ("BeforeThird", "kinds", "LBeforeThird$Kinds;", true)
  | 7 => ("BeforeThird", "chargesByExtra", "[I", true)
  | 8 => ("BeforeThird", "fractionAbove", "J", false)
  | 9 => ("BeforeThird", "fractionBelow", "J", false)
  | 10 => ("BeforeThird", "badCalls", "I", false)
  | 11 => ("BeforeThird", "noCalls", "I", false)
  | _ => ("BeforeThird", "fullCalls", "I", false)
def tyX10 : Nat → FieldType := fun k => match k with
  | 0 => .object "BeforeThird$Book"
  | 1 => .object "BeforeThird$Book"
  | 2 => .object "BeforeThird$Book"
  | 3 => .array .boolean
  | 4 => .object "BeforeThird$Reader"
  | 5 => .object "BeforeThird$Outlook"
  | 6 => .object "BeforeThird$Kinds"
  | 7 => .array .int
  | 8 => .long
  | 9 => .long
  | 10 => .int
  | 11 => .int
  | _ => .int
abbrev wsX100 : List Cond := u_ws RX10 TX10 13
theorem nmX10 : ∀ a, a < 13 → ∀ b, b < 13 → a ≠ b → (TX10 a).2.1 ≠ (TX10 b).2.1 := by decide +kernel
theorem tyX10_ok : ∀ k, k < 13 → parseFieldDescriptor (TX10 k).2.2.1 = some (tyX10 k) := by decide +kernel
abbrev cX10_init : ByteArray := prog_1_method_1_code
def yX10_init : MethodName := ⟨RX10, "<init>", "()V"⟩
abbrev cX10_account : ByteArray := prog_1_method_2_code
def yX10_account : MethodName := ⟨RX10, "account", "(I)I"⟩
abbrev cX10_bill : ByteArray := prog_1_method_3_code
def yX10_bill : MethodName := ⟨RX10, "bill", "(III)I"⟩
abbrev cX10_type : ByteArray := prog_1_method_4_code
def yX10_type : MethodName := ⟨RX10, "type", "(I)I"⟩
abbrev cX10_clear : ByteArray := prog_1_method_5_code
def yX10_clear : MethodName := ⟨RX10, "clear", "()I"⟩
abbrev cX10_read : ByteArray := prog_1_method_6_code
def yX10_read : MethodName := ⟨RX10, "read", "()I"⟩
abbrev cX10_days : ByteArray := prog_1_method_7_code
def yX10_days : MethodName := ⟨RX10, "days", "(I)I"⟩
abbrev cX10_spend : ByteArray := prog_1_method_8_code
def yX10_spend : MethodName := ⟨RX10, "spend", "(I)I"⟩
abbrev cX10_jar : ByteArray := prog_1_method_9_code
def yX10_jar : MethodName := ⟨RX10, "jar", "(I)I"⟩
abbrev cX10_undo : ByteArray := prog_1_method_10_code
def yX10_undo : MethodName := ⟨RX10, "undo", "()I"⟩
abbrev cX10_of : ByteArray := prog_1_method_11_code
def yX10_of : MethodName := ⟨RX10, "of", "(II)I"⟩
abbrev cX10_now : ByteArray := prog_1_method_12_code
def yX10_now : MethodName := ⟨RX10, "now", "(I)I"⟩
abbrev cX10_truly : ByteArray := prog_1_method_13_code
def yX10_truly : MethodName := ⟨RX10, "truly", "()I"⟩
abbrev cX10_then : ByteArray := prog_1_method_14_code
def yX10_then : MethodName := ⟨RX10, "then", "(II)I"⟩
abbrev cX10_low : ByteArray := prog_1_method_15_code
def yX10_low : MethodName := ⟨RX10, "low", "(II)I"⟩
abbrev cX10_below : ByteArray := prog_1_method_16_code
def yX10_below : MethodName := ⟨RX10, "below", "()I"⟩
abbrev cX10_most : ByteArray := prog_1_method_17_code
def yX10_most : MethodName := ⟨RX10, "most", "(I)I"⟩
abbrev cX10_need : ByteArray := prog_1_method_18_code
def yX10_need : MethodName := ⟨RX10, "need", "(I)I"⟩
abbrev cX10_move : ByteArray := prog_1_method_19_code
def yX10_move : MethodName := ⟨RX10, "move", "()I"⟩
abbrev cX10_monthly : ByteArray := prog_1_method_20_code
def yX10_monthly : MethodName := ⟨RX10, "monthly", "(I)I"⟩
abbrev cX10_dear : ByteArray := prog_1_method_21_code
def yX10_dear : MethodName := ⟨RX10, "dear", "()I"⟩
abbrev cX10_note : ByteArray := prog_1_method_22_code
def yX10_note : MethodName := ⟨RX10, "note", "(IIIII)I"⟩
abbrev cX10_forget : ByteArray := prog_1_method_23_code
def yX10_forget : MethodName := ⟨RX10, "forget", "()I"⟩
abbrev cX10_is : ByteArray := prog_1_method_24_code
def yX10_is : MethodName := ⟨RX10, "is", "(I)I"⟩
abbrev cX10_look : ByteArray := prog_1_method_25_code
def yX10_look : MethodName := ⟨RX10, "look", "(I)I"⟩
abbrev cX10_two : ByteArray := prog_1_method_26_code
def yX10_two : MethodName := ⟨RX10, "two", "(II)I"⟩
abbrev cX10_boiler : ByteArray := prog_1_method_27_code
def yX10_boiler : MethodName := ⟨RX10, "boiler", "(III)I"⟩
abbrev cX10_years : ByteArray := prog_1_method_28_code
def yX10_years : MethodName := ⟨RX10, "years", "(II)I"⟩
abbrev cX10_part : ByteArray := prog_1_method_29_code
def yX10_part : MethodName := ⟨RX10, "part", "(I)J"⟩
abbrev cX10_image : ByteArray := prog_1_method_30_code
def yX10_image : MethodName := ⟨RX10, "image", "(I)I"⟩
abbrev cX10_from : ByteArray := prog_1_method_31_code
def yX10_from : MethodName := ⟨RX10, "from", "(I)I"⟩
abbrev cX10_status : ByteArray := prog_1_method_32_code
def yX10_status : MethodName := ⟨RX10, "status", "(I)I"⟩
abbrev cX10_count : ByteArray := prog_1_method_33_code
def yX10_count : MethodName := ⟨RX10, "count", "(I)I"⟩
abbrev cX10_digest : ByteArray := prog_1_method_34_code
def yX10_digest : MethodName := ⟨RX10, "digest", "()J"⟩
abbrev cX10_digestOf : ByteArray := prog_1_method_35_code
def yX10_digestOf : MethodName := ⟨RX10, "digestOf", "(J[II)J"⟩
abbrev cX10_within : ByteArray := prog_1_method_36_code
def yX10_within : MethodName := ⟨RX10, "within", "(III)Z"⟩
abbrev cX10_isBill : ByteArray := prog_1_method_37_code
def yX10_isBill : MethodName := ⟨RX10, "isBill", "(III)Z"⟩
abbrev cX10_isBillNumber : ByteArray := prog_1_method_38_code
def yX10_isBillNumber : MethodName := ⟨RX10, "isBillNumber", "(I)Z"⟩
abbrev cX10_refuseBad : ByteArray := prog_1_method_39_code
def yX10_refuseBad : MethodName := ⟨RX10, "refuseBad", "(I)I"⟩
abbrev cX10_refuseNo : ByteArray := prog_1_method_40_code
def yX10_refuseNo : MethodName := ⟨RX10, "refuseNo", "()I"⟩
abbrev cX10_refuseFull : ByteArray := prog_1_method_41_code
def yX10_refuseFull : MethodName := ⟨RX10, "refuseFull", "()I"⟩
abbrev cX10_imageAt : ByteArray := prog_1_method_42_code
def yX10_imageAt : MethodName := ⟨RX10, "imageAt", "(I)LBeforeThird$Book;"⟩
abbrev cX10_passDay : ByteArray := prog_1_method_43_code
def yX10_passDay : MethodName := ⟨RX10, "passDay", "()V"⟩
abbrev cX10_drawnToday : ByteArray := prog_1_method_44_code
def yX10_drawnToday : MethodName := ⟨RX10, "drawnToday", "()I"⟩
abbrev cX10_foresee : ByteArray := prog_1_method_45_code
def yX10_foresee : MethodName := ⟨RX10, "foresee", "(I)V"⟩
abbrev cX10_chargesAsLaid : ByteArray := prog_1_method_46_code
def yX10_chargesAsLaid : MethodName := ⟨RX10, "chargesAsLaid", "()I"⟩
abbrev cX10_kindsThatFit : ByteArray := prog_1_method_47_code
def yX10_kindsThatFit : MethodName := ⟨RX10, "kindsThatFit", "(I)I"⟩
abbrev cX10_fitsNotes : ByteArray := prog_1_method_48_code
def yX10_fitsNotes : MethodName := ⟨RX10, "fitsNotes", "(LBeforeThird$Plain;I)Z"⟩
abbrev cX10_fitsNote : ByteArray := prog_1_method_49_code
def yX10_fitsNote : MethodName := ⟨RX10, "fitsNote", "(LBeforeThird$Plain;II)Z"⟩
abbrev cX10_mostAlike : ByteArray := prog_1_method_50_code
def yX10_mostAlike : MethodName := ⟨RX10, "mostAlike", "(III)I"⟩
abbrev cX10_alikeTo : ByteArray := prog_1_method_51_code
def yX10_alikeTo : MethodName := ⟨RX10, "alikeTo", "(LBeforeThird$Plain;III)I"⟩
abbrev cX10_hasBit : ByteArray := prog_1_method_52_code
def yX10_hasBit : MethodName := ⟨RX10, "hasBit", "(II)Z"⟩
abbrev cX10_layChargesByExtra : ByteArray := prog_1_method_53_code
def yX10_layChargesByExtra : MethodName := ⟨RX10, "layChargesByExtra", "(I)V"⟩
abbrev cX10_isBestAgainst : ByteArray := prog_1_method_54_code
def yX10_isBestAgainst : MethodName := ⟨RX10, "isBestAgainst", "(II)Z"⟩
abbrev cX10_gainOf : ByteArray := prog_1_method_55_code
def yX10_gainOf : MethodName := ⟨RX10, "gainOf", "(II)I"⟩
abbrev cX10_setTenths : ByteArray := prog_1_method_56_code
def yX10_setTenths : MethodName := ⟨RX10, "setTenths", "(I)V"⟩
def RX11 : String := "BeforeThirdModel"
def TX11 : u_T := fun k => match k with
  | 0 => ("BeforeThirdModel", "now", "[I", true)
  | 1 => ("BeforeThirdModel", "tried", "[I", true)
  | 2 => ("BeforeThirdModel", "read", "[I", true)
  | 3 => ("BeforeThirdModel", "image", "[I", true)
  | 4 => ("BeforeThirdModel", "isKept", "[Z", true)
  | 5 => ("BeforeThirdModel", "refused", "[I", true)
  | 6 => ("BeforeThirdModel", "upper", "J", false)
  | 7 => ("BeforeThirdModel", "lower", "J", false)
  | 8 => ("BeforeThirdModel", "letters", "I", false)
  | 9 => ("BeforeThirdModel", "text", "[I", true)
  | 10 => ("BeforeThirdModel", "position", "I", false)
  | 11 => ("BeforeThirdModel", "tokenAt", "I", false)
  | 12 => ("BeforeThirdModel", "token", "I", false)
  | 13 => ("BeforeThirdModel", "number", "I", false)
  | 14 => ("BeforeThirdModel", "word", "J", false)
  | _ => ("BeforeThirdModel", "items", "I", false)
def tyX11 : Nat → FieldType := fun k => match k with
  | 0 => .array .int
  | 1 => .array .int
  | 2 => .array .int
  | 3 => .array .int
  | 4 => .array .boolean
  | 5 => .array .int
  | 6 => .long
  | 7 => .long
  | 8 => .int
  | 9 => .array .int
  | 10 => .int
  | 11 => .int
  | 12 => .int
  | 13 => .int
  | 14 => .long
  | _ => .int
abbrev wsX110 : List Cond := u_ws RX11 TX11 16
theorem nmX11 : ∀ a, a < 16 → ∀ b, b < 16 → a ≠ b → (TX11 a).2.1 ≠ (TX11 b).2.1 := by decide +kernel
theorem tyX11_ok : ∀ k, k < 16 → parseFieldDescriptor (TX11 k).2.2.1 = some (tyX11 k) := by decide +kernel
abbrev cX11_init : ByteArray := prog_13_method_1_code
def yX11_init : MethodName := ⟨RX11, "<init>", "()V"⟩
abbrev cX11_begin : ByteArray := prog_13_method_2_code
def yX11_begin : MethodName := ⟨RX11, "begin", "([I)V"⟩
abbrev cX11_in : ByteArray := prog_13_method_3_code
def yX11_in : MethodName := ⟨RX11, "in", "(III)Z"⟩
abbrev cX11_bad : ByteArray := prog_13_method_5_code
def yX11_bad : MethodName := ⟨RX11, "bad", "()I"⟩
abbrev cX11_badBy : ByteArray := prog_13_method_6_code
def yX11_badBy : MethodName := ⟨RX11, "badBy", "(I)I"⟩
abbrev cX11_no : ByteArray := prog_13_method_7_code
def yX11_no : MethodName := ⟨RX11, "no", "()I"⟩
abbrev cX11_full : ByteArray := prog_13_method_8_code
def yX11_full : MethodName := ⟨RX11, "full", "()I"⟩
abbrev cX11_isBill : ByteArray := prog_13_method_9_code
def yX11_isBill : MethodName := ⟨RX11, "isBill", "(I)Z"⟩
abbrev cX11_bring : ByteArray := prog_13_method_10_code
def yX11_bring : MethodName := ⟨RX11, "bring", "([II[III)V"⟩
abbrev cX11_account : ByteArray := prog_13_method_11_code
def yX11_account : MethodName := ⟨RX11, "account", "(I)I"⟩
abbrev cX11_addBill : ByteArray := prog_13_method_12_code
def yX11_addBill : MethodName := ⟨RX11, "addBill", "([IIII)I"⟩
abbrev cX11_bill : ByteArray := prog_13_method_13_code
def yX11_bill : MethodName := ⟨RX11, "bill", "(III)I"⟩
abbrev cX11_type : ByteArray := prog_13_method_14_code
def yX11_type : MethodName := ⟨RX11, "type", "(I)I"⟩
abbrev cX11_clear : ByteArray := prog_13_method_15_code
def yX11_clear : MethodName := ⟨RX11, "clear", "()I"⟩
abbrev cX11_kindAt : ByteArray := prog_13_method_16_code
def yX11_kindAt : MethodName := ⟨RX11, "kindAt", "(I)I"⟩
abbrev cX11_nextToken : ByteArray := prog_13_method_17_code
def yX11_nextToken : MethodName := ⟨RX11, "nextToken", "()V"⟩
abbrev cX11_isNumber : ByteArray := prog_13_method_18_code
def yX11_isNumber : MethodName := ⟨RX11, "isNumber", "(II)Z"⟩
abbrev cX11_isBillItem : ByteArray := prog_13_method_19_code
def yX11_isBillItem : MethodName := ⟨RX11, "isBillItem", "()Z"⟩
abbrev cX11_isOne : ByteArray := prog_13_method_20_code
def yX11_isOne : MethodName := ⟨RX11, "isOne", "(III)Z"⟩
abbrev cX11_isItem : ByteArray := prog_13_method_21_code
def yX11_isItem : MethodName := ⟨RX11, "isItem", "()Z"⟩
abbrev cX11_isRead : ByteArray := prog_13_method_22_code
def yX11_isRead : MethodName := ⟨RX11, "isRead", "()Z"⟩
abbrev cX11_read : ByteArray := prog_13_method_23_code
def yX11_read : MethodName := ⟨RX11, "read", "()I"⟩
abbrev cX11_dayBy : ByteArray := prog_13_method_24_code
def yX11_dayBy : MethodName := ⟨RX11, "dayBy", "(II)I"⟩
abbrev cX11_poundsBy : ByteArray := prog_13_method_25_code
def yX11_poundsBy : MethodName := ⟨RX11, "poundsBy", "(III)I"⟩
abbrev cX11_drawn : ByteArray := prog_13_method_26_code
def yX11_drawn : MethodName := ⟨RX11, "drawn", "([II)I"⟩
abbrev cX11_goBy : ByteArray := prog_13_method_27_code
def yX11_goBy : MethodName := ⟨RX11, "goBy", "([II)V"⟩
abbrev cX11_keepBack : ByteArray := prog_13_method_28_code
def yX11_keepBack : MethodName := ⟨RX11, "keepBack", "()V"⟩
abbrev cX11_days : ByteArray := prog_13_method_29_code
def yX11_days : MethodName := ⟨RX11, "days", "(I)I"⟩
abbrev cX11_spend : ByteArray := prog_13_method_30_code
def yX11_spend : MethodName := ⟨RX11, "spend", "(I)I"⟩
abbrev cX11_jar : ByteArray := prog_13_method_31_code
def yX11_jar : MethodName := ⟨RX11, "jar", "(I)I"⟩
abbrev cX11_undo : ByteArray := prog_13_method_32_code
def yX11_undo : MethodName := ⟨RX11, "undo", "()I"⟩
abbrev cX11_of : ByteArray := prog_13_method_33_code
def yX11_of : MethodName := ⟨RX11, "of", "(II)I"⟩
abbrev cX11_now : ByteArray := prog_13_method_34_code
def yX11_now : MethodName := ⟨RX11, "now", "(I)I"⟩
abbrev cX11_truly : ByteArray := prog_13_method_35_code
def yX11_truly : MethodName := ⟨RX11, "truly", "()I"⟩
abbrev cX11_copyNow : ByteArray := prog_13_method_36_code
def yX11_copyNow : MethodName := ⟨RX11, "copyNow", "()V"⟩
abbrev cX11_chargesOn : ByteArray := prog_13_method_37_code
def yX11_chargesOn : MethodName := ⟨RX11, "chargesOn", "(II)I"⟩
abbrev cX11_then : ByteArray := prog_13_method_38_code
def yX11_then : MethodName := ⟨RX11, "then", "(II)I"⟩
abbrev cX11_low : ByteArray := prog_13_method_39_code
def yX11_low : MethodName := ⟨RX11, "low", "(II)I"⟩
abbrev cX11_belowIn : ByteArray := prog_13_method_40_code
def yX11_belowIn : MethodName := ⟨RX11, "belowIn", "(II)I"⟩
abbrev cX11_below : ByteArray := prog_13_method_41_code
def yX11_below : MethodName := ⟨RX11, "below", "()I"⟩
abbrev cX11_most : ByteArray := prog_13_method_42_code
def yX11_most : MethodName := ⟨RX11, "most", "(I)I"⟩
abbrev cX11_need : ByteArray := prog_13_method_43_code
def yX11_need : MethodName := ⟨RX11, "need", "(I)I"⟩
abbrev cX11_move : ByteArray := prog_13_method_44_code
def yX11_move : MethodName := ⟨RX11, "move", "()I"⟩
abbrev cX11_monthly : ByteArray := prog_13_method_45_code
def yX11_monthly : MethodName := ⟨RX11, "monthly", "(I)I"⟩
abbrev cX11_dear : ByteArray := prog_13_method_46_code
def yX11_dear : MethodName := ⟨RX11, "dear", "()I"⟩
abbrev cX11_note : ByteArray := prog_13_method_47_code
def yX11_note : MethodName := ⟨RX11, "note", "(IIIII)I"⟩
abbrev cX11_forget : ByteArray := prog_13_method_48_code
def yX11_forget : MethodName := ⟨RX11, "forget", "()I"⟩
abbrev cX11_kindsOf : ByteArray := prog_13_method_49_code
def yX11_kindsOf : MethodName := ⟨RX11, "kindsOf", "(I)I"⟩
abbrev cX11_is : ByteArray := prog_13_method_50_code
def yX11_is : MethodName := ⟨RX11, "is", "(I)I"⟩
abbrev cX11_alikeBy : ByteArray := prog_13_method_51_code
def yX11_alikeBy : MethodName := ⟨RX11, "alikeBy", "(IIII)I"⟩
abbrev cX11_look : ByteArray := prog_13_method_52_code
def yX11_look : MethodName := ⟨RX11, "look", "(I)I"⟩
abbrev cX11_gets : ByteArray := prog_13_method_53_code
def yX11_gets : MethodName := ⟨RX11, "gets", "(III)I"⟩
abbrev cX11_rests : ByteArray := prog_13_method_54_code
def yX11_rests : MethodName := ⟨RX11, "rests", "(III)Z"⟩
abbrev cX11_two : ByteArray := prog_13_method_55_code
def yX11_two : MethodName := ⟨RX11, "two", "(II)I"⟩
abbrev cX11_boiler : ByteArray := prog_13_method_56_code
def yX11_boiler : MethodName := ⟨RX11, "boiler", "(III)I"⟩
abbrev cX11_years : ByteArray := prog_13_method_57_code
def yX11_years : MethodName := ⟨RX11, "years", "(II)I"⟩
abbrev cX11_part : ByteArray := prog_13_method_58_code
def yX11_part : MethodName := ⟨RX11, "part", "(I)J"⟩
abbrev cX11_image : ByteArray := prog_13_method_59_code
def yX11_image : MethodName := ⟨RX11, "image", "(I)I"⟩
abbrev cX11_from : ByteArray := prog_13_method_60_code
def yX11_from : MethodName := ⟨RX11, "from", "(I)I"⟩
abbrev cX11_status : ByteArray := prog_13_method_61_code
def yX11_status : MethodName := ⟨RX11, "status", "(I)I"⟩
abbrev cX11_counted : ByteArray := prog_13_method_62_code
def yX11_counted : MethodName := ⟨RX11, "counted", "(I)I"⟩
abbrev cX11_count : ByteArray := prog_13_method_63_code
def yX11_count : MethodName := ⟨RX11, "count", "(I)I"⟩
abbrev cX11_digest : ByteArray := prog_13_method_64_code
def yX11_digest : MethodName := ⟨RX11, "digest", "()J"⟩
def RJ9 : String := "java/lang/Math"
abbrev cJ9_floorDiv_7cf53 : ByteArray := prog_14_method_47_code
def yJ9_floorDiv_7cf53 : MethodName := ⟨RJ9, "floorDiv", "(II)I"⟩
abbrev cJ9_floorMod_7cf53 : ByteArray := prog_14_method_50_code
def yJ9_floorMod_7cf53 : MethodName := ⟨RJ9, "floorMod", "(II)I"⟩
abbrev cJ9_max_7cf53 : ByteArray := prog_14_method_65_code
def yJ9_max_7cf53 : MethodName := ⟨RJ9, "max", "(II)I"⟩
abbrev cJ9_min_7cf53 : ByteArray := prog_14_method_69_code
def yJ9_min_7cf53 : MethodName := ⟨RJ9, "min", "(II)I"⟩
def RJ0 : String := "java/lang/String"
abbrev cJ0_length_8abf5 : ByteArray := prog_15_method_54_code
def yJ0_length_8abf5 : MethodName := ⟨RJ0, "length", "()I"⟩
abbrev cJ0_charAt_5068e : ByteArray := prog_15_method_56_code
def yJ0_charAt_5068e : MethodName := ⟨RJ0, "charAt", "(I)C"⟩
abbrev cJ0_coder_7d493 : ByteArray := prog_15_method_152_code
def yJ0_coder_7d493 : MethodName := ⟨RJ0, "coder", "()B"⟩
abbrev cJ0_isLatin1_aae02 : ByteArray := prog_15_method_154_code
def yJ0_isLatin1_aae02 : MethodName := ⟨RJ0, "isLatin1", "()Z"⟩
abbrev cJ0_checkIndex_df160 : ByteArray := prog_15_method_155_code
def yJ0_checkIndex_df160 : MethodName := ⟨RJ0, "checkIndex", "(II)V"⟩
def RJ1 : String := "java/lang/StringLatin1"
abbrev cJ1_charAt_3b067 : ByteArray := prog_16_method_2_code
def yJ1_charAt_3b067 : MethodName := ⟨RJ1, "charAt", "([BI)C"⟩
def RJ2 : String := "java/lang/StringUTF16"
abbrev cJ2_getChar_3b067 : ByteArray := prog_17_method_5_code
def yJ2_getChar_3b067 : MethodName := ⟨RJ2, "getChar", "([BI)C"⟩
abbrev cJ2_length_9d52b : ByteArray := prog_17_method_6_code
def yJ2_length_9d52b : MethodName := ⟨RJ2, "length", "([B)I"⟩
abbrev cJ2_charAt_3b067 : ByteArray := prog_17_method_83_code
def yJ2_charAt_3b067 : MethodName := ⟨RJ2, "charAt", "([BI)C"⟩
abbrev cJ2_checkIndex_2214a : ByteArray := prog_17_method_91_code
def yJ2_checkIndex_2214a : MethodName := ⟨RJ2, "checkIndex", "(I[B)V"⟩
def RJ10 : String := "java/lang/System"
def RJ7 : String := "java/util/Arrays"
abbrev cJ7_fill_53178 : ByteArray := prog_19_method_103_code
def yJ7_fill_53178 : MethodName := ⟨RJ7, "fill", "([II)V"⟩
def RJ3 : String := "jdk/internal/util/Preconditions"
abbrev cJ3_checkIndex_8e157 : ByteArray := prog_20_method_11_code
def yJ3_checkIndex_8e157 : MethodName := ⟨RJ3, "checkIndex", "(IILjava/util/function/BiFunction;)I"⟩
def RL : String := "BeforeThirdLaw"
abbrev cL_law : ByteArray := code
abbrev classes : List vw_C := [(RX0, TX0, 7), (RX1, TX1, 0), (RX2, TX2, 6), (RX3, TX3, 0), (RX4, TX4, 8), (RX5, TX5, 0), (RX6, TX6, 0), (RX7, TX7, 0), (RX8, TX8, 7), (RX9, TX9, 0), (RX10, TX10, 13), (RX11, TX11, 16)]
def yL_law : MethodName := ⟨RL, "law", "([I)Z"⟩
end
section
def tbX0_init_0 : List (Nat × Instr × Nat) := [(0, .aload_n 0, 1), (1, .invokespecial 3, 3), (4, .aload_n 0, 1), (5, .bipush 6, 2), (7, .newarray .int, 2), (9, .putfield 9, 3), (12, .aload_n 0, 1), (13, .bipush 21, 2), (15, .newarray .int, 2), (17, .putfield 15, 3), (20, .aload_n 0, 1), (21, .bipush 30, 2), (23, .newarray .int, 2), (25, .putfield 18, 3), (28, .aload_n 0, 1), (29, .bipush 48, 2), (31, .newarray .int, 2), (33, .putfield 21, 3), (36, .aload_n 0, 1), (37, .getfield 9, 3), (40, .iconst 3, 1), (41, .iconst 1, 1), (42, .iastore, 1), (43, .return_, 1)]
theorem dtbX0_init_0 : ∀ q ∈ tbX0_init_0, decode cX0_init q.1 = .ok q.2 := by decide +kernel
def tbX0_beginWith_0 : List (Nat × Instr × Nat) := [(0, .aload_n 0, 1), (1, .getfield 9, 3), (4, .iconst 0, 1), (5, .invokestatic 24, 3), (8, .aload_n 0, 1), (9, .getfield 9, 3), (12, .iconst 0, 1), (13, .iload_n 1, 1), (14, .iastore, 1), (15, .aload_n 0, 1), (16, .getfield 9, 3), (19, .iconst 3, 1), (20, .iconst 1, 1), (21, .iastore, 1), (22, .aload_n 0, 1), (23, .iconst 0, 1), (24, .putfield 30, 3), (27, .aload_n 0, 1), (28, .iconst 0, 1), (29, .putfield 34, 3), (32, .aload_n 0, 1), (33, .iconst 0, 1), (34, .putfield 37, 3), (37, .return_, 1)]
theorem dtbX0_beginWith_0 : ∀ q ∈ tbX0_beginWith_0, decode cX0_beginWith q.1 = .ok q.2 := by decide +kernel
def tbX0_addBill_0 : List (Nat × Instr × Nat) := [(0, .aload_n 0, 1), (1, .getfield 30, 3), (4, .bipush 7, 2), (6, .if_icmp .lt 4, 3), (9, .return_, 1), (10, .aload_n 0, 1), (11, .getfield 30, 3), (14, .iconst 3, 1), (15, .imul, 1), (16, .istore 4, 2), (18, .aload_n 0, 1), (19, .getfield 15, 3), (22, .iload 4, 2), (24, .iload_n 1, 1), (25, .iastore, 1), (26, .aload_n 0, 1), (27, .getfield 15, 3), (30, .iload 4, 2), (32, .iconst 1, 1), (33, .iadd, 1), (34, .iload_n 2, 1), (35, .iastore, 1), (36, .aload_n 0, 1), (37, .getfield 15, 3), (40, .iload 4, 2), (42, .iconst 2, 1), (43, .iadd, 1), (44, .iload_n 3, 1), (45, .iastore, 1), (46, .aload_n 0, 1), (47, .dup, 1), (48, .getfield 30, 3), (51, .iconst 1, 1), (52, .iadd, 1), (53, .putfield 30, 3), (56, .aload_n 0, 1), (57, .iconst 0, 1), (58, .putfield 37, 3), (61, .return_, 1)]
theorem dtbX0_addBill_0 : ∀ q ∈ tbX0_addBill_0, decode cX0_addBill q.1 = .ok q.2 := by decide +kernel
def tbX0_kindAt_0 : List (Nat × Instr × Nat) := [(0, .aload_n 0, 1), (1, .iload_n 1, 1), (2, .iconst 0, 1), (3, .invokevirtual 40, 3), (6, .ireturn, 1)]
theorem dtbX0_kindAt_0 : ∀ q ∈ tbX0_kindAt_0, decode cX0_kindAt q.1 = .ok q.2 := by decide +kernel
def tbX0_dayAt_0 : List (Nat × Instr × Nat) := [(0, .aload_n 0, 1), (1, .iload_n 1, 1), (2, .iconst 1, 1), (3, .invokevirtual 40, 3), (6, .ireturn, 1)]
theorem dtbX0_dayAt_0 : ∀ q ∈ tbX0_dayAt_0, decode cX0_dayAt q.1 = .ok q.2 := by decide +kernel
def tbX0_poundsAt_0 : List (Nat × Instr × Nat) := [(0, .aload_n 0, 1), (1, .iload_n 1, 1), (2, .iconst 2, 1), (3, .invokevirtual 40, 3), (6, .ireturn, 1)]
theorem dtbX0_poundsAt_0 : ∀ q ∈ tbX0_poundsAt_0, decode cX0_poundsAt q.1 = .ok q.2 := by decide +kernel
def tbX0_billPart_0 : List (Nat × Instr × Nat) := [(0, .iload_n 1, 1), (1, .ifCond .lt 22, 3), (4, .iload_n 1, 1), (5, .bipush 7, 2), (7, .if_icmp .ge 16, 3), (10, .aload_n 0, 1), (11, .getfield 15, 3), (14, .iload_n 1, 1), (15, .iconst 3, 1), (16, .imul, 1), (17, .iload_n 2, 1), (18, .iadd, 1), (19, .iaload, 1), (20, .goto 4, 3), (23, .iconst 0, 1), (24, .ireturn, 1)]
theorem dtbX0_billPart_0 : ∀ q ∈ tbX0_billPart_0, decode cX0_billPart q.1 = .ok q.2 := by decide +kernel
def tbX0_addNote_0 : List (Nat × Instr × Nat) := [(0, .aload_n 0, 1), (1, .getfield 34, 3), (4, .bipush 6, 2), (6, .if_icmp .lt 4, 3), (9, .return_, 1), (10, .aload_n 0, 1), (11, .getfield 34, 3), (14, .iconst 5, 1), (15, .imul, 1), (16, .istore 6, 2), (18, .aload_n 0, 1), (19, .getfield 18, 3), (22, .iload 6, 2), (24, .iload_n 1, 1), (25, .iastore, 1), (26, .aload_n 0, 1), (27, .getfield 18, 3), (30, .iload 6, 2), (32, .iconst 1, 1), (33, .iadd, 1), (34, .iload_n 2, 1), (35, .iastore, 1), (36, .aload_n 0, 1), (37, .getfield 18, 3), (40, .iload 6, 2), (42, .iconst 2, 1), (43, .iadd, 1), (44, .iload_n 3, 1), (45, .iastore, 1), (46, .aload_n 0, 1), (47, .getfield 18, 3), (50, .iload 6, 2), (52, .iconst 3, 1), (53, .iadd, 1), (54, .iload 4, 2), (56, .iastore, 1), (57, .aload_n 0, 1), (58, .getfield 18, 3), (61, .iload 6, 2), (63, .iconst 4, 1), (64, .iadd, 1), (65, .iload 5, 2), (67, .iastore, 1), (68, .aload_n 0, 1), (69, .dup, 1), (70, .getfield 34, 3), (73, .iconst 1, 1), (74, .iadd, 1), (75, .putfield 34, 3), (78, .return_, 1)]
theorem dtbX0_addNote_0 : ∀ q ∈ tbX0_addNote_0, decode cX0_addNote q.1 = .ok q.2 := by decide +kernel
def tbX0_notePart_0 : List (Nat × Instr × Nat) := [(0, .iload_n 1, 1), (1, .ifCond .lt 22, 3), (4, .iload_n 1, 1), (5, .bipush 6, 2), (7, .if_icmp .ge 16, 3), (10, .aload_n 0, 1), (11, .getfield 18, 3), (14, .iload_n 1, 1), (15, .iconst 5, 1), (16, .imul, 1), (17, .iload_n 2, 1), (18, .iadd, 1), (19, .iaload, 1), (20, .goto 4, 3), (23, .iconst 0, 1), (24, .ireturn, 1)]
theorem dtbX0_notePart_0 : ∀ q ∈ tbX0_notePart_0, decode cX0_notePart q.1 = .ok q.2 := by decide +kernel
def tbX0_keepPast_0 : List (Nat × Instr × Nat) := [(0, .aload_n 0, 1), (1, .getfield 37, 3), (4, .bipush 8, 2), (6, .if_icmp .lt 25, 3), (9, .aload_n 0, 1), (10, .getfield 21, 3), (13, .bipush 6, 2), (15, .aload_n 0, 1), (16, .getfield 21, 3), (19, .iconst 0, 1), (20, .bipush 42, 2), (22, .invokestatic 44, 3), (25, .aload_n 0, 1), (26, .bipush 7, 2), (28, .putfield 37, 3), (31, .aload_n 0, 1), (32, .getfield 9, 3), (35, .iconst 0, 1), (36, .aload_n 0, 1), (37, .getfield 21, 3), (40, .aload_n 0, 1), (41, .getfield 37, 3), (44, .bipush 6, 2), (46, .imul, 1), (47, .bipush 6, 2), (49, .invokestatic 44, 3), (52, .aload_n 0, 1), (53, .dup, 1), (54, .getfield 37, 3), (57, .iconst 1, 1), (58, .iadd, 1), (59, .putfield 37, 3), (62, .return_, 1)]
theorem dtbX0_keepPast_0 : ∀ q ∈ tbX0_keepPast_0, decode cX0_keepPast q.1 = .ok q.2 := by decide +kernel
def tbX0_stepBack_0 : List (Nat × Instr × Nat) := [(0, .aload_n 0, 1), (1, .getfield 37, 3), (4, .ifCond .gt 4, 3), (7, .return_, 1), (8, .aload_n 0, 1), (9, .dup, 1), (10, .getfield 37, 3), (13, .iconst 1, 1), (14, .isub, 1), (15, .putfield 37, 3), (18, .aload_n 0, 1), (19, .getfield 21, 3), (22, .aload_n 0, 1), (23, .getfield 37, 3), (26, .bipush 6, 2), (28, .imul, 1), (29, .aload_n 0, 1), (30, .getfield 9, 3), (33, .iconst 0, 1), (34, .bipush 6, 2), (36, .invokestatic 44, 3), (39, .return_, 1)]
theorem dtbX0_stepBack_0 : ∀ q ∈ tbX0_stepBack_0, decode cX0_stepBack q.1 = .ok q.2 := by decide +kernel
def tbX0_copyFrom_0 : List (Nat × Instr × Nat) := [(0, .aload_n 1, 1), (1, .getfield 9, 3), (4, .iconst 0, 1), (5, .aload_n 0, 1), (6, .getfield 9, 3), (9, .iconst 0, 1), (10, .bipush 6, 2), (12, .invokestatic 44, 3), (15, .aload_n 1, 1), (16, .getfield 15, 3), (19, .iconst 0, 1), (20, .aload_n 0, 1), (21, .getfield 15, 3), (24, .iconst 0, 1), (25, .bipush 21, 2), (27, .invokestatic 44, 3), (30, .aload_n 1, 1), (31, .getfield 18, 3), (34, .iconst 0, 1), (35, .aload_n 0, 1), (36, .getfield 18, 3), (39, .iconst 0, 1), (40, .bipush 30, 2), (42, .invokestatic 44, 3), (45, .aload_n 1, 1), (46, .getfield 21, 3), (49, .iconst 0, 1), (50, .aload_n 0, 1), (51, .getfield 21, 3), (54, .iconst 0, 1), (55, .bipush 48, 2), (57, .invokestatic 44, 3), (60, .aload_n 0, 1), (61, .aload_n 1, 1), (62, .getfield 30, 3), (65, .putfield 30, 3), (68, .aload_n 0, 1), (69, .aload_n 1, 1), (70, .getfield 34, 3), (73, .putfield 34, 3), (76, .aload_n 0, 1), (77, .aload_n 1, 1), (78, .getfield 37, 3), (81, .putfield 37, 3), (84, .return_, 1)]
theorem dtbX0_copyFrom_0 : ∀ q ∈ tbX0_copyFrom_0, decode cX0_copyFrom q.1 = .ok q.2 := by decide +kernel
def tbX1_init_0 : List (Nat × Instr × Nat) := [(0, .aload_n 0, 1), (1, .invokespecial 3, 3), (4, .return_, 1)]
theorem dtbX1_init_0 : ∀ q ∈ tbX1_init_0, decode cX1_init q.1 = .ok q.2 := by decide +kernel
def tbX1_drawnOn_0 : List (Nat × Instr × Nat) := [(0, .aload_n 0, 1), (1, .iload_n 1, 1), (2, .invokespecial 9, 3), (5, .bipush 14, 2), (7, .iadd, 1), (8, .istore_n 2, 1), (9, .iload_n 2, 1), (10, .bipush 28, 2), (12, .if_icmp .le 10, 3), (15, .iload_n 2, 1), (16, .bipush 28, 2), (18, .isub, 1), (19, .goto 4, 3), (22, .iload_n 2, 1), (23, .ireturn, 1)]
theorem dtbX1_drawnOn_0 : ∀ q ∈ tbX1_drawnOn_0, decode cX1_drawnOn q.1 = .ok q.2 := by decide +kernel
def tbX2_init_0 : List (Nat × Instr × Nat) := [(0, .aload_n 0, 1), (1, .invokespecial 1, 3), (4, .aload_n 0, 1), (5, .new 7, 3), (8, .dup, 1), (9, .invokespecial 9, 3), (12, .putfield 10, 3), (15, .aload_n 0, 1), (16, .new 16, 3), (19, .dup, 1), (20, .invokespecial 18, 3), (23, .putfield 19, 3), (26, .aload_n 0, 1), (27, .new 23, 3), (30, .dup, 1), (31, .invokespecial 25, 3), (34, .putfield 26, 3), (37, .aload_n 0, 1), (38, .new 30, 3), (41, .dup, 1), (42, .invokespecial 32, 3), (45, .putfield 33, 3), (48, .aload_n 0, 1), (49, .new 37, 3), (52, .dup, 1), (53, .invokespecial 39, 3), (56, .putfield 40, 3), (59, .aload_n 0, 1), (60, .new 44, 3), (63, .dup, 1), (64, .invokespecial 46, 3), (67, .putfield 47, 3), (70, .return_, 1)]
theorem dtbX2_init_0 : ∀ q ∈ tbX2_init_0, decode cX2_init q.1 = .ok q.2 := by decide +kernel
def tbX2_numbered_0 : List (Nat × Instr × Nat) := [(0, .iload_n 1, 1), (1, .tableswitch 60 1 5 #[35, 40, 45, 50, 55], 35), (36, .aload_n 0, 1), (37, .getfield 19, 3), (40, .areturn, 1), (41, .aload_n 0, 1), (42, .getfield 26, 3), (45, .areturn, 1), (46, .aload_n 0, 1), (47, .getfield 33, 3), (50, .areturn, 1), (51, .aload_n 0, 1), (52, .getfield 40, 3), (55, .areturn, 1), (56, .aload_n 0, 1), (57, .getfield 47, 3), (60, .areturn, 1), (61, .aload_n 0, 1), (62, .getfield 10, 3), (65, .areturn, 1)]
theorem dtbX2_numbered_0 : ∀ q ∈ tbX2_numbered_0, decode cX2_numbered q.1 = .ok q.2 := by decide +kernel
def tbX3_init_0 : List (Nat × Instr × Nat) := [(0, .aload_n 0, 1), (1, .invokespecial 3, 3), (4, .return_, 1)]
theorem dtbX3_init_0 : ∀ q ∈ tbX3_init_0, decode cX3_init q.1 = .ok q.2 := by decide +kernel
def tbX3_drawnOn_0 : List (Nat × Instr × Nat) := [(0, .aload_n 0, 1), (1, .iload_n 1, 1), (2, .invokespecial 9, 3), (5, .istore_n 2, 1), (6, .iload_n 2, 1), (7, .bipush 7, 2), (9, .irem, 1), (10, .ifCond .eq 5, 3), (13, .iload_n 2, 1), (14, .ireturn, 1), (15, .iload_n 2, 1), (16, .bipush 28, 2), (18, .if_icmp .ne 9, 3), (21, .iload_n 2, 1), (22, .iconst 1, 1), (23, .isub, 1), (24, .goto 6, 3), (27, .iload_n 2, 1), (28, .iconst 1, 1), (29, .iadd, 1), (30, .ireturn, 1)]
theorem dtbX3_drawnOn_0 : ∀ q ∈ tbX3_drawnOn_0, decode cX3_drawnOn q.1 = .ok q.2 := by decide +kernel
def tbX4_init_0 : List (Nat × Instr × Nat) := [(0, .aload_n 0, 1), (1, .invokespecial 3, 3), (4, .aload_n 0, 1), (5, .new 9, 3), (8, .dup, 1), (9, .invokespecial 11, 3), (12, .putfield 12, 3), (15, .aload_n 0, 1), (16, .bipush 99, 2), (18, .newarray .int, 2), (20, .putfield 18, 3), (23, .return_, 1)]
theorem dtbX4_init_0 : ∀ q ∈ tbX4_init_0, decode cX4_init q.1 = .ok q.2 := by decide +kernel
def tbX4_lay_0 : List (Nat × Instr × Nat) := [(0, .aload_n 0, 1), (1, .iconst 0, 1), (2, .iload_n 2, 1), (3, .bipush 99, 2), (5, .invokestatic 22, 3), (8, .invokestatic 28, 3), (11, .putfield 31, 3), (14, .aload_n 0, 1), (15, .getfield 18, 3), (18, .iconst 0, 1), (19, .invokestatic 35, 3), (22, .iconst 0, 1), (23, .istore_n 3, 1), (24, .iload_n 3, 1), (25, .aload_n 1, 1), (26, .getfield 41, 3), (29, .if_icmp .ge 21, 3), (32, .aload_n 0, 1), (33, .aload_n 1, 1), (34, .iload_n 3, 1), (35, .aload_n 1, 1), (36, .iload_n 3, 1), (37, .invokevirtual 46, 3), (40, .iconst 1, 1), (41, .invokevirtual 50, 3), (44, .iinc 3 1, 3), (47, .goto (-23), 3), (50, .return_, 1)]
theorem dtbX4_lay_0 : ∀ q ∈ tbX4_lay_0, decode cX4_lay q.1 = .ok q.2 := by decide +kernel
def tbX4_put_0 : List (Nat × Instr × Nat) := [(0, .aload_n 0, 1), (1, .getfield 12, 3), (4, .aload_n 1, 1), (5, .iload_n 2, 1), (6, .invokevirtual 54, 3), (9, .invokevirtual 57, 3), (12, .astore 5, 2), (14, .aload 5, 2), (16, .iload_n 3, 1), (17, .invokevirtual 61, 3), (20, .aload_n 1, 1), (21, .getfield 66, 3), (24, .iconst 3, 1), (25, .iaload, 1), (26, .isub, 1), (27, .bipush 28, 2), (29, .invokestatic 69, 3), (32, .istore 6, 2), (34, .aload_n 1, 1), (35, .getfield 66, 3), (38, .iconst 4, 1), (39, .iaload, 1), (40, .istore 7, 2), (42, .aload_n 1, 1), (43, .getfield 66, 3), (46, .iconst 3, 1), (47, .iaload, 1), (48, .iload 6, 2), (50, .iadd, 1), (51, .bipush 28, 2), (53, .if_icmp .le 6, 3), (56, .iinc 7 1, 3), (59, .iload 6, 2), (61, .istore 8, 2), (63, .iload 8, 2), (65, .aload_n 0, 1), (66, .getfield 31, 3), (69, .if_icmp .ge 37, 3), (72, .aload_n 0, 1), (73, .getfield 18, 3), (76, .iload 8, 2), (78, .dup2, 1), (79, .iaload, 1), (80, .iload 4, 2), (82, .aload 5, 2), (84, .iload 7, 2), (86, .aload_n 1, 1), (87, .iload_n 2, 1), (88, .invokevirtual 72, 3), (91, .invokevirtual 75, 3), (94, .imul, 1), (95, .iadd, 1), (96, .iastore, 1), (97, .iinc 7 1, 3), (100, .iinc 8 28, 3), (103, .goto (-40), 3), (106, .return_, 1)]
theorem dtbX4_put_0 : ∀ q ∈ tbX4_put_0, decode cX4_put q.1 = .ok q.2 := by decide +kernel
def tbX4_drawMore_0 : List (Nat × Instr × Nat) := [(0, .iload_n 1, 1), (1, .ifCond .lt 21, 3), (4, .iload_n 1, 1), (5, .aload_n 0, 1), (6, .getfield 31, 3), (9, .if_icmp .ge 13, 3), (12, .aload_n 0, 1), (13, .getfield 18, 3), (16, .iload_n 1, 1), (17, .dup2, 1), (18, .iaload, 1), (19, .iload_n 2, 1), (20, .iadd, 1), (21, .iastore, 1), (22, .return_, 1)]
theorem dtbX4_drawMore_0 : ∀ q ∈ tbX4_drawMore_0, decode cX4_drawMore q.1 = .ok q.2 := by decide +kernel
def tbX4_run_0 : List (Nat × Instr × Nat) := [(0, .aload_n 0, 1), (1, .iload_n 1, 1), (2, .putfield 78, 3), (5, .aload_n 0, 1), (6, .iconst 0, 1), (7, .putfield 81, 3), (10, .aload_n 0, 1), (11, .iload_n 1, 1), (12, .putfield 84, 3), (15, .aload_n 0, 1), (16, .iconst 0, 1), (17, .putfield 87, 3), (20, .aload_n 0, 1), (21, .iconst (-1), 1), (22, .putfield 90, 3), (25, .iconst 0, 1), (26, .istore_n 3, 1), (27, .iload_n 3, 1), (28, .aload_n 0, 1), (29, .getfield 31, 3), (32, .if_icmp .ge 105, 3), (35, .aload_n 0, 1), (36, .dup, 1), (37, .getfield 78, 3), (40, .aload_n 0, 1), (41, .getfield 18, 3), (44, .iload_n 3, 1), (45, .iaload, 1), (46, .iload_n 2, 1), (47, .iadd, 1), (48, .isub, 1), (49, .putfield 78, 3), (52, .aload_n 0, 1), (53, .getfield 78, 3), (56, .ifCond .ge 45, 3), (59, .aload_n 0, 1), (60, .dup, 1), (61, .getfield 78, 3), (64, .iconst 1, 1), (65, .isub, 1), (66, .putfield 78, 3), (69, .aload_n 0, 1), (70, .dup, 1), (71, .getfield 81, 3), (74, .iconst 1, 1), (75, .iadd, 1), (76, .putfield 81, 3), (79, .aload_n 0, 1), (80, .aload_n 0, 1), (81, .getfield 90, 3), (84, .iconst (-1), 1), (85, .if_icmp .ne 9, 3), (88, .iload_n 3, 1), (89, .iconst 1, 1), (90, .iadd, 1), (91, .goto 7, 3), (94, .aload_n 0, 1), (95, .getfield 90, 3), (98, .putfield 90, 3), (101, .iload_n 3, 1)]
theorem dtbX4_run_0 : ∀ q ∈ tbX4_run_0, decode cX4_run q.1 = .ok q.2 := by decide +kernel
def tbX4_run_1 : List (Nat × Instr × Nat) := [(102, .ifCond .eq 14, 3), (105, .aload_n 0, 1), (106, .getfield 78, 3), (109, .aload_n 0, 1), (110, .getfield 84, 3), (113, .if_icmp .ge 18, 3), (116, .aload_n 0, 1), (117, .aload_n 0, 1), (118, .getfield 78, 3), (121, .putfield 84, 3), (124, .aload_n 0, 1), (125, .iload_n 3, 1), (126, .iconst 1, 1), (127, .iadd, 1), (128, .putfield 87, 3), (131, .iinc 3 1, 3), (134, .goto (-107), 3), (137, .return_, 1)]
theorem dtbX4_run_1 : ∀ q ∈ tbX4_run_1, decode cX4_run q.1 = .ok q.2 := by decide +kernel
def tbX4_mostSpending_0 : List (Nat × Instr × Nat) := [(0, .bipush 30, 2), (2, .istore_n 2, 1), (3, .iload_n 1, 1), (4, .istore_n 3, 1), (5, .iconst 0, 1), (6, .istore 4, 2), (8, .iload 4, 2), (10, .aload_n 0, 1), (11, .getfield 31, 3), (14, .if_icmp .ge 32, 3), (17, .iload_n 3, 1), (18, .aload_n 0, 1), (19, .getfield 18, 3), (22, .iload 4, 2), (24, .iaload, 1), (25, .isub, 1), (26, .istore_n 3, 1), (27, .iload_n 2, 1), (28, .iload_n 3, 1), (29, .iload 4, 2), (31, .iconst 1, 1), (32, .iadd, 1), (33, .invokestatic 93, 3), (36, .invokestatic 22, 3), (39, .istore_n 2, 1), (40, .iinc 4 1, 3), (43, .goto (-35), 3), (46, .iload_n 2, 1), (47, .ireturn, 1)]
theorem dtbX4_mostSpending_0 : ∀ q ∈ tbX4_mostSpending_0, decode cX4_mostSpending q.1 = .ok q.2 := by decide +kernel
def tbX4_leastMore_0 : List (Nat × Instr × Nat) := [(0, .iconst 0, 1), (1, .istore_n 3, 1), (2, .iload_n 1, 1), (3, .istore 4, 2), (5, .iconst 0, 1), (6, .istore 5, 2), (8, .iload 5, 2), (10, .aload_n 0, 1), (11, .getfield 31, 3), (14, .if_icmp .ge 31, 3), (17, .iload 4, 2), (19, .aload_n 0, 1), (20, .getfield 18, 3), (23, .iload 5, 2), (25, .iaload, 1), (26, .iload_n 2, 1), (27, .iadd, 1), (28, .isub, 1), (29, .istore 4, 2), (31, .iload_n 3, 1), (32, .iload 4, 2), (34, .ineg, 1), (35, .invokestatic 28, 3), (38, .istore_n 3, 1), (39, .iinc 5 1, 3), (42, .goto (-34), 3), (45, .iload_n 3, 1), (46, .ireturn, 1)]
theorem dtbX4_leastMore_0 : ∀ q ∈ tbX4_leastMore_0, decode cX4_leastMore q.1 = .ok q.2 := by decide +kernel
def tbX5_init_0 : List (Nat × Instr × Nat) := [(0, .aload_n 0, 1), (1, .invokespecial 1, 3), (4, .return_, 1)]
theorem dtbX5_init_0 : ∀ q ∈ tbX5_init_0, decode cX5_init q.1 = .ok q.2 := by decide +kernel
def tbX5_poundsIn_0 : List (Nat × Instr × Nat) := [(0, .aload_n 0, 1), (1, .iload_n 1, 1), (2, .iload_n 2, 1), (3, .invokespecial 7, 3), (6, .ineg, 1), (7, .ireturn, 1)]
theorem dtbX5_poundsIn_0 : ∀ q ∈ tbX5_poundsIn_0, decode cX5_poundsIn q.1 = .ok q.2 := by decide +kernel
def tbX6_init_0 : List (Nat × Instr × Nat) := [(0, .aload_n 0, 1), (1, .invokespecial 1, 3), (4, .return_, 1)]
theorem dtbX6_init_0 : ∀ q ∈ tbX6_init_0, decode cX6_init q.1 = .ok q.2 := by decide +kernel
def tbX6_drawnOn_0 : List (Nat × Instr × Nat) := [(0, .iload_n 1, 1), (1, .ireturn, 1)]
theorem dtbX6_drawnOn_0 : ∀ q ∈ tbX6_drawnOn_0, decode cX6_drawnOn q.1 = .ok q.2 := by decide +kernel
def tbX6_poundsIn_0 : List (Nat × Instr × Nat) := [(0, .iload_n 2, 1), (1, .ireturn, 1)]
theorem dtbX6_poundsIn_0 : ∀ q ∈ tbX6_poundsIn_0, decode cX6_poundsIn q.1 = .ok q.2 := by decide +kernel
def tbX7_init_0 : List (Nat × Instr × Nat) := [(0, .aload_n 0, 1), (1, .invokespecial 1, 3), (4, .return_, 1)]
theorem dtbX7_init_0 : ∀ q ∈ tbX7_init_0, decode cX7_init q.1 = .ok q.2 := by decide +kernel
def tbX7_poundsIn_0 : List (Nat × Instr × Nat) := [(0, .iload_n 1, 1), (1, .iconst 3, 1), (2, .irem, 1), (3, .ifCond .ne 12, 3), (6, .aload_n 0, 1), (7, .iload_n 1, 1), (8, .iload_n 2, 1), (9, .invokespecial 7, 3), (12, .goto 4, 3), (15, .iconst 0, 1), (16, .ireturn, 1)]
theorem dtbX7_poundsIn_0 : ∀ q ∈ tbX7_poundsIn_0, decode cX7_poundsIn q.1 = .ok q.2 := by decide +kernel
def tbX8_init_0 : List (Nat × Instr × Nat) := [(0, .aload_n 0, 1), (1, .invokespecial 3, 3), (4, .aload_n 0, 1), (5, .sipush 150, 3), (8, .newarray .byte, 2), (10, .putfield 9, 3), (13, .aload_n 0, 1), (14, .new 15, 3), (17, .dup, 1), (18, .invokespecial 17, 3), (21, .putfield 18, 3), (24, .return_, 1)]
theorem dtbX8_init_0 : ∀ q ∈ tbX8_init_0, decode cX8_init q.1 = .ok q.2 := by decide +kernel
def tbX8_addByte_0 : List (Nat × Instr × Nat) := [(0, .aload_n 0, 1), (1, .getfield 22, 3), (4, .sipush 150, 3), (7, .if_icmp .ge 24, 3), (10, .aload_n 0, 1), (11, .getfield 9, 3), (14, .aload_n 0, 1), (15, .getfield 22, 3), (18, .iload_n 1, 1), (19, .i2b, 1), (20, .bastore, 1), (21, .aload_n 0, 1), (22, .dup, 1), (23, .getfield 22, 3), (26, .iconst 1, 1), (27, .iadd, 1), (28, .putfield 22, 3), (31, .return_, 1)]
theorem dtbX8_addByte_0 : ∀ q ∈ tbX8_addByte_0, decode cX8_addByte q.1 = .ok q.2 := by decide +kernel
def tbX8_itemsOrFault_0 : List (Nat × Instr × Nat) := [(0, .aload_n 0, 1), (1, .iconst 0, 1), (2, .putfield 26, 3), (5, .aload_n 0, 1), (6, .getfield 18, 3), (9, .iconst 0, 1), (10, .invokevirtual 29, 3), (13, .iconst 0, 1), (14, .istore_n 1, 1), (15, .aload_n 0, 1), (16, .invokevirtual 33, 3), (19, .iload_n 1, 1), (20, .sipush 150, 3), (23, .if_icmp .ge 44, 3), (26, .aload_n 0, 1), (27, .getfield 36, 3), (30, .ifCond .eq 37, 3), (33, .aload_n 0, 1), (34, .iload_n 1, 1), (35, .ifCond .ne 7, 3), (38, .iconst 1, 1), (39, .goto 4, 3), (42, .iconst 0, 1), (43, .invokevirtual 39, 3), (46, .ifCond .ne 11, 3), (49, .bipush (-10), 2), (51, .aload_n 0, 1), (52, .getfield 43, 3), (55, .isub, 1), (56, .ireturn, 1), (57, .iinc 1 1, 3), (60, .aload_n 0, 1), (61, .invokevirtual 33, 3), (64, .goto (-45), 3), (67, .iload_n 1, 1), (68, .ifCond .ne 13, 3), (71, .bipush (-10), 2), (73, .aload_n 0, 1), (74, .getfield 43, 3), (77, .isub, 1), (78, .goto 4, 3), (81, .iload_n 1, 1), (82, .ireturn, 1)]
theorem dtbX8_itemsOrFault_0 : ∀ q ∈ tbX8_itemsOrFault_0, decode cX8_itemsOrFault q.1 = .ok q.2 := by decide +kernel
def tbX8_takeItem_0 : List (Nat × Instr × Nat) := [(0, .aload_n 0, 1), (1, .ldc 46, 2), (3, .invokevirtual 48, 3), (6, .ifCond .eq 20, 3), (9, .iload_n 1, 1), (10, .ifCond .eq 14, 3), (13, .aload_n 0, 1), (14, .invokevirtual 52, 3), (17, .ifCond .eq 7, 3), (20, .iconst 1, 1), (21, .goto 4, 3), (24, .iconst 0, 1), (25, .ireturn, 1), (26, .iload_n 1, 1), (27, .ifCond .eq 5, 3), (30, .iconst 0, 1), (31, .ireturn, 1), (32, .aload_n 0, 1), (33, .ldc 56, 2), (35, .invokevirtual 48, 3), (38, .ifCond .eq 28, 3), (41, .aload_n 0, 1), (42, .getfield 18, 3), (45, .getfield 58, 3), (48, .bipush 7, 2), (50, .if_icmp .ge 14, 3), (53, .aload_n 0, 1), (54, .invokevirtual 61, 3), (57, .ifCond .eq 7, 3), (60, .iconst 1, 1), (61, .goto 4, 3), (64, .iconst 0, 1), (65, .ireturn, 1), (66, .aload_n 0, 1), (67, .ldc 64, 2), (69, .invokevirtual 48, 3), (72, .ifCond .eq 11, 3), (75, .aload_n 0, 1), (76, .iconst 5, 1), (77, .bipush 30, 2), (79, .invokevirtual 66, 3), (82, .ireturn, 1), (83, .aload_n 0, 1), (84, .ldc 70, 2), (86, .invokevirtual 48, 3), (89, .ifCond .eq 17, 3), (92, .aload_n 0, 1), (93, .iconst 1, 1), (94, .bipush 99, 2), (96, .invokevirtual 66, 3), (99, .ifCond .eq 7, 3), (102, .iconst 1, 1), (103, .goto 4, 3), (106, .iconst 0, 1), (107, .ireturn, 1)]
theorem dtbX8_takeItem_0 : ∀ q ∈ tbX8_takeItem_0, decode cX8_takeItem q.1 = .ok q.2 := by decide +kernel
def tbX8_takeAccount_0 : List (Nat × Instr × Nat) := [(0, .aload_n 0, 1), (1, .iconst 0, 1), (2, .bipush 99, 2), (4, .invokevirtual 72, 3), (7, .ifCond .ne 5, 3), (10, .iconst 0, 1), (11, .ireturn, 1), (12, .aload_n 0, 1), (13, .getfield 18, 3), (16, .getfield 75, 3), (19, .iconst 0, 1), (20, .bipush 10, 2), (22, .aload_n 0, 1), (23, .getfield 79, 3), (26, .imul, 1), (27, .iastore, 1), (28, .aload_n 0, 1), (29, .invokevirtual 82, 3), (32, .ireturn, 1)]
theorem dtbX8_takeAccount_0 : ∀ q ∈ tbX8_takeAccount_0, decode cX8_takeAccount q.1 = .ok q.2 := by decide +kernel
def tbX8_takeBill_0 : List (Nat × Instr × Nat) := [(0, .aload_n 0, 1), (1, .iconst 0, 1), (2, .iconst 5, 1), (3, .invokevirtual 72, 3), (6, .ifCond .ne 5, 3), (9, .iconst 0, 1), (10, .ireturn, 1), (11, .aload_n 0, 1), (12, .getfield 79, 3), (15, .istore_n 1, 1), (16, .aload_n 0, 1), (17, .iconst 1, 1), (18, .bipush 28, 2), (20, .invokevirtual 72, 3), (23, .ifCond .ne 5, 3), (26, .iconst 0, 1), (27, .ireturn, 1), (28, .aload_n 0, 1), (29, .getfield 79, 3), (32, .istore_n 2, 1), (33, .aload_n 0, 1), (34, .iconst 1, 1), (35, .bipush 99, 2), (37, .invokevirtual 72, 3), (40, .ifCond .ne 5, 3), (43, .iconst 0, 1), (44, .ireturn, 1), (45, .aload_n 0, 1), (46, .getfield 18, 3), (49, .iload_n 1, 1), (50, .iload_n 2, 1), (51, .aload_n 0, 1), (52, .getfield 79, 3), (55, .invokevirtual 85, 3), (58, .aload_n 0, 1), (59, .invokevirtual 82, 3), (62, .ireturn, 1)]
theorem dtbX8_takeBill_0 : ∀ q ∈ tbX8_takeBill_0, decode cX8_takeBill q.1 = .ok q.2 := by decide +kernel
def tbX8_takeFigure_0 : List (Nat × Instr × Nat) := [(0, .iload_n 1, 1), (1, .iconst 0, 1), (2, .iconst 5, 1), (3, .invokestatic 89, 3), (6, .ifCond .eq 12, 3), (9, .aload_n 0, 1), (10, .iconst 0, 1), (11, .iload_n 2, 1), (12, .invokevirtual 72, 3), (15, .ifCond .ne 5, 3), (18, .iconst 0, 1), (19, .ireturn, 1), (20, .aload_n 0, 1), (21, .getfield 18, 3), (24, .getfield 75, 3), (27, .iload_n 1, 1), (28, .aload_n 0, 1), (29, .getfield 79, 3), (32, .iastore, 1), (33, .aload_n 0, 1), (34, .invokevirtual 82, 3), (37, .ireturn, 1)]
theorem dtbX8_takeFigure_0 : ∀ q ∈ tbX8_takeFigure_0, decode cX8_takeFigure q.1 = .ok q.2 := by decide +kernel
def tbX8_takeNumber_0 : List (Nat × Instr × Nat) := [(0, .aload_n 0, 1), (1, .invokevirtual 33, 3), (4, .aload_n 0, 1), (5, .getfield 36, 3), (8, .iconst 2, 1), (9, .if_icmp .ne 19, 3), (12, .aload_n 0, 1), (13, .getfield 79, 3), (16, .iload_n 1, 1), (17, .iload_n 2, 1), (18, .invokestatic 89, 3), (21, .ifCond .eq 7, 3), (24, .iconst 1, 1), (25, .goto 4, 3), (28, .iconst 0, 1), (29, .ireturn, 1)]
theorem dtbX8_takeNumber_0 : ∀ q ∈ tbX8_takeNumber_0, decode cX8_takeNumber q.1 = .ok q.2 := by decide +kernel
def tbX8_takeStop_0 : List (Nat × Instr × Nat) := [(0, .aload_n 0, 1), (1, .invokevirtual 33, 3), (4, .aload_n 0, 1), (5, .getfield 36, 3), (8, .iconst 3, 1), (9, .if_icmp .ne 7, 3), (12, .iconst 1, 1), (13, .goto 4, 3), (16, .iconst 0, 1), (17, .ireturn, 1)]
theorem dtbX8_takeStop_0 : ∀ q ∈ tbX8_takeStop_0, decode cX8_takeStop q.1 = .ok q.2 := by decide +kernel
def tbX8_spells_0 : List (Nat × Instr × Nat) := [(0, .aload_n 0, 1), (1, .getfield 36, 3), (4, .iconst 1, 1), (5, .if_icmp .ne 19, 3), (8, .aload_n 0, 1), (9, .getfield 26, 3), (12, .aload_n 0, 1), (13, .getfield 43, 3), (16, .isub, 1), (17, .aload_n 1, 1), (18, .invokevirtual 93, 3), (21, .if_icmp .eq 5, 3), (24, .iconst 0, 1), (25, .ireturn, 1), (26, .iconst 0, 1), (27, .istore_n 2, 1), (28, .iload_n 2, 1), (29, .aload_n 1, 1), (30, .invokevirtual 93, 3), (33, .if_icmp .ge 29, 3), (36, .aload_n 0, 1), (37, .aload_n 0, 1), (38, .getfield 43, 3), (41, .iload_n 2, 1), (42, .iadd, 1), (43, .invokevirtual 98, 3), (46, .aload_n 1, 1), (47, .iload_n 2, 1), (48, .invokevirtual 102, 3), (51, .if_icmp .eq 5, 3), (54, .iconst 0, 1), (55, .ireturn, 1), (56, .iinc 2 1, 3), (59, .goto (-31), 3), (62, .iconst 1, 1), (63, .ireturn, 1)]
theorem dtbX8_spells_0 : ∀ q ∈ tbX8_spells_0, decode cX8_spells q.1 = .ok q.2 := by decide +kernel
end
section
def tbX8_takeToken_0 : List (Nat × Instr × Nat) := [(0, .aload_n 0, 1), (1, .bipush 32, 2), (3, .bipush 32, 2), (5, .invokevirtual 106, 3), (8, .aload_n 0, 1), (9, .aload_n 0, 1), (10, .getfield 26, 3), (13, .putfield 43, 3), (16, .aload_n 0, 1), (17, .aload_n 0, 1), (18, .getfield 43, 3), (21, .invokevirtual 98, 3), (24, .istore_n 1, 1), (25, .iload_n 1, 1), (26, .iconst (-1), 1), (27, .if_icmp .ne 11, 3), (30, .aload_n 0, 1), (31, .iconst 0, 1), (32, .putfield 36, 3), (35, .goto 144, 3), (38, .iload_n 1, 1), (39, .bipush 97, 2), (41, .bipush 122, 2), (43, .invokestatic 89, 3), (46, .ifCond .eq 19, 3), (49, .aload_n 0, 1), (50, .bipush 97, 2), (52, .bipush 122, 2), (54, .invokevirtual 106, 3), (57, .aload_n 0, 1), (58, .iconst 1, 1), (59, .putfield 36, 3), (62, .goto 117, 3), (65, .iload_n 1, 1), (66, .bipush 48, 2), (68, .bipush 57, 2), (70, .invokestatic 89, 3), (73, .ifCond .eq 81, 3), (76, .aload_n 0, 1), (77, .bipush 48, 2), (79, .bipush 57, 2), (81, .invokevirtual 106, 3), (84, .aload_n 0, 1), (85, .aload_n 0, 1), (86, .getfield 26, 3), (89, .aload_n 0, 1), (90, .getfield 43, 3), (93, .isub, 1), (94, .iconst 2, 1), (95, .if_icmp .le 7, 3), (98, .iconst 4, 1), (99, .goto 4, 3), (102, .iconst 2, 1), (103, .putfield 36, 3), (106, .aload_n 0, 1), (107, .aload_n 0, 1), (108, .getfield 26, 3), (111, .aload_n 0, 1), (112, .getfield 43, 3), (115, .isub, 1)]
theorem dtbX8_takeToken_0 : ∀ q ∈ tbX8_takeToken_0, decode cX8_takeToken q.1 = .ok q.2 := by decide +kernel
def tbX8_takeToken_1 : List (Nat × Instr × Nat) := [(116, .iconst 1, 1), (117, .if_icmp .ne 10, 3), (120, .iload_n 1, 1), (121, .bipush 48, 2), (123, .isub, 1), (124, .goto 24, 3), (127, .bipush 10, 2), (129, .iload_n 1, 1), (130, .bipush 48, 2), (132, .isub, 1), (133, .imul, 1), (134, .aload_n 0, 1), (135, .aload_n 0, 1), (136, .getfield 43, 3), (139, .iconst 1, 1), (140, .iadd, 1), (141, .invokevirtual 98, 3), (144, .iadd, 1), (145, .bipush 48, 2), (147, .isub, 1), (148, .putfield 79, 3), (151, .goto 28, 3), (154, .aload_n 0, 1), (155, .dup, 1), (156, .getfield 26, 3), (159, .iconst 1, 1), (160, .iadd, 1), (161, .putfield 26, 3), (164, .aload_n 0, 1), (165, .iload_n 1, 1), (166, .bipush 59, 2), (168, .if_icmp .ne 7, 3), (171, .iconst 3, 1), (172, .goto 4, 3), (175, .iconst 4, 1), (176, .putfield 36, 3), (179, .return_, 1)]
theorem dtbX8_takeToken_1 : ∀ q ∈ tbX8_takeToken_1, decode cX8_takeToken q.1 = .ok q.2 := by decide +kernel
def tbX8_skipRun_0 : List (Nat × Instr × Nat) := [(0, .aload_n 0, 1), (1, .getfield 26, 3), (4, .aload_n 0, 1), (5, .getfield 22, 3), (8, .if_icmp .ge 52, 3), (11, .aload_n 0, 1), (12, .getfield 26, 3), (15, .sipush 150, 3), (18, .if_icmp .ge 42, 3), (21, .aload_n 0, 1), (22, .getfield 9, 3), (25, .aload_n 0, 1), (26, .getfield 26, 3), (29, .baload, 1), (30, .iload_n 1, 1), (31, .if_icmp .lt 29, 3), (34, .aload_n 0, 1), (35, .getfield 9, 3), (38, .aload_n 0, 1), (39, .getfield 26, 3), (42, .baload, 1), (43, .iload_n 2, 1), (44, .if_icmp .gt 16, 3), (47, .aload_n 0, 1), (48, .dup, 1), (49, .getfield 26, 3), (52, .iconst 1, 1), (53, .iadd, 1), (54, .putfield 26, 3), (57, .goto (-57), 3), (60, .return_, 1)]
theorem dtbX8_skipRun_0 : ∀ q ∈ tbX8_skipRun_0, decode cX8_skipRun q.1 = .ok q.2 := by decide +kernel
def tbX8_byteAt_0 : List (Nat × Instr × Nat) := [(0, .iload_n 1, 1), (1, .ifCond .lt 27, 3), (4, .iload_n 1, 1), (5, .aload_n 0, 1), (6, .getfield 22, 3), (9, .if_icmp .ge 19, 3), (12, .iload_n 1, 1), (13, .sipush 150, 3), (16, .if_icmp .ge 12, 3), (19, .aload_n 0, 1), (20, .getfield 9, 3), (23, .iload_n 1, 1), (24, .baload, 1), (25, .goto 4, 3), (28, .iconst (-1), 1), (29, .ireturn, 1)]
theorem dtbX8_byteAt_0 : ∀ q ∈ tbX8_byteAt_0, decode cX8_byteAt q.1 = .ok q.2 := by decide +kernel
def tbX9_init_0 : List (Nat × Instr × Nat) := [(0, .aload_n 0, 1), (1, .invokespecial 1, 3), (4, .return_, 1)]
theorem dtbX9_init_0 : ∀ q ∈ tbX9_init_0, decode cX9_init q.1 = .ok q.2 := by decide +kernel
def tbX9_poundsIn_0 : List (Nat × Instr × Nat) := [(0, .iload_n 1, 1), (1, .bipush 12, 2), (3, .irem, 1), (4, .ifCond .ne 15, 3), (7, .bipush 10, 2), (9, .aload_n 0, 1), (10, .iload_n 1, 1), (11, .iload_n 2, 1), (12, .invokespecial 7, 3), (15, .imul, 1), (16, .goto 4, 3), (19, .iconst 0, 1), (20, .ireturn, 1)]
theorem dtbX9_poundsIn_0 : ∀ q ∈ tbX9_poundsIn_0, decode cX9_poundsIn q.1 = .ok q.2 := by decide +kernel
def tbX10_init_0 : List (Nat × Instr × Nat) := [(0, .aload_n 0, 1), (1, .invokespecial 1, 3), (4, .aload_n 0, 1), (5, .new 7, 3), (8, .dup, 1), (9, .invokespecial 9, 3), (12, .putfield 10, 3), (15, .aload_n 0, 1), (16, .new 7, 3), (19, .dup, 1), (20, .invokespecial 9, 3), (23, .putfield 16, 3), (26, .aload_n 0, 1), (27, .new 7, 3), (30, .dup, 1), (31, .invokespecial 9, 3), (34, .putfield 19, 3), (37, .aload_n 0, 1), (38, .iconst 2, 1), (39, .newarray .boolean, 2), (41, .putfield 22, 3), (44, .aload_n 0, 1), (45, .new 26, 3), (48, .dup, 1), (49, .invokespecial 28, 3), (52, .putfield 29, 3), (55, .aload_n 0, 1), (56, .new 33, 3), (59, .dup, 1), (60, .invokespecial 35, 3), (63, .putfield 36, 3), (66, .aload_n 0, 1), (67, .aload_n 0, 1), (68, .getfield 36, 3), (71, .getfield 40, 3), (74, .putfield 44, 3), (77, .aload_n 0, 1), (78, .bipush 7, 2), (80, .newarray .int, 2), (82, .putfield 45, 3), (85, .aload_n 0, 1), (86, .lconst 1, 1), (87, .putfield 49, 3), (90, .return_, 1)]
theorem dtbX10_init_0 : ∀ q ∈ tbX10_init_0, decode cX10_init q.1 = .ok q.2 := by decide +kernel
def tbX10_account_0 : List (Nat × Instr × Nat) := [(0, .iload_n 1, 1), (1, .iconst 0, 1), (2, .sipush 999, 3), (5, .invokestatic 53, 3), (8, .ifCond .ne 10, 3), (11, .aload_n 0, 1), (12, .bipush (-2), 2), (14, .invokevirtual 57, 3), (17, .ireturn, 1), (18, .aload_n 0, 1), (19, .getfield 10, 3), (22, .getfield 61, 3), (25, .istore_n 2, 1), (26, .aload_n 0, 1), (27, .getfield 10, 3), (30, .iload_n 1, 1), (31, .invokevirtual 65, 3), (34, .iload_n 2, 1), (35, .ireturn, 1)]
theorem dtbX10_account_0 : ∀ q ∈ tbX10_account_0, decode cX10_account q.1 = .ok q.2 := by decide +kernel
def tbX10_bill_0 : List (Nat × Instr × Nat) := [(0, .iload_n 1, 1), (1, .iload_n 2, 1), (2, .iload_n 3, 1), (3, .invokestatic 69, 3), (6, .ifCond .ne 10, 3), (9, .aload_n 0, 1), (10, .bipush (-2), 2), (12, .invokevirtual 57, 3), (15, .ireturn, 1), (16, .aload_n 0, 1), (17, .getfield 10, 3), (20, .getfield 61, 3), (23, .bipush 7, 2), (25, .if_icmp .lt 8, 3), (28, .aload_n 0, 1), (29, .invokevirtual 72, 3), (32, .ireturn, 1), (33, .aload_n 0, 1), (34, .getfield 10, 3), (37, .iload_n 1, 1), (38, .iload_n 2, 1), (39, .iload_n 3, 1), (40, .invokevirtual 76, 3), (43, .aload_n 0, 1), (44, .getfield 10, 3), (47, .getfield 61, 3), (50, .iconst 1, 1), (51, .isub, 1), (52, .ireturn, 1)]
theorem dtbX10_bill_0 : ∀ q ∈ tbX10_bill_0, decode cX10_bill q.1 = .ok q.2 := by decide +kernel
def tbX10_type_0 : List (Nat × Instr × Nat) := [(0, .iload_n 1, 1), (1, .iconst 0, 1), (2, .bipush 127, 2), (4, .invokestatic 53, 3), (7, .ifCond .ne 10, 3), (10, .aload_n 0, 1), (11, .bipush (-2), 2), (13, .invokevirtual 57, 3), (16, .ireturn, 1), (17, .aload_n 0, 1), (18, .getfield 29, 3), (21, .getfield 80, 3), (24, .sipush 150, 3), (27, .if_icmp .lt 8, 3), (30, .aload_n 0, 1), (31, .invokevirtual 72, 3), (34, .ireturn, 1), (35, .aload_n 0, 1), (36, .getfield 29, 3), (39, .iload_n 1, 1), (40, .invokevirtual 83, 3), (43, .aload_n 0, 1), (44, .getfield 29, 3), (47, .getfield 80, 3), (50, .ireturn, 1)]
theorem dtbX10_type_0 : ∀ q ∈ tbX10_type_0, decode cX10_type q.1 = .ok q.2 := by decide +kernel
def tbX10_clear_0 : List (Nat × Instr × Nat) := [(0, .aload_n 0, 1), (1, .getfield 29, 3), (4, .getfield 80, 3), (7, .istore_n 1, 1), (8, .aload_n 0, 1), (9, .getfield 29, 3), (12, .iconst 0, 1), (13, .putfield 80, 3), (16, .iload_n 1, 1), (17, .ireturn, 1)]
theorem dtbX10_clear_0 : ∀ q ∈ tbX10_clear_0, decode cX10_clear q.1 = .ok q.2 := by decide +kernel
def tbX10_read_0 : List (Nat × Instr × Nat) := [(0, .aload_n 0, 1), (1, .getfield 29, 3), (4, .invokevirtual 86, 3), (7, .istore_n 1, 1), (8, .iload_n 1, 1), (9, .ifCond .lt 17, 3), (12, .aload_n 0, 1), (13, .getfield 10, 3), (16, .aload_n 0, 1), (17, .getfield 29, 3), (20, .getfield 89, 3), (23, .invokevirtual 92, 3), (26, .iload_n 1, 1), (27, .ireturn, 1)]
theorem dtbX10_read_0 : ∀ q ∈ tbX10_read_0, decode cX10_read q.1 = .ok q.2 := by decide +kernel
def tbX10_days_0 : List (Nat × Instr × Nat) := [(0, .iload_n 1, 1), (1, .iconst 1, 1), (2, .bipush 99, 2), (4, .invokestatic 53, 3), (7, .ifCond .ne 10, 3), (10, .aload_n 0, 1), (11, .bipush (-2), 2), (13, .invokevirtual 57, 3), (16, .ireturn, 1), (17, .aload_n 0, 1), (18, .getfield 10, 3), (21, .invokevirtual 96, 3), (24, .aload_n 0, 1), (25, .getfield 10, 3), (28, .getfield 99, 3), (31, .iconst 2, 1), (32, .iaload, 1), (33, .istore_n 2, 1), (34, .iconst 0, 1), (35, .istore_n 3, 1), (36, .iload_n 3, 1), (37, .iload_n 1, 1), (38, .if_icmp .ge 13, 3), (41, .aload_n 0, 1), (42, .invokevirtual 102, 3), (45, .iinc 3 1, 3), (48, .goto (-12), 3), (51, .aload_n 0, 1), (52, .getfield 10, 3), (55, .getfield 99, 3), (58, .iconst 2, 1), (59, .iaload, 1), (60, .iload_n 2, 1), (61, .isub, 1), (62, .ireturn, 1)]
theorem dtbX10_days_0 : ∀ q ∈ tbX10_days_0, decode cX10_days q.1 = .ok q.2 := by decide +kernel
def tbX10_spend_0 : List (Nat × Instr × Nat) := [(0, .iload_n 1, 1), (1, .iconst 0, 1), (2, .bipush 30, 2), (4, .invokestatic 53, 3), (7, .ifCond .ne 10, 3), (10, .aload_n 0, 1), (11, .bipush (-2), 2), (13, .invokevirtual 57, 3), (16, .ireturn, 1), (17, .aload_n 0, 1), (18, .getfield 10, 3), (21, .invokevirtual 96, 3), (24, .aload_n 0, 1), (25, .getfield 10, 3), (28, .getfield 99, 3), (31, .iconst 5, 1), (32, .iaload, 1), (33, .istore_n 2, 1), (34, .aload_n 0, 1), (35, .getfield 10, 3), (38, .getfield 99, 3), (41, .iconst 5, 1), (42, .iload_n 1, 1), (43, .iastore, 1), (44, .iload_n 2, 1), (45, .ireturn, 1)]
theorem dtbX10_spend_0 : ∀ q ∈ tbX10_spend_0, decode cX10_spend q.1 = .ok q.2 := by decide +kernel
def tbX10_jar_0 : List (Nat × Instr × Nat) := [(0, .iload_n 1, 1), (1, .bipush (-99), 2), (3, .bipush 99, 2), (5, .invokestatic 53, 3), (8, .ifCond .ne 10, 3), (11, .aload_n 0, 1), (12, .bipush (-2), 2), (14, .invokevirtual 57, 3), (17, .ireturn, 1), (18, .aload_n 0, 1), (19, .getfield 10, 3), (22, .getfield 99, 3), (25, .iconst 1, 1), (26, .iaload, 1), (27, .iload_n 1, 1), (28, .iadd, 1), (29, .ifCond .ge 7, 3), (32, .iconst 1, 1), (33, .goto 4, 3), (36, .iconst 0, 1), (37, .istore_n 2, 1), (38, .iload_n 1, 1), (39, .ifCond .le 21, 3), (42, .aload_n 0, 1), (43, .getfield 10, 3), (46, .getfield 99, 3), (49, .iconst 0, 1), (50, .iaload, 1), (51, .iload_n 1, 1), (52, .isub, 1), (53, .ifCond .ge 7, 3), (56, .iconst 1, 1), (57, .goto 4, 3), (60, .iconst 0, 1), (61, .istore_n 3, 1), (62, .iload_n 2, 1), (63, .ifCond .ne 7, 3), (66, .iload_n 3, 1), (67, .ifCond .eq 8, 3), (70, .aload_n 0, 1), (71, .invokevirtual 105, 3), (74, .ireturn, 1), (75, .aload_n 0, 1), (76, .getfield 10, 3), (79, .invokevirtual 96, 3), (82, .aload_n 0, 1), (83, .getfield 10, 3), (86, .getfield 99, 3), (89, .iconst 0, 1), (90, .dup2, 1), (91, .iaload, 1), (92, .iload_n 1, 1), (93, .isub, 1), (94, .iastore, 1), (95, .aload_n 0, 1), (96, .getfield 10, 3), (99, .getfield 99, 3), (102, .iconst 1, 1), (103, .dup2, 1), (104, .iaload, 1)]
theorem dtbX10_jar_0 : ∀ q ∈ tbX10_jar_0, decode cX10_jar q.1 = .ok q.2 := by decide +kernel
def tbX10_jar_1 : List (Nat × Instr × Nat) := [(105, .iload_n 1, 1), (106, .iadd, 1), (107, .iastore, 1), (108, .aload_n 0, 1), (109, .getfield 10, 3), (112, .getfield 99, 3), (115, .iconst 1, 1), (116, .iaload, 1), (117, .ireturn, 1)]
theorem dtbX10_jar_1 : ∀ q ∈ tbX10_jar_1, decode cX10_jar q.1 = .ok q.2 := by decide +kernel
def tbX10_undo_0 : List (Nat × Instr × Nat) := [(0, .aload_n 0, 1), (1, .getfield 10, 3), (4, .getfield 108, 3), (7, .ifCond .gt 8, 3), (10, .aload_n 0, 1), (11, .invokevirtual 105, 3), (14, .ireturn, 1), (15, .aload_n 0, 1), (16, .getfield 10, 3), (19, .invokevirtual 111, 3), (22, .aload_n 0, 1), (23, .getfield 10, 3), (26, .getfield 99, 3), (29, .iconst 3, 1), (30, .iaload, 1), (31, .ireturn, 1)]
theorem dtbX10_undo_0 : ∀ q ∈ tbX10_undo_0, decode cX10_undo q.1 = .ok q.2 := by decide +kernel
def tbX10_of_0 : List (Nat × Instr × Nat) := [(0, .aload_n 0, 1), (1, .iload_n 1, 1), (2, .invokevirtual 114, 3), (5, .ifCond .eq 12, 3), (8, .iload_n 2, 1), (9, .iconst 0, 1), (10, .iconst 4, 1), (11, .invokestatic 53, 3), (14, .ifCond .ne 11, 3), (17, .aload_n 0, 1), (18, .sipush (-10000), 3), (21, .invokevirtual 57, 3), (24, .ireturn, 1), (25, .aload_n 0, 1), (26, .getfield 44, 3), (29, .aload_n 0, 1), (30, .getfield 10, 3), (33, .iload_n 1, 1), (34, .invokevirtual 118, 3), (37, .invokevirtual 121, 3), (40, .astore_n 3, 1), (41, .iload_n 2, 1), (42, .tableswitch 70 0 3 #[30, 39, 48, 57], 30), (72, .aload_n 0, 1), (73, .getfield 10, 3), (76, .iload_n 1, 1), (77, .invokevirtual 118, 3), (80, .ireturn, 1), (81, .aload_n 0, 1), (82, .getfield 10, 3), (85, .iload_n 1, 1), (86, .invokevirtual 127, 3), (89, .ireturn, 1), (90, .aload_n 0, 1), (91, .getfield 10, 3), (94, .iload_n 1, 1), (95, .invokevirtual 130, 3), (98, .ireturn, 1), (99, .aload_n 3, 1), (100, .aload_n 0, 1), (101, .getfield 10, 3), (104, .iload_n 1, 1), (105, .invokevirtual 127, 3), (108, .invokevirtual 133, 3), (111, .ireturn, 1), (112, .aload_n 3, 1), (113, .aload_n 0, 1), (114, .getfield 10, 3), (117, .getfield 99, 3), (120, .iconst 4, 1), (121, .iaload, 1), (122, .aload_n 0, 1), (123, .getfield 10, 3), (126, .iload_n 1, 1), (127, .invokevirtual 130, 3), (130, .invokevirtual 138, 3), (133, .ireturn, 1)]
theorem dtbX10_of_0 : ∀ q ∈ tbX10_of_0, decode cX10_of q.1 = .ok q.2 := by decide +kernel
def tbX10_now_0 : List (Nat × Instr × Nat) := [(0, .iload_n 1, 1), (1, .iconst 0, 1), (2, .iconst 5, 1), (3, .invokestatic 53, 3), (6, .ifCond .ne 10, 3), (9, .aload_n 0, 1), (10, .ldc 142, 2), (12, .invokevirtual 57, 3), (15, .ireturn, 1), (16, .aload_n 0, 1), (17, .getfield 10, 3), (20, .getfield 99, 3), (23, .iload_n 1, 1), (24, .iaload, 1), (25, .ireturn, 1)]
theorem dtbX10_now_0 : ∀ q ∈ tbX10_now_0, decode cX10_now q.1 = .ok q.2 := by decide +kernel
def tbX10_truly_0 : List (Nat × Instr × Nat) := [(0, .aload_n 0, 1), (1, .getfield 10, 3), (4, .getfield 99, 3), (7, .iconst 0, 1), (8, .iaload, 1), (9, .istore_n 1, 1), (10, .iconst 0, 1), (11, .istore_n 2, 1), (12, .iload_n 2, 1), (13, .aload_n 0, 1), (14, .getfield 10, 3), (17, .getfield 61, 3), (20, .if_icmp .ge 85, 3), (23, .aload_n 0, 1), (24, .getfield 44, 3), (27, .aload_n 0, 1), (28, .getfield 10, 3), (31, .iload_n 2, 1), (32, .invokevirtual 118, 3), (35, .invokevirtual 121, 3), (38, .astore_n 3, 1), (39, .aload_n 0, 1), (40, .getfield 10, 3), (43, .iload_n 2, 1), (44, .invokevirtual 118, 3), (47, .iconst 5, 1), (48, .if_icmp .eq 51, 3), (51, .aload_n 3, 1), (52, .aload_n 0, 1), (53, .getfield 10, 3), (56, .iload_n 2, 1), (57, .invokevirtual 127, 3), (60, .invokevirtual 133, 3), (63, .aload_n 0, 1), (64, .getfield 10, 3), (67, .getfield 99, 3), (70, .iconst 3, 1), (71, .iaload, 1), (72, .if_icmp .lt 27, 3), (75, .iload_n 1, 1), (76, .aload_n 3, 1), (77, .aload_n 0, 1), (78, .getfield 10, 3), (81, .getfield 99, 3), (84, .iconst 4, 1), (85, .iaload, 1), (86, .aload_n 0, 1), (87, .getfield 10, 3), (90, .iload_n 2, 1), (91, .invokevirtual 130, 3), (94, .invokevirtual 138, 3), (97, .isub, 1), (98, .istore_n 1, 1), (99, .iinc 2 1, 3), (102, .goto (-90), 3), (105, .iload_n 1, 1), (106, .ireturn, 1)]
theorem dtbX10_truly_0 : ∀ q ∈ tbX10_truly_0, decode cX10_truly q.1 = .ok q.2 := by decide +kernel
def tbX10_then_0 : List (Nat × Instr × Nat) := [(0, .iload_n 1, 1), (1, .iconst 0, 1), (2, .bipush 99, 2), (4, .invokestatic 53, 3), (7, .ifCond .eq 12, 3), (10, .iload_n 2, 1), (11, .iconst 0, 1), (12, .iconst 1, 1), (13, .invokestatic 53, 3), (16, .ifCond .ne 10, 3), (19, .aload_n 0, 1), (20, .ldc 142, 2), (22, .invokevirtual 57, 3), (25, .ireturn, 1), (26, .aload_n 0, 1), (27, .iload_n 1, 1), (28, .invokevirtual 143, 3), (31, .iload_n 2, 1), (32, .ifCond .ne 13, 3), (35, .aload_n 0, 1), (36, .getfield 36, 3), (39, .getfield 146, 3), (42, .goto 10, 3), (45, .aload_n 0, 1), (46, .getfield 36, 3), (49, .getfield 149, 3), (52, .ireturn, 1)]
theorem dtbX10_then_0 : ∀ q ∈ tbX10_then_0, decode cX10_then q.1 = .ok q.2 := by decide +kernel
def tbX10_low_0 : List (Nat × Instr × Nat) := [(0, .iload_n 1, 1), (1, .iconst 1, 1), (2, .bipush 99, 2), (4, .invokestatic 53, 3), (7, .ifCond .eq 12, 3), (10, .iload_n 2, 1), (11, .iconst 0, 1), (12, .iconst 1, 1), (13, .invokestatic 53, 3), (16, .ifCond .ne 10, 3), (19, .aload_n 0, 1), (20, .ldc 142, 2), (22, .invokevirtual 57, 3), (25, .ireturn, 1), (26, .aload_n 0, 1), (27, .iload_n 1, 1), (28, .invokevirtual 143, 3), (31, .iload_n 2, 1), (32, .ifCond .ne 13, 3), (35, .aload_n 0, 1), (36, .getfield 36, 3), (39, .getfield 152, 3), (42, .goto 10, 3), (45, .aload_n 0, 1), (46, .getfield 36, 3), (49, .getfield 155, 3), (52, .ireturn, 1)]
theorem dtbX10_low_0 : ∀ q ∈ tbX10_low_0, decode cX10_low q.1 = .ok q.2 := by decide +kernel
def tbX10_below_0 : List (Nat × Instr × Nat) := [(0, .aload_n 0, 1), (1, .bipush 99, 2), (3, .invokevirtual 143, 3), (6, .aload_n 0, 1), (7, .getfield 36, 3), (10, .getfield 158, 3), (13, .ireturn, 1)]
theorem dtbX10_below_0 : ∀ q ∈ tbX10_below_0, decode cX10_below q.1 = .ok q.2 := by decide +kernel
def tbX10_most_0 : List (Nat × Instr × Nat) := [(0, .iload_n 1, 1), (1, .iconst 1, 1), (2, .bipush 99, 2), (4, .invokestatic 53, 3), (7, .ifCond .ne 10, 3), (10, .aload_n 0, 1), (11, .bipush (-2), 2), (13, .invokevirtual 57, 3), (16, .ireturn, 1), (17, .aload_n 0, 1), (18, .getfield 36, 3), (21, .aload_n 0, 1), (22, .getfield 10, 3), (25, .iload_n 1, 1), (26, .invokevirtual 161, 3), (29, .aload_n 0, 1), (30, .getfield 36, 3), (33, .aload_n 0, 1), (34, .getfield 10, 3), (37, .getfield 99, 3), (40, .iconst 0, 1), (41, .iaload, 1), (42, .invokevirtual 165, 3), (45, .istore_n 2, 1), (46, .iload_n 2, 1), (47, .ifCond .ge 7, 3), (50, .iconst (-1), 1), (51, .goto 4, 3), (54, .iload_n 2, 1), (55, .ireturn, 1)]
theorem dtbX10_most_0 : ∀ q ∈ tbX10_most_0, decode cX10_most q.1 = .ok q.2 := by decide +kernel
def tbX10_need_0 : List (Nat × Instr × Nat) := [(0, .iload_n 1, 1), (1, .iconst 1, 1), (2, .bipush 99, 2), (4, .invokestatic 53, 3), (7, .ifCond .ne 10, 3), (10, .aload_n 0, 1), (11, .bipush (-2), 2), (13, .invokevirtual 57, 3), (16, .ireturn, 1), (17, .aload_n 0, 1), (18, .getfield 36, 3), (21, .aload_n 0, 1), (22, .getfield 10, 3), (25, .iload_n 1, 1), (26, .invokevirtual 161, 3), (29, .aload_n 0, 1), (30, .getfield 36, 3), (33, .aload_n 0, 1), (34, .getfield 10, 3), (37, .getfield 99, 3), (40, .iconst 0, 1), (41, .iaload, 1), (42, .aload_n 0, 1), (43, .getfield 10, 3), (46, .getfield 99, 3), (49, .iconst 5, 1), (50, .iaload, 1), (51, .invokevirtual 168, 3), (54, .istore_n 2, 1), (55, .iload_n 2, 1), (56, .sipush 999, 3), (59, .if_icmp .le 7, 3), (62, .iconst (-1), 1), (63, .goto 4, 3), (66, .iload_n 2, 1), (67, .ireturn, 1)]
theorem dtbX10_need_0 : ∀ q ∈ tbX10_need_0, decode cX10_need q.1 = .ok q.2 := by decide +kernel
def tbX10_move_0 : List (Nat × Instr × Nat) := [(0, .aload_n 0, 1), (1, .getfield 36, 3), (4, .aload_n 0, 1), (5, .getfield 10, 3), (8, .bipush 28, 2), (10, .invokevirtual 161, 3), (13, .aload_n 0, 1), (14, .invokevirtual 171, 3), (17, .istore_n 1, 1), (18, .iconst (-1), 1), (19, .istore_n 2, 1), (20, .iconst 0, 1), (21, .istore_n 3, 1), (22, .iload_n 3, 1), (23, .aload_n 0, 1), (24, .getfield 10, 3), (27, .getfield 61, 3), (30, .if_icmp .ge 120, 3), (33, .aload_n 0, 1), (34, .getfield 36, 3), (37, .aload_n 0, 1), (38, .getfield 10, 3), (41, .iload_n 3, 1), (42, .aload_n 0, 1), (43, .getfield 10, 3), (46, .iload_n 3, 1), (47, .invokevirtual 127, 3), (50, .iconst (-1), 1), (51, .invokevirtual 174, 3), (54, .iconst 1, 1), (55, .istore 4, 2), (57, .iload 4, 2), (59, .bipush 28, 2), (61, .if_icmp .gt 62, 3), (64, .aload_n 0, 1), (65, .getfield 36, 3), (68, .aload_n 0, 1), (69, .getfield 10, 3), (72, .iload_n 3, 1), (73, .iload 4, 2), (75, .iconst 1, 1), (76, .invokevirtual 174, 3), (79, .aload_n 0, 1), (80, .invokevirtual 171, 3), (83, .istore 5, 2), (85, .iload 5, 2), (87, .iload_n 1, 1), (88, .if_icmp .ge 14, 3), (91, .iload 5, 2), (93, .istore_n 1, 1), (94, .bipush 100, 2), (96, .iload_n 3, 1), (97, .imul, 1), (98, .iload 4, 2), (100, .iadd, 1), (101, .istore_n 2, 1), (102, .aload_n 0, 1), (103, .getfield 36, 3), (106, .aload_n 0, 1), (107, .getfield 10, 3)]
theorem dtbX10_move_0 : ∀ q ∈ tbX10_move_0, decode cX10_move q.1 = .ok q.2 := by decide +kernel
def tbX10_move_1 : List (Nat × Instr × Nat) := [(110, .iload_n 3, 1), (111, .iload 4, 2), (113, .iconst (-1), 1), (114, .invokevirtual 174, 3), (117, .iinc 4 1, 3), (120, .goto (-63), 3), (123, .aload_n 0, 1), (124, .getfield 36, 3), (127, .aload_n 0, 1), (128, .getfield 10, 3), (131, .iload_n 3, 1), (132, .aload_n 0, 1), (133, .getfield 10, 3), (136, .iload_n 3, 1), (137, .invokevirtual 127, 3), (140, .iconst 1, 1), (141, .invokevirtual 174, 3), (144, .iinc 3 1, 3), (147, .goto (-125), 3), (150, .iload_n 2, 1), (151, .ireturn, 1)]
theorem dtbX10_move_1 : ∀ q ∈ tbX10_move_1, decode cX10_move q.1 = .ok q.2 := by decide +kernel
def tbX10_monthly_0 : List (Nat × Instr × Nat) := [(0, .aload_n 0, 1), (1, .iload_n 1, 1), (2, .invokevirtual 114, 3), (5, .ifCond .ne 10, 3), (8, .aload_n 0, 1), (9, .ldc 142, 2), (11, .invokevirtual 57, 3), (14, .ireturn, 1), (15, .aload_n 0, 1), (16, .getfield 44, 3), (19, .aload_n 0, 1), (20, .getfield 10, 3), (23, .iload_n 1, 1), (24, .invokevirtual 118, 3), (27, .invokevirtual 121, 3), (30, .astore_n 2, 1), (31, .aload_n 0, 1), (32, .getfield 44, 3), (35, .iconst 0, 1), (36, .invokevirtual 121, 3), (39, .astore_n 3, 1), (40, .aload_n 0, 1), (41, .getfield 10, 3), (44, .iload_n 1, 1), (45, .invokevirtual 130, 3), (48, .istore 4, 2), (50, .iconst 0, 1), (51, .istore 5, 2), (53, .iconst 0, 1), (54, .istore 6, 2), (56, .iload 6, 2), (58, .bipush 12, 2), (60, .if_icmp .ge 45, 3), (63, .aload_n 0, 1), (64, .getfield 10, 3), (67, .getfield 99, 3), (70, .iconst 4, 1), (71, .iaload, 1), (72, .iload 6, 2), (74, .iadd, 1), (75, .istore 7, 2), (77, .iload 5, 2), (79, .aload_n 2, 1), (80, .iload 7, 2), (82, .iload 4, 2), (84, .invokevirtual 138, 3), (87, .aload_n 3, 1), (88, .iload 7, 2), (90, .iload 4, 2), (92, .invokevirtual 138, 3), (95, .isub, 1), (96, .iadd, 1), (97, .istore 5, 2), (99, .iinc 6 1, 3), (102, .goto (-46), 3), (105, .iload 5, 2), (107, .ireturn, 1)]
theorem dtbX10_monthly_0 : ∀ q ∈ tbX10_monthly_0, decode cX10_monthly q.1 = .ok q.2 := by decide +kernel
def tbX10_dear_0 : List (Nat × Instr × Nat) := [(0, .aload_n 0, 1), (1, .getfield 36, 3), (4, .aload_n 0, 1), (5, .getfield 10, 3), (8, .bipush 28, 2), (10, .invokevirtual 161, 3), (13, .iconst (-1), 1), (14, .istore_n 1, 1), (15, .iconst 0, 1), (16, .istore_n 2, 1), (17, .iconst 0, 1), (18, .istore_n 3, 1), (19, .iload_n 3, 1), (20, .aload_n 0, 1), (21, .getfield 10, 3), (24, .getfield 61, 3), (27, .if_icmp .ge 73, 3), (30, .aload_n 0, 1), (31, .getfield 36, 3), (34, .aload_n 0, 1), (35, .getfield 10, 3), (38, .iload_n 3, 1), (39, .aload_n 0, 1), (40, .getfield 10, 3), (43, .iload_n 3, 1), (44, .invokevirtual 127, 3), (47, .iconst (-1), 1), (48, .invokevirtual 174, 3), (51, .aload_n 0, 1), (52, .invokevirtual 171, 3), (55, .istore 4, 2), (57, .iload_n 1, 1), (58, .iconst (-1), 1), (59, .if_icmp .eq 9, 3), (62, .iload 4, 2), (64, .iload_n 2, 1), (65, .if_icmp .ge 8, 3), (68, .iload 4, 2), (70, .istore_n 2, 1), (71, .iload_n 3, 1), (72, .istore_n 1, 1), (73, .aload_n 0, 1), (74, .getfield 36, 3), (77, .aload_n 0, 1), (78, .getfield 10, 3), (81, .iload_n 3, 1), (82, .aload_n 0, 1), (83, .getfield 10, 3), (86, .iload_n 3, 1), (87, .invokevirtual 127, 3), (90, .iconst 1, 1), (91, .invokevirtual 174, 3), (94, .iinc 3 1, 3), (97, .goto (-78), 3), (100, .iload_n 1, 1), (101, .ireturn, 1)]
theorem dtbX10_dear_0 : ∀ q ∈ tbX10_dear_0, decode cX10_dear q.1 = .ok q.2 := by decide +kernel
def tbX10_note_0 : List (Nat × Instr × Nat) := [(0, .iload_n 2, 1), (1, .iconst 1, 1), (2, .bipush 28, 2), (4, .invokestatic 53, 3), (7, .ifCond .eq 17, 3), (10, .iload_n 3, 1), (11, .iconst 1, 1), (12, .bipush 28, 2), (14, .invokestatic 53, 3), (17, .ifCond .eq 7, 3), (20, .iconst 1, 1), (21, .goto 4, 3), (24, .iconst 0, 1), (25, .istore 6, 2), (27, .aload_n 0, 1), (28, .iload_n 1, 1), (29, .invokevirtual 114, 3), (32, .ifCond .eq 33, 3), (35, .iload 6, 2), (37, .ifCond .eq 28, 3), (40, .iload 4, 2), (42, .iconst 0, 1), (43, .bipush 40, 2), (45, .invokestatic 53, 3), (48, .ifCond .eq 17, 3), (51, .iload 5, 2), (53, .sipush (-999), 3), (56, .sipush 999, 3), (59, .invokestatic 53, 3), (62, .ifCond .ne 10, 3), (65, .aload_n 0, 1), (66, .bipush (-2), 2), (68, .invokevirtual 57, 3), (71, .ireturn, 1), (72, .aload_n 0, 1), (73, .getfield 10, 3), (76, .getfield 178, 3), (79, .bipush 6, 2), (81, .if_icmp .lt 8, 3), (84, .aload_n 0, 1), (85, .invokevirtual 72, 3), (88, .ireturn, 1), (89, .aload_n 0, 1), (90, .getfield 10, 3), (93, .iload_n 1, 1), (94, .iload_n 2, 1), (95, .iload_n 3, 1), (96, .iload 4, 2), (98, .iload 5, 2), (100, .invokevirtual 181, 3), (103, .aload_n 0, 1), (104, .getfield 10, 3), (107, .getfield 178, 3), (110, .ireturn, 1)]
theorem dtbX10_note_0 : ∀ q ∈ tbX10_note_0, decode cX10_note q.1 = .ok q.2 := by decide +kernel
end
section
def tbX10_forget_0 : List (Nat × Instr × Nat) := [(0, .aload_n 0, 1), (1, .getfield 10, 3), (4, .getfield 178, 3), (7, .istore_n 1, 1), (8, .aload_n 0, 1), (9, .getfield 10, 3), (12, .iconst 0, 1), (13, .putfield 178, 3), (16, .iload_n 1, 1), (17, .ireturn, 1)]
theorem dtbX10_forget_0 : ∀ q ∈ tbX10_forget_0, decode cX10_forget q.1 = .ok q.2 := by decide +kernel
def tbX10_is_0 : List (Nat × Instr × Nat) := [(0, .aload_n 0, 1), (1, .iload_n 1, 1), (2, .invokevirtual 114, 3), (5, .ifCond .eq 11, 3), (8, .aload_n 0, 1), (9, .iload_n 1, 1), (10, .invokevirtual 185, 3), (13, .goto 9, 3), (16, .aload_n 0, 1), (17, .bipush (-2), 2), (19, .invokevirtual 57, 3), (22, .ireturn, 1)]
theorem dtbX10_is_0 : ∀ q ∈ tbX10_is_0, decode cX10_is q.1 = .ok q.2 := by decide +kernel
def tbX10_look_0 : List (Nat × Instr × Nat) := [(0, .aload_n 0, 1), (1, .iload_n 1, 1), (2, .invokevirtual 114, 3), (5, .ifCond .ne 10, 3), (8, .aload_n 0, 1), (9, .bipush (-2), 2), (11, .invokevirtual 57, 3), (14, .ireturn, 1), (15, .aload_n 0, 1), (16, .iload_n 1, 1), (17, .invokevirtual 185, 3), (20, .istore_n 2, 1), (21, .iload_n 2, 1), (22, .ifCond .ne 5, 3), (25, .iconst (-1), 1), (26, .ireturn, 1), (27, .iconst 0, 1), (28, .istore_n 3, 1), (29, .bipush 7, 2), (31, .istore 4, 2), (33, .iconst 0, 1), (34, .istore 5, 2), (36, .iload 5, 2), (38, .bipush 12, 2), (40, .if_icmp .gt 33, 3), (43, .aload_n 0, 1), (44, .iload_n 2, 1), (45, .iload_n 1, 1), (46, .iload 5, 2), (48, .invokevirtual 188, 3), (51, .istore 6, 2), (53, .iload 6, 2), (55, .iload 4, 2), (57, .if_icmp .ge 10, 3), (60, .iload 6, 2), (62, .istore 4, 2), (64, .iload 5, 2), (66, .istore_n 3, 1), (67, .iinc 5 1, 3), (70, .goto (-34), 3), (73, .iload_n 3, 1), (74, .ireturn, 1)]
theorem dtbX10_look_0 : ∀ q ∈ tbX10_look_0, decode cX10_look q.1 = .ok q.2 := by decide +kernel
def tbX10_two_0 : List (Nat × Instr × Nat) := [(0, .iload_n 1, 1), (1, .iconst 1, 1), (2, .bipush 28, 2), (4, .invokestatic 53, 3), (7, .ifCond .eq 8, 3), (10, .iload_n 2, 1), (11, .iconst (-1), 1), (12, .if_icmp .ge 10, 3), (15, .aload_n 0, 1), (16, .bipush (-10), 2), (18, .invokevirtual 57, 3), (21, .ireturn, 1), (22, .aload_n 0, 1), (23, .iload_n 1, 1), (24, .invokevirtual 192, 3), (27, .iconst 0, 1), (28, .istore_n 3, 1), (29, .iconst 0, 1), (30, .istore 4, 2), (32, .iload 4, 2), (34, .bipush 16, 2), (36, .if_icmp .ge 54, 3), (39, .iload 4, 2), (41, .iconst 4, 1), (42, .idiv, 1), (43, .istore 5, 2), (45, .iload 4, 2), (47, .iconst 4, 1), (48, .irem, 1), (49, .istore 6, 2), (51, .aload_n 0, 1), (52, .iload 5, 2), (54, .iload 6, 2), (56, .invokevirtual 195, 3), (59, .ifCond .eq 25, 3), (62, .aload_n 0, 1), (63, .iload 6, 2), (65, .iload 5, 2), (67, .invokevirtual 195, 3), (70, .ifCond .eq 14, 3), (73, .iload_n 3, 1), (74, .iload_n 2, 1), (75, .if_icmp .ne 6, 3), (78, .iload 4, 2), (80, .ireturn, 1), (81, .iinc 3 1, 3), (84, .iinc 4 1, 3), (87, .goto (-55), 3), (90, .iload_n 2, 1), (91, .iconst (-1), 1), (92, .if_icmp .ne 7, 3), (95, .iload_n 3, 1), (96, .goto 5, 3), (99, .bipush (-5), 2), (101, .ireturn, 1)]
theorem dtbX10_two_0 : ∀ q ∈ tbX10_two_0, decode cX10_two q.1 = .ok q.2 := by decide +kernel
def tbX10_boiler_0 : List (Nat × Instr × Nat) := [(0, .iload_n 1, 1), (1, .iconst 0, 1), (2, .sipush 999, 3), (5, .invokestatic 53, 3), (8, .ifCond .eq 23, 3), (11, .iload_n 2, 1), (12, .iconst 0, 1), (13, .bipush 99, 2), (15, .invokestatic 53, 3), (18, .ifCond .eq 13, 3), (21, .iload_n 3, 1), (22, .iconst 0, 1), (23, .bipush 10, 2), (25, .invokestatic 53, 3), (28, .ifCond .ne 10, 3), (31, .aload_n 0, 1), (32, .bipush (-2), 2), (34, .invokevirtual 57, 3), (37, .ireturn, 1), (38, .aload_n 0, 1), (39, .iload_n 2, 1), (40, .invokevirtual 143, 3), (43, .aload_n 0, 1), (44, .getfield 36, 3), (47, .getfield 149, 3), (50, .istore 4, 2), (52, .aload_n 0, 1), (53, .getfield 36, 3), (56, .aload_n 0, 1), (57, .getfield 10, 3), (60, .getfield 99, 3), (63, .iconst 0, 1), (64, .iaload, 1), (65, .iload_n 1, 1), (66, .isub, 1), (67, .aload_n 0, 1), (68, .getfield 10, 3), (71, .getfield 99, 3), (74, .iconst 5, 1), (75, .iaload, 1), (76, .invokevirtual 199, 3), (79, .aload_n 0, 1), (80, .getfield 36, 3), (83, .getfield 149, 3), (86, .istore 5, 2), (88, .aload_n 0, 1), (89, .iload_n 3, 1), (90, .iload 5, 2), (92, .imul, 1), (93, .bipush 10, 2), (95, .iload_n 3, 1), (96, .isub, 1), (97, .iload 4, 2), (99, .imul, 1), (100, .iadd, 1), (101, .invokevirtual 203, 3), (104, .iconst 1, 1), (105, .ireturn, 1)]
theorem dtbX10_boiler_0 : ∀ q ∈ tbX10_boiler_0, decode cX10_boiler q.1 = .ok q.2 := by decide +kernel
def tbX10_years_0 : List (Nat × Instr × Nat) := [(0, .iload_n 1, 1), (1, .iconst 0, 1), (2, .ldc 206, 2), (4, .invokestatic 53, 3), (7, .ifCond .eq 13, 3), (10, .iload_n 2, 1), (11, .iconst 0, 1), (12, .bipush 60, 2), (14, .invokestatic 53, 3), (17, .ifCond .ne 10, 3), (20, .aload_n 0, 1), (21, .ldc 142, 2), (23, .invokevirtual 57, 3), (26, .ireturn, 1), (27, .aload_n 0, 1), (28, .getfield 36, 3), (31, .aload_n 0, 1), (32, .getfield 10, 3), (35, .iload_n 2, 1), (36, .invokevirtual 161, 3), (39, .iload_n 1, 1), (40, .i2l, 1), (41, .lstore_n 3, 1), (42, .iconst 0, 1), (43, .istore 5, 2), (45, .iload 5, 2), (47, .iload_n 2, 1), (48, .if_icmp .ge 42, 3), (51, .lload_n 3, 1), (52, .ldc2_w 207, 3), (55, .lmul, 1), (56, .ldc2_w 209, 3), (59, .ladd, 1), (60, .ldc2_w 211, 3), (63, .lrem, 1), (64, .lstore_n 3, 1), (65, .aload_n 0, 1), (66, .getfield 36, 3), (69, .iload 5, 2), (71, .lload_n 3, 1), (72, .ldc2_w 213, 3), (75, .ldiv, 1), (76, .ldc2_w 215, 3), (79, .lrem, 1), (80, .l2i, 1), (81, .invokevirtual 217, 3), (84, .iinc 5 1, 3), (87, .goto (-42), 3), (90, .aload_n 0, 1), (91, .getfield 36, 3), (94, .aload_n 0, 1), (95, .getfield 10, 3), (98, .getfield 99, 3), (101, .iconst 0, 1), (102, .iaload, 1), (103, .iconst 0, 1), (104, .invokevirtual 199, 3), (107, .aload_n 0, 1), (108, .getfield 36, 3), (111, .getfield 146, 3)]
theorem dtbX10_years_0 : ∀ q ∈ tbX10_years_0, decode cX10_years q.1 = .ok q.2 := by decide +kernel
def tbX10_years_1 : List (Nat × Instr × Nat) := [(114, .ireturn, 1)]
theorem dtbX10_years_1 : ∀ q ∈ tbX10_years_1, decode cX10_years q.1 = .ok q.2 := by decide +kernel
def tbX10_part_0 : List (Nat × Instr × Nat) := [(0, .iload_n 1, 1), (1, .iconst 0, 1), (2, .iconst 1, 1), (3, .invokestatic 53, 3), (6, .ifCond .ne 11, 3), (9, .aload_n 0, 1), (10, .bipush (-2), 2), (12, .invokevirtual 57, 3), (15, .i2l, 1), (16, .lreturn, 1), (17, .iload_n 1, 1), (18, .ifCond .ne 10, 3), (21, .aload_n 0, 1), (22, .getfield 220, 3), (25, .goto 7, 3), (28, .aload_n 0, 1), (29, .getfield 49, 3), (32, .lreturn, 1)]
theorem dtbX10_part_0 : ∀ q ∈ tbX10_part_0, decode cX10_part q.1 = .ok q.2 := by decide +kernel
def tbX10_image_0 : List (Nat × Instr × Nat) := [(0, .iload_n 1, 1), (1, .iconst 0, 1), (2, .iconst 1, 1), (3, .invokestatic 53, 3), (6, .ifCond .ne 10, 3), (9, .aload_n 0, 1), (10, .bipush (-2), 2), (12, .invokevirtual 57, 3), (15, .ireturn, 1), (16, .aload_n 0, 1), (17, .iload_n 1, 1), (18, .invokevirtual 223, 3), (21, .aload_n 0, 1), (22, .getfield 10, 3), (25, .invokevirtual 92, 3), (28, .aload_n 0, 1), (29, .getfield 22, 3), (32, .iload_n 1, 1), (33, .iconst 1, 1), (34, .bastore, 1), (35, .iconst 1, 1), (36, .ireturn, 1)]
theorem dtbX10_image_0 : ∀ q ∈ tbX10_image_0, decode cX10_image q.1 = .ok q.2 := by decide +kernel
def tbX10_from_0 : List (Nat × Instr × Nat) := [(0, .iload_n 1, 1), (1, .iconst 0, 1), (2, .iconst 1, 1), (3, .invokestatic 53, 3), (6, .ifCond .ne 10, 3), (9, .aload_n 0, 1), (10, .bipush (-2), 2), (12, .invokevirtual 57, 3), (15, .ireturn, 1), (16, .aload_n 0, 1), (17, .getfield 22, 3), (20, .iload_n 1, 1), (21, .baload, 1), (22, .ifCond .ne 8, 3), (25, .aload_n 0, 1), (26, .invokevirtual 105, 3), (29, .ireturn, 1), (30, .aload_n 0, 1), (31, .getfield 10, 3), (34, .aload_n 0, 1), (35, .iload_n 1, 1), (36, .invokevirtual 223, 3), (39, .invokevirtual 92, 3), (42, .iconst 1, 1), (43, .ireturn, 1)]
theorem dtbX10_from_0 : ∀ q ∈ tbX10_from_0, decode cX10_from q.1 = .ok q.2 := by decide +kernel
def tbX10_status_0 : List (Nat × Instr × Nat) := [(0, .iload_n 1, 1), (1, .tableswitch 42 0 2 #[27, 32, 37], 27), (28, .aload_n 0, 1), (29, .getfield 227, 3), (32, .ireturn, 1), (33, .aload_n 0, 1), (34, .getfield 230, 3), (37, .ireturn, 1), (38, .aload_n 0, 1), (39, .getfield 233, 3), (42, .ireturn, 1), (43, .aload_n 0, 1), (44, .iconst (-1), 1), (45, .invokevirtual 57, 3), (48, .ireturn, 1)]
theorem dtbX10_status_0 : ∀ q ∈ tbX10_status_0, decode cX10_status q.1 = .ok q.2 := by decide +kernel
def tbX10_count_0 : List (Nat × Instr × Nat) := [(0, .iload_n 1, 1), (1, .tableswitch 63 0 3 #[31, 39, 47, 55], 31), (32, .aload_n 0, 1), (33, .getfield 10, 3), (36, .getfield 61, 3), (39, .ireturn, 1), (40, .aload_n 0, 1), (41, .getfield 10, 3), (44, .getfield 178, 3), (47, .ireturn, 1), (48, .aload_n 0, 1), (49, .getfield 10, 3), (52, .getfield 108, 3), (55, .ireturn, 1), (56, .aload_n 0, 1), (57, .getfield 29, 3), (60, .getfield 80, 3), (63, .ireturn, 1), (64, .aload_n 0, 1), (65, .bipush (-2), 2), (67, .invokevirtual 57, 3), (70, .ireturn, 1)]
theorem dtbX10_count_0 : ∀ q ∈ tbX10_count_0, decode cX10_count q.1 = .ok q.2 := by decide +kernel
def tbX10_digest_0 : List (Nat × Instr × Nat) := [(0, .ldc2_w 236, 3), (3, .lstore_n 1, 1), (4, .ldc2_w 215, 3), (7, .lload_n 1, 1), (8, .lmul, 1), (9, .aload_n 0, 1), (10, .getfield 10, 3), (13, .getfield 61, 3), (16, .i2l, 1), (17, .ladd, 1), (18, .lstore_n 1, 1), (19, .ldc2_w 215, 3), (22, .lload_n 1, 1), (23, .lmul, 1), (24, .aload_n 0, 1), (25, .getfield 10, 3), (28, .getfield 178, 3), (31, .i2l, 1), (32, .ladd, 1), (33, .lstore_n 1, 1), (34, .ldc2_w 215, 3), (37, .lload_n 1, 1), (38, .lmul, 1), (39, .aload_n 0, 1), (40, .getfield 10, 3), (43, .getfield 108, 3), (46, .i2l, 1), (47, .ladd, 1), (48, .lstore_n 1, 1), (49, .ldc2_w 215, 3), (52, .lload_n 1, 1), (53, .lmul, 1), (54, .aload_n 0, 1), (55, .getfield 29, 3), (58, .getfield 80, 3), (61, .i2l, 1), (62, .ladd, 1), (63, .lstore_n 1, 1), (64, .lload_n 1, 1), (65, .aload_n 0, 1), (66, .getfield 10, 3), (69, .getfield 99, 3), (72, .bipush 6, 2), (74, .invokestatic 238, 3), (77, .lstore_n 1, 1), (78, .lload_n 1, 1), (79, .aload_n 0, 1), (80, .getfield 10, 3), (83, .getfield 242, 3), (86, .aload_n 0, 1), (87, .getfield 10, 3), (90, .getfield 61, 3), (93, .iconst 3, 1), (94, .imul, 1), (95, .invokestatic 238, 3), (98, .lstore_n 1, 1), (99, .lload_n 1, 1), (100, .aload_n 0, 1), (101, .getfield 10, 3), (104, .getfield 245, 3)]
theorem dtbX10_digest_0 : ∀ q ∈ tbX10_digest_0, decode cX10_digest q.1 = .ok q.2 := by decide +kernel
def tbX10_digest_1 : List (Nat × Instr × Nat) := [(107, .aload_n 0, 1), (108, .getfield 10, 3), (111, .getfield 178, 3), (114, .iconst 5, 1), (115, .imul, 1), (116, .invokestatic 238, 3), (119, .lstore_n 1, 1), (120, .ldc2_w 215, 3), (123, .lload_n 1, 1), (124, .lmul, 1), (125, .aload_n 0, 1), (126, .getfield 220, 3), (129, .ladd, 1), (130, .lstore_n 1, 1), (131, .ldc2_w 215, 3), (134, .lload_n 1, 1), (135, .lmul, 1), (136, .aload_n 0, 1), (137, .getfield 49, 3), (140, .ladd, 1), (141, .lreturn, 1)]
theorem dtbX10_digest_1 : ∀ q ∈ tbX10_digest_1, decode cX10_digest q.1 = .ok q.2 := by decide +kernel
def tbX10_digestOf_0 : List (Nat × Instr × Nat) := [(0, .lload_n 0, 1), (1, .lstore 4, 2), (3, .iconst 0, 1), (4, .istore 6, 2), (6, .iload 6, 2), (8, .iload_n 3, 1), (9, .if_icmp .ge 30, 3), (12, .iload 6, 2), (14, .aload_n 2, 1), (15, .arraylength, 1), (16, .if_icmp .ge 23, 3), (19, .ldc2_w 215, 3), (22, .lload 4, 2), (24, .lmul, 1), (25, .aload_n 2, 1), (26, .iload 6, 2), (28, .iaload, 1), (29, .i2l, 1), (30, .ladd, 1), (31, .lstore 4, 2), (33, .iinc 6 1, 3), (36, .goto (-30), 3), (39, .lload 4, 2), (41, .lreturn, 1)]
theorem dtbX10_digestOf_0 : ∀ q ∈ tbX10_digestOf_0, decode cX10_digestOf q.1 = .ok q.2 := by decide +kernel
def tbX10_within_0 : List (Nat × Instr × Nat) := [(0, .iload_n 0, 1), (1, .iload_n 1, 1), (2, .if_icmp .lt 12, 3), (5, .iload_n 0, 1), (6, .iload_n 2, 1), (7, .if_icmp .gt 7, 3), (10, .iconst 1, 1), (11, .goto 4, 3), (14, .iconst 0, 1), (15, .ireturn, 1)]
theorem dtbX10_within_0 : ∀ q ∈ tbX10_within_0, decode cX10_within q.1 = .ok q.2 := by decide +kernel
def tbX10_isBill_0 : List (Nat × Instr × Nat) := [(0, .iload_n 0, 1), (1, .iconst 0, 1), (2, .iconst 5, 1), (3, .invokestatic 53, 3), (6, .ifCond .eq 27, 3), (9, .iload_n 1, 1), (10, .iconst 1, 1), (11, .bipush 28, 2), (13, .invokestatic 53, 3), (16, .ifCond .eq 17, 3), (19, .iload_n 2, 1), (20, .iconst 1, 1), (21, .bipush 99, 2), (23, .invokestatic 53, 3), (26, .ifCond .eq 7, 3), (29, .iconst 1, 1), (30, .goto 4, 3), (33, .iconst 0, 1), (34, .ireturn, 1)]
theorem dtbX10_isBill_0 : ∀ q ∈ tbX10_isBill_0, decode cX10_isBill q.1 = .ok q.2 := by decide +kernel
def tbX10_isBillNumber_0 : List (Nat × Instr × Nat) := [(0, .iload_n 1, 1), (1, .ifCond .lt 18, 3), (4, .iload_n 1, 1), (5, .aload_n 0, 1), (6, .getfield 10, 3), (9, .getfield 61, 3), (12, .if_icmp .ge 7, 3), (15, .iconst 1, 1), (16, .goto 4, 3), (19, .iconst 0, 1), (20, .ireturn, 1)]
theorem dtbX10_isBillNumber_0 : ∀ q ∈ tbX10_isBillNumber_0, decode cX10_isBillNumber q.1 = .ok q.2 := by decide +kernel
def tbX10_refuseBad_0 : List (Nat × Instr × Nat) := [(0, .aload_n 0, 1), (1, .dup, 1), (2, .getfield 227, 3), (5, .iconst 1, 1), (6, .iadd, 1), (7, .putfield 227, 3), (10, .iload_n 1, 1), (11, .ireturn, 1)]
theorem dtbX10_refuseBad_0 : ∀ q ∈ tbX10_refuseBad_0, decode cX10_refuseBad q.1 = .ok q.2 := by decide +kernel
def tbX10_refuseNo_0 : List (Nat × Instr × Nat) := [(0, .aload_n 0, 1), (1, .dup, 1), (2, .getfield 230, 3), (5, .iconst 1, 1), (6, .iadd, 1), (7, .putfield 230, 3), (10, .bipush (-3), 2), (12, .ireturn, 1)]
theorem dtbX10_refuseNo_0 : ∀ q ∈ tbX10_refuseNo_0, decode cX10_refuseNo q.1 = .ok q.2 := by decide +kernel
def tbX10_refuseFull_0 : List (Nat × Instr × Nat) := [(0, .aload_n 0, 1), (1, .dup, 1), (2, .getfield 233, 3), (5, .iconst 1, 1), (6, .iadd, 1), (7, .putfield 233, 3), (10, .bipush (-4), 2), (12, .ireturn, 1)]
theorem dtbX10_refuseFull_0 : ∀ q ∈ tbX10_refuseFull_0, decode cX10_refuseFull q.1 = .ok q.2 := by decide +kernel
def tbX10_imageAt_0 : List (Nat × Instr × Nat) := [(0, .iload_n 1, 1), (1, .ifCond .ne 10, 3), (4, .aload_n 0, 1), (5, .getfield 16, 3), (8, .goto 7, 3), (11, .aload_n 0, 1), (12, .getfield 19, 3), (15, .areturn, 1)]
theorem dtbX10_imageAt_0 : ∀ q ∈ tbX10_imageAt_0, decode cX10_imageAt q.1 = .ok q.2 := by decide +kernel
def tbX10_passDay_0 : List (Nat × Instr × Nat) := [(0, .aload_n 0, 1), (1, .getfield 10, 3), (4, .getfield 99, 3), (7, .astore_n 1, 1), (8, .aload_n 1, 1), (9, .iconst 0, 1), (10, .dup2, 1), (11, .iaload, 1), (12, .aload_n 0, 1), (13, .invokevirtual 248, 3), (16, .aload_n 1, 1), (17, .iconst 5, 1), (18, .iaload, 1), (19, .iadd, 1), (20, .isub, 1), (21, .iastore, 1), (22, .aload_n 1, 1), (23, .iconst 0, 1), (24, .iaload, 1), (25, .ifCond .ge 17, 3), (28, .aload_n 1, 1), (29, .iconst 0, 1), (30, .dup2, 1), (31, .iaload, 1), (32, .iconst 1, 1), (33, .isub, 1), (34, .iastore, 1), (35, .aload_n 1, 1), (36, .iconst 2, 1), (37, .dup2, 1), (38, .iaload, 1), (39, .iconst 1, 1), (40, .iadd, 1), (41, .iastore, 1), (42, .aload_n 1, 1), (43, .iconst 3, 1), (44, .iaload, 1), (45, .bipush 28, 2), (47, .if_icmp .ge 13, 3), (50, .aload_n 1, 1), (51, .iconst 3, 1), (52, .dup2, 1), (53, .iaload, 1), (54, .iconst 1, 1), (55, .iadd, 1), (56, .iastore, 1), (57, .goto 23, 3), (60, .aload_n 1, 1), (61, .iconst 4, 1), (62, .iaload, 1), (63, .sipush 999, 3), (66, .if_icmp .ge 14, 3), (69, .aload_n 1, 1), (70, .iconst 3, 1), (71, .iconst 1, 1), (72, .iastore, 1), (73, .aload_n 1, 1), (74, .iconst 4, 1), (75, .dup2, 1), (76, .iaload, 1)]
theorem dtbX10_passDay_0 : ∀ q ∈ tbX10_passDay_0, decode cX10_passDay q.1 = .ok q.2 := by decide +kernel
def tbX10_passDay_1 : List (Nat × Instr × Nat) := [(77, .iconst 1, 1), (78, .iadd, 1), (79, .iastore, 1), (80, .return_, 1)]
theorem dtbX10_passDay_1 : ∀ q ∈ tbX10_passDay_1, decode cX10_passDay q.1 = .ok q.2 := by decide +kernel
def tbX10_drawnToday_0 : List (Nat × Instr × Nat) := [(0, .iconst 0, 1), (1, .istore_n 1, 1), (2, .iconst 0, 1), (3, .istore_n 2, 1), (4, .iload_n 2, 1), (5, .aload_n 0, 1), (6, .getfield 10, 3), (9, .getfield 61, 3), (12, .if_icmp .ge 73, 3), (15, .aload_n 0, 1), (16, .getfield 44, 3), (19, .aload_n 0, 1), (20, .getfield 10, 3), (23, .iload_n 2, 1), (24, .invokevirtual 118, 3), (27, .invokevirtual 121, 3), (30, .astore_n 3, 1), (31, .aload_n 3, 1), (32, .aload_n 0, 1), (33, .getfield 10, 3), (36, .iload_n 2, 1), (37, .invokevirtual 127, 3), (40, .invokevirtual 133, 3), (43, .aload_n 0, 1), (44, .getfield 10, 3), (47, .getfield 99, 3), (50, .iconst 3, 1), (51, .iaload, 1), (52, .if_icmp .ne 27, 3), (55, .iload_n 1, 1), (56, .aload_n 3, 1), (57, .aload_n 0, 1), (58, .getfield 10, 3), (61, .getfield 99, 3), (64, .iconst 4, 1), (65, .iaload, 1), (66, .aload_n 0, 1), (67, .getfield 10, 3), (70, .iload_n 2, 1), (71, .invokevirtual 130, 3), (74, .invokevirtual 138, 3), (77, .iadd, 1), (78, .istore_n 1, 1), (79, .iinc 2 1, 3), (82, .goto (-78), 3), (85, .iload_n 1, 1), (86, .ireturn, 1)]
theorem dtbX10_drawnToday_0 : ∀ q ∈ tbX10_drawnToday_0, decode cX10_drawnToday q.1 = .ok q.2 := by decide +kernel
def tbX10_foresee_0 : List (Nat × Instr × Nat) := [(0, .aload_n 0, 1), (1, .getfield 36, 3), (4, .aload_n 0, 1), (5, .getfield 10, 3), (8, .iload_n 1, 1), (9, .invokevirtual 161, 3), (12, .aload_n 0, 1), (13, .getfield 36, 3), (16, .aload_n 0, 1), (17, .getfield 10, 3), (20, .getfield 99, 3), (23, .iconst 0, 1), (24, .iaload, 1), (25, .aload_n 0, 1), (26, .getfield 10, 3), (29, .getfield 99, 3), (32, .iconst 5, 1), (33, .iaload, 1), (34, .invokevirtual 199, 3), (37, .return_, 1)]
theorem dtbX10_foresee_0 : ∀ q ∈ tbX10_foresee_0, decode cX10_foresee q.1 = .ok q.2 := by decide +kernel
def tbX10_chargesAsLaid_0 : List (Nat × Instr × Nat) := [(0, .aload_n 0, 1), (1, .getfield 36, 3), (4, .aload_n 0, 1), (5, .getfield 10, 3), (8, .getfield 99, 3), (11, .iconst 0, 1), (12, .iaload, 1), (13, .aload_n 0, 1), (14, .getfield 10, 3), (17, .getfield 99, 3), (20, .iconst 5, 1), (21, .iaload, 1), (22, .invokevirtual 199, 3), (25, .aload_n 0, 1), (26, .getfield 36, 3), (29, .getfield 149, 3), (32, .ireturn, 1)]
theorem dtbX10_chargesAsLaid_0 : ∀ q ∈ tbX10_chargesAsLaid_0, decode cX10_chargesAsLaid q.1 = .ok q.2 := by decide +kernel
def tbX10_kindsThatFit_0 : List (Nat × Instr × Nat) := [(0, .iconst 0, 1), (1, .istore_n 2, 1), (2, .iconst 0, 1), (3, .istore_n 3, 1), (4, .iload_n 3, 1), (5, .bipush 6, 2), (7, .if_icmp .ge 31, 3), (10, .aload_n 0, 1), (11, .aload_n 0, 1), (12, .getfield 44, 3), (15, .iload_n 3, 1), (16, .invokevirtual 121, 3), (19, .iload_n 1, 1), (20, .invokevirtual 251, 3), (23, .ifCond .eq 9, 3), (26, .iload_n 2, 1), (27, .iconst 1, 1), (28, .iload_n 3, 1), (29, .ishl, 1), (30, .ior, 1), (31, .istore_n 2, 1), (32, .iinc 3 1, 3), (35, .goto (-31), 3), (38, .iload_n 2, 1), (39, .ireturn, 1)]
theorem dtbX10_kindsThatFit_0 : ∀ q ∈ tbX10_kindsThatFit_0, decode cX10_kindsThatFit q.1 = .ok q.2 := by decide +kernel
def tbX10_fitsNotes_0 : List (Nat × Instr × Nat) := [(0, .iconst 0, 1), (1, .istore_n 3, 1), (2, .iload_n 3, 1), (3, .aload_n 0, 1), (4, .getfield 10, 3), (7, .getfield 178, 3), (10, .if_icmp .ge 41, 3), (13, .aload_n 0, 1), (14, .getfield 10, 3), (17, .iload_n 3, 1), (18, .iconst 0, 1), (19, .invokevirtual 255, 3), (22, .iload_n 2, 1), (23, .if_icmp .ne 22, 3), (26, .aload_n 0, 1), (27, .aload_n 1, 1), (28, .iload_n 3, 1), (29, .aload_n 0, 1), (30, .getfield 10, 3), (33, .iload_n 2, 1), (34, .invokevirtual 130, 3), (37, .invokevirtual 258, 3), (40, .ifCond .ne 5, 3), (43, .iconst 0, 1), (44, .ireturn, 1), (45, .iinc 3 1, 3), (48, .goto (-46), 3), (51, .iconst 1, 1), (52, .ireturn, 1)]
theorem dtbX10_fitsNotes_0 : ∀ q ∈ tbX10_fitsNotes_0, decode cX10_fitsNotes q.1 = .ok q.2 := by decide +kernel
def tbX10_fitsNote_0 : List (Nat × Instr × Nat) := [(0, .aload_n 1, 1), (1, .aload_n 0, 1), (2, .getfield 10, 3), (5, .iload_n 2, 1), (6, .iconst 1, 1), (7, .invokevirtual 255, 3), (10, .invokevirtual 133, 3), (13, .aload_n 0, 1), (14, .getfield 10, 3), (17, .iload_n 2, 1), (18, .iconst 2, 1), (19, .invokevirtual 255, 3), (22, .if_icmp .ne 33, 3), (25, .aload_n 1, 1), (26, .aload_n 0, 1), (27, .getfield 10, 3), (30, .iload_n 2, 1), (31, .iconst 3, 1), (32, .invokevirtual 255, 3), (35, .iload_n 3, 1), (36, .invokevirtual 138, 3), (39, .aload_n 0, 1), (40, .getfield 10, 3), (43, .iload_n 2, 1), (44, .iconst 4, 1), (45, .invokevirtual 255, 3), (48, .if_icmp .ne 7, 3), (51, .iconst 1, 1), (52, .goto 4, 3), (55, .iconst 0, 1), (56, .ireturn, 1)]
theorem dtbX10_fitsNote_0 : ∀ q ∈ tbX10_fitsNote_0, decode cX10_fitsNote q.1 = .ok q.2 := by decide +kernel
def tbX10_mostAlike_0 : List (Nat × Instr × Nat) := [(0, .iconst 0, 1), (1, .istore 4, 2), (3, .iconst 0, 1), (4, .istore 5, 2), (6, .iload 5, 2), (8, .bipush 6, 2), (10, .if_icmp .ge 41, 3), (13, .iload_n 1, 1), (14, .iload 5, 2), (16, .invokestatic 262, 3), (19, .ifCond .eq 26, 3), (22, .iload 4, 2), (24, .aload_n 0, 1), (25, .aload_n 0, 1), (26, .getfield 44, 3), (29, .iload 5, 2), (31, .invokevirtual 121, 3), (34, .iload_n 1, 1), (35, .iload_n 2, 1), (36, .iload_n 3, 1), (37, .invokevirtual 265, 3), (40, .invokestatic 269, 3), (43, .istore 4, 2), (45, .iinc 5 1, 3), (48, .goto (-42), 3), (51, .iload 4, 2), (53, .ireturn, 1)]
theorem dtbX10_mostAlike_0 : ∀ q ∈ tbX10_mostAlike_0, decode cX10_mostAlike q.1 = .ok q.2 := by decide +kernel
def tbX10_alikeTo_0 : List (Nat × Instr × Nat) := [(0, .aload_n 0, 1), (1, .getfield 10, 3), (4, .iload_n 3, 1), (5, .invokevirtual 127, 3), (8, .istore 5, 2), (10, .aload_n 0, 1), (11, .getfield 10, 3), (14, .iload_n 3, 1), (15, .invokevirtual 130, 3), (18, .istore 6, 2), (20, .iconst 0, 1), (21, .istore 7, 2), (23, .iconst 0, 1), (24, .istore 8, 2), (26, .iload 8, 2), (28, .bipush 6, 2), (30, .if_icmp .ge 68, 3), (33, .aload_n 0, 1), (34, .getfield 44, 3), (37, .iload 8, 2), (39, .invokevirtual 121, 3), (42, .astore 9, 2), (44, .iload_n 2, 1), (45, .iload 8, 2), (47, .invokestatic 262, 3), (50, .ifCond .eq 42, 3), (53, .aload 9, 2), (55, .iload 5, 2), (57, .invokevirtual 133, 3), (60, .aload_n 1, 1), (61, .iload 5, 2), (63, .invokevirtual 133, 3), (66, .if_icmp .ne 26, 3), (69, .aload 9, 2), (71, .iload 4, 2), (73, .iload 6, 2), (75, .invokevirtual 138, 3), (78, .aload_n 1, 1), (79, .iload 4, 2), (81, .iload 6, 2), (83, .invokevirtual 138, 3), (86, .if_icmp .ne 6, 3), (89, .iinc 7 1, 3), (92, .iinc 8 1, 3), (95, .goto (-69), 3), (98, .iload 7, 2), (100, .ireturn, 1)]
theorem dtbX10_alikeTo_0 : ∀ q ∈ tbX10_alikeTo_0, decode cX10_alikeTo q.1 = .ok q.2 := by decide +kernel
def tbX10_hasBit_0 : List (Nat × Instr × Nat) := [(0, .iload_n 0, 1), (1, .iload_n 1, 1), (2, .ishr, 1), (3, .iconst 1, 1), (4, .iand, 1), (5, .iconst 1, 1), (6, .if_icmp .ne 7, 3), (9, .iconst 1, 1), (10, .goto 4, 3), (13, .iconst 0, 1), (14, .ireturn, 1)]
theorem dtbX10_hasBit_0 : ∀ q ∈ tbX10_hasBit_0, decode cX10_hasBit q.1 = .ok q.2 := by decide +kernel
def tbX10_layChargesByExtra_0 : List (Nat × Instr × Nat) := [(0, .aload_n 0, 1), (1, .getfield 36, 3), (4, .aload_n 0, 1), (5, .getfield 10, 3), (8, .iload_n 1, 1), (9, .invokevirtual 161, 3), (12, .iconst 0, 1), (13, .istore_n 2, 1), (14, .iload_n 2, 1), (15, .aload_n 0, 1), (16, .getfield 45, 3), (19, .arraylength, 1), (20, .if_icmp .ge 49, 3), (23, .aload_n 0, 1), (24, .getfield 36, 3), (27, .aload_n 0, 1), (28, .getfield 10, 3), (31, .getfield 99, 3), (34, .iconst 0, 1), (35, .iaload, 1), (36, .aload_n 0, 1), (37, .getfield 10, 3), (40, .getfield 99, 3), (43, .iconst 5, 1), (44, .iaload, 1), (45, .iload_n 2, 1), (46, .iadd, 1), (47, .invokevirtual 199, 3), (50, .aload_n 0, 1), (51, .getfield 45, 3), (54, .iload_n 2, 1), (55, .aload_n 0, 1), (56, .getfield 36, 3), (59, .getfield 149, 3), (62, .iastore, 1), (63, .iinc 2 1, 3), (66, .goto (-52), 3), (69, .return_, 1)]
theorem dtbX10_layChargesByExtra_0 : ∀ q ∈ tbX10_layChargesByExtra_0, decode cX10_layChargesByExtra q.1 = .ok q.2 := by decide +kernel
def tbX10_isBestAgainst_0 : List (Nat × Instr × Nat) := [(0, .aload_n 0, 1), (1, .iload_n 1, 1), (2, .iload_n 2, 1), (3, .invokevirtual 274, 3), (6, .istore_n 3, 1), (7, .iconst 0, 1), (8, .istore 4, 2), (10, .iload 4, 2), (12, .iconst 4, 1), (13, .if_icmp .ge 22, 3), (16, .aload_n 0, 1), (17, .iload 4, 2), (19, .iload_n 2, 1), (20, .invokevirtual 274, 3), (23, .iload_n 3, 1), (24, .if_icmp .le 5, 3), (27, .iconst 0, 1), (28, .ireturn, 1), (29, .iinc 4 1, 3), (32, .goto (-22), 3), (35, .iconst 1, 1), (36, .ireturn, 1)]
theorem dtbX10_isBestAgainst_0 : ∀ q ∈ tbX10_isBestAgainst_0, decode cX10_isBestAgainst q.1 = .ok q.2 := by decide +kernel
def tbX10_gainOf_0 : List (Nat × Instr × Nat) := [(0, .iload_n 1, 1), (1, .iload_n 2, 1), (2, .iadd, 1), (3, .istore_n 3, 1), (4, .iload_n 3, 1), (5, .iconst 0, 1), (6, .aload_n 0, 1), (7, .getfield 45, 3), (10, .arraylength, 1), (11, .iconst 1, 1), (12, .isub, 1), (13, .invokestatic 53, 3), (16, .ifCond .eq 16, 3), (19, .iconst 3, 1), (20, .iload_n 1, 1), (21, .imul, 1), (22, .aload_n 0, 1), (23, .getfield 45, 3), (26, .iload_n 3, 1), (27, .iaload, 1), (28, .isub, 1), (29, .goto 4, 3), (32, .iconst 0, 1), (33, .ireturn, 1)]
theorem dtbX10_gainOf_0 : ∀ q ∈ tbX10_gainOf_0, decode cX10_gainOf q.1 = .ok q.2 := by decide +kernel
end
section
def tbX10_setTenths_0 : List (Nat × Instr × Nat) := [(0, .iconst 1, 1), (1, .istore_n 2, 1), (2, .iconst 2, 1), (3, .istore_n 3, 1), (4, .iload_n 3, 1), (5, .bipush 10, 2), (7, .if_icmp .gt 24, 3), (10, .bipush 10, 2), (12, .iload_n 3, 1), (13, .irem, 1), (14, .ifCond .ne 11, 3), (17, .iload_n 1, 1), (18, .iload_n 3, 1), (19, .irem, 1), (20, .ifCond .ne 5, 3), (23, .iload_n 3, 1), (24, .istore_n 2, 1), (25, .iinc 3 1, 3), (28, .goto (-24), 3), (31, .aload_n 0, 1), (32, .iload_n 1, 1), (33, .iload_n 2, 1), (34, .idiv, 1), (35, .i2l, 1), (36, .putfield 220, 3), (39, .aload_n 0, 1), (40, .bipush 10, 2), (42, .iload_n 2, 1), (43, .idiv, 1), (44, .i2l, 1), (45, .putfield 49, 3), (48, .return_, 1)]
theorem dtbX10_setTenths_0 : ∀ q ∈ tbX10_setTenths_0, decode cX10_setTenths q.1 = .ok q.2 := by decide +kernel
def tbX11_init_0 : List (Nat × Instr × Nat) := [(0, .aload_n 0, 1), (1, .invokespecial 1, 3), (4, .aload_n 0, 1), (5, .bipush 108, 2), (7, .newarray .int, 2), (9, .putfield 7, 3), (12, .aload_n 0, 1), (13, .bipush 108, 2), (15, .newarray .int, 2), (17, .putfield 13, 3), (20, .aload_n 0, 1), (21, .bipush 108, 2), (23, .newarray .int, 2), (25, .putfield 16, 3), (28, .aload_n 0, 1), (29, .sipush 216, 3), (32, .newarray .int, 2), (34, .putfield 19, 3), (37, .aload_n 0, 1), (38, .iconst 2, 1), (39, .newarray .boolean, 2), (41, .putfield 22, 3), (44, .aload_n 0, 1), (45, .iconst 3, 1), (46, .newarray .int, 2), (48, .putfield 26, 3), (51, .aload_n 0, 1), (52, .lconst 1, 1), (53, .putfield 29, 3), (56, .aload_n 0, 1), (57, .sipush 150, 3), (60, .newarray .int, 2), (62, .putfield 33, 3), (65, .aload_n 0, 1), (66, .getfield 7, 3), (69, .invokestatic 36, 3), (72, .return_, 1)]
theorem dtbX11_init_0 : ∀ q ∈ tbX11_init_0, decode cX11_init q.1 = .ok q.2 := by decide +kernel
def tbX11_begin_0 : List (Nat × Instr × Nat) := [(0, .iconst 0, 1), (1, .istore_n 1, 1), (2, .iload_n 1, 1), (3, .bipush 108, 2), (5, .if_icmp .ge 13, 3), (8, .aload_n 0, 1), (9, .iload_n 1, 1), (10, .iconst 0, 1), (11, .iastore, 1), (12, .iinc 1 1, 3), (15, .goto (-13), 3), (18, .aload_n 0, 1), (19, .iconst 3, 1), (20, .iconst 1, 1), (21, .iastore, 1), (22, .return_, 1)]
theorem dtbX11_begin_0 : ∀ q ∈ tbX11_begin_0, decode cX11_begin q.1 = .ok q.2 := by decide +kernel
def tbX11_in_0 : List (Nat × Instr × Nat) := [(0, .iload_n 0, 1), (1, .iload_n 1, 1), (2, .if_icmp .lt 12, 3), (5, .iload_n 0, 1), (6, .iload_n 2, 1), (7, .if_icmp .gt 7, 3), (10, .iconst 1, 1), (11, .goto 4, 3), (14, .iconst 0, 1), (15, .ireturn, 1)]
theorem dtbX11_in_0 : ∀ q ∈ tbX11_in_0, decode cX11_in q.1 = .ok q.2 := by decide +kernel
def tbX11_bad_0 : List (Nat × Instr × Nat) := [(0, .aload_n 0, 1), (1, .getfield 26, 3), (4, .iconst 0, 1), (5, .dup2, 1), (6, .iaload, 1), (7, .iconst 1, 1), (8, .iadd, 1), (9, .iastore, 1), (10, .bipush (-2), 2), (12, .ireturn, 1)]
theorem dtbX11_bad_0 : ∀ q ∈ tbX11_bad_0, decode cX11_bad q.1 = .ok q.2 := by decide +kernel
def tbX11_badBy_0 : List (Nat × Instr × Nat) := [(0, .aload_n 0, 1), (1, .getfield 26, 3), (4, .iconst 0, 1), (5, .dup2, 1), (6, .iaload, 1), (7, .iconst 1, 1), (8, .iadd, 1), (9, .iastore, 1), (10, .iload_n 1, 1), (11, .ireturn, 1)]
theorem dtbX11_badBy_0 : ∀ q ∈ tbX11_badBy_0, decode cX11_badBy q.1 = .ok q.2 := by decide +kernel
def tbX11_no_0 : List (Nat × Instr × Nat) := [(0, .aload_n 0, 1), (1, .getfield 26, 3), (4, .iconst 1, 1), (5, .dup2, 1), (6, .iaload, 1), (7, .iconst 1, 1), (8, .iadd, 1), (9, .iastore, 1), (10, .bipush (-3), 2), (12, .ireturn, 1)]
theorem dtbX11_no_0 : ∀ q ∈ tbX11_no_0, decode cX11_no q.1 = .ok q.2 := by decide +kernel
def tbX11_full_0 : List (Nat × Instr × Nat) := [(0, .aload_n 0, 1), (1, .getfield 26, 3), (4, .iconst 2, 1), (5, .dup2, 1), (6, .iaload, 1), (7, .iconst 1, 1), (8, .iadd, 1), (9, .iastore, 1), (10, .bipush (-4), 2), (12, .ireturn, 1)]
theorem dtbX11_full_0 : ∀ q ∈ tbX11_full_0, decode cX11_full q.1 = .ok q.2 := by decide +kernel
def tbX11_isBill_0 : List (Nat × Instr × Nat) := [(0, .iload_n 1, 1), (1, .iconst 0, 1), (2, .aload_n 0, 1), (3, .getfield 7, 3), (6, .bipush 6, 2), (8, .iaload, 1), (9, .iconst 1, 1), (10, .isub, 1), (11, .invokestatic 40, 3), (14, .ireturn, 1)]
theorem dtbX11_isBill_0 : ∀ q ∈ tbX11_isBill_0, decode cX11_isBill q.1 = .ok q.2 := by decide +kernel
def tbX11_bring_0 : List (Nat × Instr × Nat) := [(0, .iconst 0, 1), (1, .istore 5, 2), (3, .iload 5, 2), (5, .iload 4, 2), (7, .if_icmp .ge 21, 3), (10, .aload_n 2, 1), (11, .iload_n 3, 1), (12, .iload 5, 2), (14, .iadd, 1), (15, .aload_n 0, 1), (16, .iload_n 1, 1), (17, .iload 5, 2), (19, .iadd, 1), (20, .iaload, 1), (21, .iastore, 1), (22, .iinc 5 1, 3), (25, .goto (-22), 3), (28, .return_, 1)]
theorem dtbX11_bring_0 : ∀ q ∈ tbX11_bring_0, decode cX11_bring q.1 = .ok q.2 := by decide +kernel
def tbX11_account_0 : List (Nat × Instr × Nat) := [(0, .iload_n 1, 1), (1, .iconst 0, 1), (2, .sipush 999, 3), (5, .invokestatic 40, 3), (8, .ifCond .ne 8, 3), (11, .aload_n 0, 1), (12, .invokevirtual 44, 3), (15, .ireturn, 1), (16, .aload_n 0, 1), (17, .getfield 7, 3), (20, .bipush 6, 2), (22, .iaload, 1), (23, .istore_n 2, 1), (24, .aload_n 0, 1), (25, .getfield 7, 3), (28, .invokestatic 36, 3), (31, .aload_n 0, 1), (32, .getfield 7, 3), (35, .iconst 0, 1), (36, .iload_n 1, 1), (37, .iastore, 1), (38, .iload_n 2, 1), (39, .ireturn, 1)]
theorem dtbX11_account_0 : ∀ q ∈ tbX11_account_0, decode cX11_account q.1 = .ok q.2 := by decide +kernel
def tbX11_addBill_0 : List (Nat × Instr × Nat) := [(0, .aload_n 0, 1), (1, .bipush 6, 2), (3, .iaload, 1), (4, .istore 4, 2), (6, .aload_n 0, 1), (7, .bipush 7, 2), (9, .iload 4, 2), (11, .iadd, 1), (12, .iload_n 1, 1), (13, .iastore, 1), (14, .aload_n 0, 1), (15, .bipush 14, 2), (17, .iload 4, 2), (19, .iadd, 1), (20, .iload_n 2, 1), (21, .iastore, 1), (22, .aload_n 0, 1), (23, .bipush 21, 2), (25, .iload 4, 2), (27, .iadd, 1), (28, .iload_n 3, 1), (29, .iastore, 1), (30, .aload_n 0, 1), (31, .bipush 6, 2), (33, .dup2, 1), (34, .iaload, 1), (35, .iconst 1, 1), (36, .iadd, 1), (37, .iastore, 1), (38, .iload 4, 2), (40, .ireturn, 1)]
theorem dtbX11_addBill_0 : ∀ q ∈ tbX11_addBill_0, decode cX11_addBill q.1 = .ok q.2 := by decide +kernel
def tbX11_bill_0 : List (Nat × Instr × Nat) := [(0, .iload_n 1, 1), (1, .iconst 0, 1), (2, .iconst 5, 1), (3, .invokestatic 40, 3), (6, .ifCond .eq 23, 3), (9, .iload_n 2, 1), (10, .iconst 1, 1), (11, .bipush 28, 2), (13, .invokestatic 40, 3), (16, .ifCond .eq 13, 3), (19, .iload_n 3, 1), (20, .iconst 1, 1), (21, .bipush 99, 2), (23, .invokestatic 40, 3), (26, .ifCond .ne 8, 3), (29, .aload_n 0, 1), (30, .invokevirtual 44, 3), (33, .ireturn, 1), (34, .aload_n 0, 1), (35, .getfield 7, 3), (38, .bipush 6, 2), (40, .iaload, 1), (41, .bipush 7, 2), (43, .if_icmp .ne 8, 3), (46, .aload_n 0, 1), (47, .invokevirtual 48, 3), (50, .ireturn, 1), (51, .aload_n 0, 1), (52, .getfield 7, 3), (55, .bipush 59, 2), (57, .iconst 0, 1), (58, .iastore, 1), (59, .aload_n 0, 1), (60, .getfield 7, 3), (63, .iload_n 1, 1), (64, .iload_n 2, 1), (65, .iload_n 3, 1), (66, .invokestatic 51, 3), (69, .ireturn, 1)]
theorem dtbX11_bill_0 : ∀ q ∈ tbX11_bill_0, decode cX11_bill q.1 = .ok q.2 := by decide +kernel
def tbX11_type_0 : List (Nat × Instr × Nat) := [(0, .iload_n 1, 1), (1, .iconst 0, 1), (2, .bipush 127, 2), (4, .invokestatic 40, 3), (7, .ifCond .ne 8, 3), (10, .aload_n 0, 1), (11, .invokevirtual 44, 3), (14, .ireturn, 1), (15, .aload_n 0, 1), (16, .getfield 55, 3), (19, .sipush 150, 3), (22, .if_icmp .ne 8, 3), (25, .aload_n 0, 1), (26, .invokevirtual 48, 3), (29, .ireturn, 1), (30, .aload_n 0, 1), (31, .getfield 33, 3), (34, .aload_n 0, 1), (35, .getfield 55, 3), (38, .iload_n 1, 1), (39, .iastore, 1), (40, .aload_n 0, 1), (41, .dup, 1), (42, .getfield 55, 3), (45, .iconst 1, 1), (46, .iadd, 1), (47, .putfield 55, 3), (50, .aload_n 0, 1), (51, .getfield 55, 3), (54, .ireturn, 1)]
theorem dtbX11_type_0 : ∀ q ∈ tbX11_type_0, decode cX11_type q.1 = .ok q.2 := by decide +kernel
def tbX11_clear_0 : List (Nat × Instr × Nat) := [(0, .aload_n 0, 1), (1, .getfield 55, 3), (4, .istore_n 1, 1), (5, .aload_n 0, 1), (6, .iconst 0, 1), (7, .putfield 55, 3), (10, .iload_n 1, 1), (11, .ireturn, 1)]
theorem dtbX11_clear_0 : ∀ q ∈ tbX11_clear_0, decode cX11_clear q.1 = .ok q.2 := by decide +kernel
def tbX11_kindAt_0 : List (Nat × Instr × Nat) := [(0, .iload_n 1, 1), (1, .aload_n 0, 1), (2, .getfield 55, 3), (5, .if_icmp .ge 12, 3), (8, .aload_n 0, 1), (9, .getfield 33, 3), (12, .iload_n 1, 1), (13, .iaload, 1), (14, .goto 4, 3), (17, .iconst 0, 1), (18, .istore_n 2, 1), (19, .iload_n 2, 1), (20, .bipush 97, 2), (22, .bipush 122, 2), (24, .invokestatic 40, 3), (27, .ifCond .eq 7, 3), (30, .iconst 1, 1), (31, .goto 19, 3), (34, .iload_n 2, 1), (35, .bipush 48, 2), (37, .bipush 57, 2), (39, .invokestatic 40, 3), (42, .ifCond .eq 7, 3), (45, .iconst 2, 1), (46, .goto 4, 3), (49, .iconst 0, 1), (50, .ireturn, 1)]
theorem dtbX11_kindAt_0 : ∀ q ∈ tbX11_kindAt_0, decode cX11_kindAt q.1 = .ok q.2 := by decide +kernel
def tbX11_nextToken_0 : List (Nat × Instr × Nat) := [(0, .aload_n 0, 1), (1, .getfield 59, 3), (4, .aload_n 0, 1), (5, .getfield 55, 3), (8, .if_icmp .ge 30, 3), (11, .aload_n 0, 1), (12, .getfield 33, 3), (15, .aload_n 0, 1), (16, .getfield 59, 3), (19, .iaload, 1), (20, .bipush 32, 2), (22, .if_icmp .ne 16, 3), (25, .aload_n 0, 1), (26, .dup, 1), (27, .getfield 59, 3), (30, .iconst 1, 1), (31, .iadd, 1), (32, .putfield 59, 3), (35, .goto (-35), 3), (38, .aload_n 0, 1), (39, .aload_n 0, 1), (40, .getfield 59, 3), (43, .putfield 62, 3), (46, .aload_n 0, 1), (47, .lconst 0, 1), (48, .putfield 65, 3), (51, .aload_n 0, 1), (52, .iconst 0, 1), (53, .putfield 68, 3), (56, .aload_n 0, 1), (57, .getfield 59, 3), (60, .aload_n 0, 1), (61, .getfield 55, 3), (64, .if_icmp .ne 9, 3), (67, .aload_n 0, 1), (68, .iconst 0, 1), (69, .putfield 71, 3), (72, .return_, 1), (73, .aload_n 0, 1), (74, .aload_n 0, 1), (75, .aload_n 0, 1), (76, .getfield 59, 3), (79, .invokevirtual 74, 3), (82, .putfield 71, 3), (85, .aload_n 0, 1), (86, .getfield 71, 3), (89, .ifCond .ne 37, 3), (92, .aload_n 0, 1), (93, .aload_n 0, 1), (94, .getfield 33, 3), (97, .aload_n 0, 1), (98, .getfield 59, 3), (101, .iaload, 1), (102, .bipush 59, 2), (104, .if_icmp .ne 7, 3), (107, .iconst 3, 1), (108, .goto 4, 3), (111, .iconst 4, 1), (112, .putfield 71, 3), (115, .aload_n 0, 1)]
theorem dtbX11_nextToken_0 : ∀ q ∈ tbX11_nextToken_0, decode cX11_nextToken q.1 = .ok q.2 := by decide +kernel
def tbX11_nextToken_1 : List (Nat × Instr × Nat) := [(116, .dup, 1), (117, .getfield 59, 3), (120, .iconst 1, 1), (121, .iadd, 1), (122, .putfield 59, 3), (125, .return_, 1), (126, .aload_n 0, 1), (127, .aload_n 0, 1), (128, .getfield 59, 3), (131, .invokevirtual 74, 3), (134, .aload_n 0, 1), (135, .getfield 71, 3), (138, .if_icmp .ne 97, 3), (141, .aload_n 0, 1), (142, .getfield 59, 3), (145, .aload_n 0, 1), (146, .getfield 62, 3), (149, .isub, 1), (150, .istore_n 1, 1), (151, .aload_n 0, 1), (152, .iload_n 1, 1), (153, .bipush 7, 2), (155, .if_icmp .ge 25, 3), (158, .ldc2_w 78, 3), (161, .aload_n 0, 1), (162, .getfield 65, 3), (165, .lmul, 1), (166, .aload_n 0, 1), (167, .getfield 33, 3), (170, .aload_n 0, 1), (171, .getfield 59, 3), (174, .iaload, 1), (175, .i2l, 1), (176, .ladd, 1), (177, .goto 6, 3), (180, .ldc2_w 80, 3), (183, .putfield 65, 3), (186, .aload_n 0, 1), (187, .iload_n 1, 1), (188, .iconst 2, 1), (189, .if_icmp .ge 26, 3), (192, .bipush 10, 2), (194, .aload_n 0, 1), (195, .getfield 68, 3), (198, .imul, 1), (199, .aload_n 0, 1), (200, .getfield 33, 3), (203, .aload_n 0, 1), (204, .getfield 59, 3), (207, .iaload, 1), (208, .iadd, 1), (209, .bipush 48, 2), (211, .isub, 1), (212, .goto 7, 3), (215, .aload_n 0, 1), (216, .getfield 68, 3), (219, .putfield 68, 3), (222, .aload_n 0, 1), (223, .dup, 1), (224, .getfield 59, 3)]
theorem dtbX11_nextToken_1 : ∀ q ∈ tbX11_nextToken_1, decode cX11_nextToken q.1 = .ok q.2 := by decide +kernel
def tbX11_nextToken_2 : List (Nat × Instr × Nat) := [(227, .iconst 1, 1), (228, .iadd, 1), (229, .putfield 59, 3), (232, .goto (-106), 3), (235, .aload_n 0, 1), (236, .aload_n 0, 1), (237, .getfield 71, 3), (240, .iconst 2, 1), (241, .if_icmp .ne 20, 3), (244, .aload_n 0, 1), (245, .getfield 59, 3), (248, .aload_n 0, 1), (249, .getfield 62, 3), (252, .isub, 1), (253, .iconst 2, 1), (254, .if_icmp .le 7, 3), (257, .iconst 4, 1), (258, .goto 7, 3), (261, .aload_n 0, 1), (262, .getfield 71, 3), (265, .putfield 71, 3), (268, .return_, 1)]
theorem dtbX11_nextToken_2 : ∀ q ∈ tbX11_nextToken_2, decode cX11_nextToken q.1 = .ok q.2 := by decide +kernel
def tbX11_isNumber_0 : List (Nat × Instr × Nat) := [(0, .aload_n 0, 1), (1, .invokevirtual 82, 3), (4, .aload_n 0, 1), (5, .getfield 71, 3), (8, .iconst 2, 1), (9, .if_icmp .ne 19, 3), (12, .aload_n 0, 1), (13, .getfield 68, 3), (16, .iload_n 1, 1), (17, .iload_n 2, 1), (18, .invokestatic 40, 3), (21, .ifCond .eq 7, 3), (24, .iconst 1, 1), (25, .goto 4, 3), (28, .iconst 0, 1), (29, .ireturn, 1)]
theorem dtbX11_isNumber_0 : ∀ q ∈ tbX11_isNumber_0, decode cX11_isNumber q.1 = .ok q.2 := by decide +kernel
def tbX11_isBillItem_0 : List (Nat × Instr × Nat) := [(0, .aload_n 0, 1), (1, .getfield 16, 3), (4, .bipush 6, 2), (6, .iaload, 1), (7, .bipush 7, 2), (9, .if_icmp .eq 12, 3), (12, .aload_n 0, 1), (13, .iconst 0, 1), (14, .iconst 5, 1), (15, .invokevirtual 85, 3), (18, .ifCond .ne 5, 3), (21, .iconst 0, 1), (22, .ireturn, 1), (23, .aload_n 0, 1), (24, .getfield 68, 3), (27, .istore_n 1, 1), (28, .aload_n 0, 1), (29, .iconst 1, 1), (30, .bipush 28, 2), (32, .invokevirtual 85, 3), (35, .ifCond .ne 5, 3), (38, .iconst 0, 1), (39, .ireturn, 1), (40, .aload_n 0, 1), (41, .getfield 68, 3), (44, .istore_n 2, 1), (45, .aload_n 0, 1), (46, .iconst 1, 1), (47, .bipush 99, 2), (49, .invokevirtual 85, 3), (52, .ifCond .ne 5, 3), (55, .iconst 0, 1), (56, .ireturn, 1), (57, .aload_n 0, 1), (58, .getfield 16, 3), (61, .iload_n 1, 1), (62, .iload_n 2, 1), (63, .aload_n 0, 1), (64, .getfield 68, 3), (67, .invokestatic 51, 3), (70, .pop, 1), (71, .iconst 1, 1), (72, .ireturn, 1)]
theorem dtbX11_isBillItem_0 : ∀ q ∈ tbX11_isBillItem_0, decode cX11_isBillItem q.1 = .ok q.2 := by decide +kernel
def tbX11_isOne_0 : List (Nat × Instr × Nat) := [(0, .aload_n 0, 1), (1, .iconst 0, 1), (2, .iload_n 2, 1), (3, .invokevirtual 85, 3), (6, .ifCond .ne 5, 3), (9, .iconst 0, 1), (10, .ireturn, 1), (11, .aload_n 0, 1), (12, .getfield 16, 3), (15, .iload_n 1, 1), (16, .iload_n 3, 1), (17, .aload_n 0, 1), (18, .getfield 68, 3), (21, .imul, 1), (22, .iastore, 1), (23, .iconst 1, 1), (24, .ireturn, 1)]
theorem dtbX11_isOne_0 : ∀ q ∈ tbX11_isOne_0, decode cX11_isOne q.1 = .ok q.2 := by decide +kernel
def tbX11_isItem_0 : List (Nat × Instr × Nat) := [(0, .aload_n 0, 1), (1, .getfield 89, 3), (4, .ifCond .ne 7, 3), (7, .iconst 1, 1), (8, .goto 4, 3), (11, .iconst 0, 1), (12, .istore_n 1, 1), (13, .aload_n 0, 1), (14, .getfield 71, 3), (17, .iconst 1, 1), (18, .if_icmp .ne 23, 3), (21, .iload_n 1, 1), (22, .aload_n 0, 1), (23, .getfield 65, 3), (26, .ldc2_w 92, 3), (29, .lcmp, 1), (30, .ifCond .ne 7, 3), (33, .iconst 1, 1), (34, .goto 4, 3), (37, .iconst 0, 1), (38, .if_icmp .eq 5, 3), (41, .iconst 0, 1), (42, .ireturn, 1), (43, .iload_n 1, 1), (44, .ifCond .eq 13, 3), (47, .aload_n 0, 1), (48, .iconst 0, 1), (49, .bipush 99, 2), (51, .bipush 10, 2), (53, .invokevirtual 94, 3), (56, .ireturn, 1), (57, .aload_n 0, 1), (58, .getfield 65, 3), (61, .ldc2_w 97, 3), (64, .lcmp, 1), (65, .ifCond .ne 8, 3), (68, .aload_n 0, 1), (69, .invokevirtual 99, 3), (72, .ireturn, 1), (73, .aload_n 0, 1), (74, .getfield 65, 3), (77, .ldc2_w 103, 3), (80, .lcmp, 1), (81, .ifCond .ne 14, 3), (84, .aload_n 0, 1), (85, .iconst 5, 1), (86, .bipush 30, 2), (88, .iconst 1, 1), (89, .invokevirtual 94, 3), (92, .goto 30, 3), (95, .aload_n 0, 1), (96, .getfield 65, 3), (99, .ldc2_w 105, 3), (102, .lcmp, 1), (103, .ifCond .ne 18, 3), (106, .aload_n 0, 1), (107, .iconst 1, 1), (108, .bipush 99, 2), (110, .iconst 1, 1), (111, .invokevirtual 94, 3)]
theorem dtbX11_isItem_0 : ∀ q ∈ tbX11_isItem_0, decode cX11_isItem q.1 = .ok q.2 := by decide +kernel
def tbX11_isItem_1 : List (Nat × Instr × Nat) := [(114, .ifCond .eq 7, 3), (117, .iconst 1, 1), (118, .goto 4, 3), (121, .iconst 0, 1), (122, .ireturn, 1)]
theorem dtbX11_isItem_1 : ∀ q ∈ tbX11_isItem_1, decode cX11_isItem q.1 = .ok q.2 := by decide +kernel
def tbX11_isRead_0 : List (Nat × Instr × Nat) := [(0, .aload_n 0, 1), (1, .getfield 16, 3), (4, .invokestatic 36, 3), (7, .aload_n 0, 1), (8, .iconst 0, 1), (9, .putfield 59, 3), (12, .aload_n 0, 1), (13, .iconst 0, 1), (14, .putfield 89, 3), (17, .aload_n 0, 1), (18, .invokevirtual 82, 3), (21, .aload_n 0, 1), (22, .getfield 71, 3), (25, .ifCond .ne 10, 3), (28, .aload_n 0, 1), (29, .getfield 89, 3), (32, .ifCond .ne 43, 3), (35, .aload_n 0, 1), (36, .invokevirtual 107, 3), (39, .ifCond .ne 5, 3), (42, .iconst 0, 1), (43, .ireturn, 1), (44, .aload_n 0, 1), (45, .invokevirtual 82, 3), (48, .aload_n 0, 1), (49, .getfield 71, 3), (52, .iconst 3, 1), (53, .if_icmp .eq 5, 3), (56, .iconst 0, 1), (57, .ireturn, 1), (58, .aload_n 0, 1), (59, .dup, 1), (60, .getfield 89, 3), (63, .iconst 1, 1), (64, .iadd, 1), (65, .putfield 89, 3), (68, .aload_n 0, 1), (69, .invokevirtual 82, 3), (72, .goto (-51), 3), (75, .iconst 1, 1), (76, .ireturn, 1)]
theorem dtbX11_isRead_0 : ∀ q ∈ tbX11_isRead_0, decode cX11_isRead q.1 = .ok q.2 := by decide +kernel
def tbX11_read_0 : List (Nat × Instr × Nat) := [(0, .aload_n 0, 1), (1, .invokevirtual 110, 3), (4, .ifCond .ne 11, 3), (7, .bipush (-10), 2), (9, .aload_n 0, 1), (10, .getfield 62, 3), (13, .isub, 1), (14, .ireturn, 1), (15, .aload_n 0, 1), (16, .getfield 16, 3), (19, .iconst 0, 1), (20, .aload_n 0, 1), (21, .getfield 7, 3), (24, .iconst 0, 1), (25, .bipush 108, 2), (27, .invokestatic 113, 3), (30, .aload_n 0, 1), (31, .getfield 89, 3), (34, .ireturn, 1)]
theorem dtbX11_read_0 : ∀ q ∈ tbX11_read_0, decode cX11_read q.1 = .ok q.2 := by decide +kernel
def tbX11_dayBy_0 : List (Nat × Instr × Nat) := [(0, .iload_n 0, 1), (1, .tableswitch 83 1 5 #[35, 83, 62, 83, 35], 35), (36, .iload_n 1, 1), (37, .bipush 7, 2), (39, .irem, 1), (40, .ifCond .eq 7, 3), (43, .iload_n 1, 1), (44, .goto 18, 3), (47, .iload_n 1, 1), (48, .bipush 28, 2), (50, .if_icmp .ne 9, 3), (53, .iload_n 1, 1), (54, .iconst 1, 1), (55, .isub, 1), (56, .goto 6, 3), (59, .iload_n 1, 1), (60, .iconst 1, 1), (61, .iadd, 1), (62, .ireturn, 1), (63, .iload_n 1, 1), (64, .bipush 14, 2), (66, .iadd, 1), (67, .bipush 28, 2), (69, .if_icmp .le 10, 3), (72, .iload_n 1, 1), (73, .bipush 14, 2), (75, .isub, 1), (76, .goto 7, 3), (79, .iload_n 1, 1), (80, .bipush 14, 2), (82, .iadd, 1), (83, .ireturn, 1), (84, .iload_n 1, 1), (85, .ireturn, 1)]
theorem dtbX11_dayBy_0 : ∀ q ∈ tbX11_dayBy_0, decode cX11_dayBy q.1 = .ok q.2 := by decide +kernel
def tbX11_poundsBy_0 : List (Nat × Instr × Nat) := [(0, .iload_n 0, 1), (1, .tableswitch 62 2 5 #[31, 62, 43, 59], 31), (32, .iload_n 2, 1), (33, .iconst 3, 1), (34, .irem, 1), (35, .ifCond .ne 7, 3), (38, .iload_n 1, 1), (39, .goto 4, 3), (42, .iconst 0, 1), (43, .ireturn, 1), (44, .iload_n 2, 1), (45, .bipush 12, 2), (47, .irem, 1), (48, .ifCond .ne 10, 3), (51, .bipush 10, 2), (53, .iload_n 1, 1), (54, .imul, 1), (55, .goto 4, 3), (58, .iconst 0, 1), (59, .ireturn, 1), (60, .iload_n 1, 1), (61, .ineg, 1), (62, .ireturn, 1), (63, .iload_n 1, 1), (64, .ireturn, 1)]
theorem dtbX11_poundsBy_0 : ∀ q ∈ tbX11_poundsBy_0, decode cX11_poundsBy q.1 = .ok q.2 := by decide +kernel
def tbX11_drawn_0 : List (Nat × Instr × Nat) := [(0, .aload_n 0, 1), (1, .bipush 7, 2), (3, .iload_n 1, 1), (4, .iadd, 1), (5, .iaload, 1), (6, .aload_n 0, 1), (7, .bipush 21, 2), (9, .iload_n 1, 1), (10, .iadd, 1), (11, .iaload, 1), (12, .aload_n 0, 1), (13, .iconst 4, 1), (14, .iaload, 1), (15, .invokestatic 117, 3), (18, .ireturn, 1)]
theorem dtbX11_drawn_0 : ∀ q ∈ tbX11_drawn_0, decode cX11_drawn q.1 = .ok q.2 := by decide +kernel
def tbX11_goBy_0 : List (Nat × Instr × Nat) := [(0, .iconst 0, 1), (1, .istore_n 2, 1), (2, .iload_n 2, 1), (3, .aload_n 0, 1), (4, .bipush 6, 2), (6, .iaload, 1), (7, .if_icmp .ge 45, 3), (10, .aload_n 0, 1), (11, .iconst 0, 1), (12, .dup2, 1), (13, .iaload, 1), (14, .aload_n 0, 1), (15, .bipush 7, 2), (17, .iload_n 2, 1), (18, .iadd, 1), (19, .iaload, 1), (20, .aload_n 0, 1), (21, .bipush 14, 2), (23, .iload_n 2, 1), (24, .iadd, 1), (25, .iaload, 1), (26, .invokestatic 121, 3), (29, .aload_n 0, 1), (30, .iconst 3, 1), (31, .iaload, 1), (32, .if_icmp .ne 11, 3), (35, .aload_n 0, 1), (36, .iload_n 2, 1), (37, .invokestatic 125, 3), (40, .goto 4, 3), (43, .iconst 0, 1), (44, .isub, 1), (45, .iastore, 1), (46, .iinc 2 1, 3), (49, .goto (-47), 3), (52, .aload_n 0, 1), (53, .iconst 0, 1), (54, .dup2, 1), (55, .iaload, 1), (56, .iload_n 1, 1), (57, .isub, 1), (58, .iastore, 1), (59, .aload_n 0, 1), (60, .iconst 0, 1), (61, .iaload, 1), (62, .ifCond .ge 17, 3), (65, .aload_n 0, 1), (66, .iconst 0, 1), (67, .dup2, 1), (68, .iaload, 1), (69, .iconst 1, 1), (70, .isub, 1), (71, .iastore, 1), (72, .aload_n 0, 1), (73, .iconst 2, 1), (74, .dup2, 1), (75, .iaload, 1), (76, .iconst 1, 1), (77, .iadd, 1), (78, .iastore, 1)]
theorem dtbX11_goBy_0 : ∀ q ∈ tbX11_goBy_0, decode cX11_goBy q.1 = .ok q.2 := by decide +kernel
def tbX11_goBy_1 : List (Nat × Instr × Nat) := [(79, .aload_n 0, 1), (80, .iconst 3, 1), (81, .dup2, 1), (82, .iaload, 1), (83, .iconst 1, 1), (84, .iadd, 1), (85, .iastore, 1), (86, .aload_n 0, 1), (87, .iconst 3, 1), (88, .iaload, 1), (89, .bipush 28, 2), (91, .if_icmp .le 14, 3), (94, .aload_n 0, 1), (95, .iconst 3, 1), (96, .iconst 1, 1), (97, .iastore, 1), (98, .aload_n 0, 1), (99, .iconst 4, 1), (100, .dup2, 1), (101, .iaload, 1), (102, .iconst 1, 1), (103, .iadd, 1), (104, .iastore, 1), (105, .return_, 1)]
theorem dtbX11_goBy_1 : ∀ q ∈ tbX11_goBy_1, decode cX11_goBy q.1 = .ok q.2 := by decide +kernel
def tbX11_keepBack_0 : List (Nat × Instr × Nat) := [(0, .aload_n 0, 1), (1, .getfield 7, 3), (4, .bipush 59, 2), (6, .iaload, 1), (7, .bipush 8, 2), (9, .if_icmp .ne 31, 3), (12, .aload_n 0, 1), (13, .getfield 7, 3), (16, .bipush 66, 2), (18, .aload_n 0, 1), (19, .getfield 7, 3), (22, .bipush 60, 2), (24, .bipush 42, 2), (26, .invokestatic 113, 3), (29, .aload_n 0, 1), (30, .getfield 7, 3), (33, .bipush 59, 2), (35, .dup2, 1), (36, .iaload, 1), (37, .iconst 1, 1), (38, .isub, 1), (39, .iastore, 1), (40, .aload_n 0, 1), (41, .getfield 7, 3), (44, .iconst 0, 1), (45, .aload_n 0, 1), (46, .getfield 7, 3), (49, .bipush 60, 2), (51, .bipush 6, 2), (53, .aload_n 0, 1), (54, .getfield 7, 3), (57, .bipush 59, 2), (59, .iaload, 1), (60, .imul, 1), (61, .iadd, 1), (62, .bipush 6, 2), (64, .invokestatic 113, 3), (67, .aload_n 0, 1), (68, .getfield 7, 3), (71, .bipush 59, 2), (73, .dup2, 1), (74, .iaload, 1), (75, .iconst 1, 1), (76, .iadd, 1), (77, .iastore, 1), (78, .return_, 1)]
theorem dtbX11_keepBack_0 : ∀ q ∈ tbX11_keepBack_0, decode cX11_keepBack q.1 = .ok q.2 := by decide +kernel
def tbX11_days_0 : List (Nat × Instr × Nat) := [(0, .iload_n 1, 1), (1, .iconst 1, 1), (2, .bipush 99, 2), (4, .invokestatic 40, 3), (7, .ifCond .ne 8, 3), (10, .aload_n 0, 1), (11, .invokevirtual 44, 3), (14, .ireturn, 1), (15, .aload_n 0, 1), (16, .invokevirtual 129, 3), (19, .aload_n 0, 1), (20, .getfield 7, 3), (23, .iconst 2, 1), (24, .iaload, 1), (25, .istore_n 2, 1), (26, .iconst 0, 1), (27, .istore_n 3, 1), (28, .iload_n 3, 1), (29, .iload_n 1, 1), (30, .if_icmp .ge 51, 3), (33, .aload_n 0, 1), (34, .getfield 7, 3), (37, .aload_n 0, 1), (38, .getfield 7, 3), (41, .iconst 5, 1), (42, .iaload, 1), (43, .invokestatic 132, 3), (46, .aload_n 0, 1), (47, .getfield 7, 3), (50, .iconst 4, 1), (51, .iaload, 1), (52, .sipush 999, 3), (55, .if_icmp .le 20, 3), (58, .aload_n 0, 1), (59, .getfield 7, 3), (62, .iconst 4, 1), (63, .sipush 999, 3), (66, .iastore, 1), (67, .aload_n 0, 1), (68, .getfield 7, 3), (71, .iconst 3, 1), (72, .bipush 28, 2), (74, .iastore, 1), (75, .iinc 3 1, 3), (78, .goto (-50), 3), (81, .aload_n 0, 1), (82, .getfield 7, 3), (85, .iconst 2, 1), (86, .iaload, 1), (87, .iload_n 2, 1), (88, .isub, 1), (89, .ireturn, 1)]
theorem dtbX11_days_0 : ∀ q ∈ tbX11_days_0, decode cX11_days q.1 = .ok q.2 := by decide +kernel
end
section
def tbX11_spend_0 : List (Nat × Instr × Nat) := [(0, .iload_n 1, 1), (1, .iconst 0, 1), (2, .bipush 30, 2), (4, .invokestatic 40, 3), (7, .ifCond .ne 8, 3), (10, .aload_n 0, 1), (11, .invokevirtual 44, 3), (14, .ireturn, 1), (15, .aload_n 0, 1), (16, .invokevirtual 129, 3), (19, .aload_n 0, 1), (20, .getfield 7, 3), (23, .iconst 5, 1), (24, .iaload, 1), (25, .istore_n 2, 1), (26, .aload_n 0, 1), (27, .getfield 7, 3), (30, .iconst 5, 1), (31, .iload_n 1, 1), (32, .iastore, 1), (33, .iload_n 2, 1), (34, .ireturn, 1)]
theorem dtbX11_spend_0 : ∀ q ∈ tbX11_spend_0, decode cX11_spend q.1 = .ok q.2 := by decide +kernel
def tbX11_jar_0 : List (Nat × Instr × Nat) := [(0, .iload_n 1, 1), (1, .bipush (-99), 2), (3, .bipush 99, 2), (5, .invokestatic 40, 3), (8, .ifCond .ne 8, 3), (11, .aload_n 0, 1), (12, .invokevirtual 44, 3), (15, .ireturn, 1), (16, .aload_n 0, 1), (17, .getfield 7, 3), (20, .iconst 1, 1), (21, .iaload, 1), (22, .iload_n 1, 1), (23, .iadd, 1), (24, .ifCond .lt 18, 3), (27, .iload_n 1, 1), (28, .ifCond .le 19, 3), (31, .aload_n 0, 1), (32, .getfield 7, 3), (35, .iconst 0, 1), (36, .iaload, 1), (37, .iload_n 1, 1), (38, .isub, 1), (39, .ifCond .ge 8, 3), (42, .aload_n 0, 1), (43, .invokevirtual 136, 3), (46, .ireturn, 1), (47, .aload_n 0, 1), (48, .invokevirtual 129, 3), (51, .aload_n 0, 1), (52, .getfield 7, 3), (55, .iconst 1, 1), (56, .dup2, 1), (57, .iaload, 1), (58, .iload_n 1, 1), (59, .iadd, 1), (60, .iastore, 1), (61, .aload_n 0, 1), (62, .getfield 7, 3), (65, .iconst 0, 1), (66, .dup2, 1), (67, .iaload, 1), (68, .iload_n 1, 1), (69, .isub, 1), (70, .iastore, 1), (71, .aload_n 0, 1), (72, .getfield 7, 3), (75, .iconst 1, 1), (76, .iaload, 1), (77, .ireturn, 1)]
theorem dtbX11_jar_0 : ∀ q ∈ tbX11_jar_0, decode cX11_jar q.1 = .ok q.2 := by decide +kernel
def tbX11_undo_0 : List (Nat × Instr × Nat) := [(0, .aload_n 0, 1), (1, .getfield 7, 3), (4, .bipush 59, 2), (6, .iaload, 1), (7, .ifCond .ne 8, 3), (10, .aload_n 0, 1), (11, .invokevirtual 136, 3), (14, .ireturn, 1), (15, .aload_n 0, 1), (16, .getfield 7, 3), (19, .bipush 59, 2), (21, .dup2, 1), (22, .iaload, 1), (23, .iconst 1, 1), (24, .isub, 1), (25, .iastore, 1), (26, .aload_n 0, 1), (27, .getfield 7, 3), (30, .bipush 60, 2), (32, .bipush 6, 2), (34, .aload_n 0, 1), (35, .getfield 7, 3), (38, .bipush 59, 2), (40, .iaload, 1), (41, .imul, 1), (42, .iadd, 1), (43, .aload_n 0, 1), (44, .getfield 7, 3), (47, .iconst 0, 1), (48, .bipush 6, 2), (50, .invokestatic 113, 3), (53, .aload_n 0, 1), (54, .getfield 7, 3), (57, .iconst 3, 1), (58, .iaload, 1), (59, .ireturn, 1)]
theorem dtbX11_undo_0 : ∀ q ∈ tbX11_undo_0, decode cX11_undo q.1 = .ok q.2 := by decide +kernel
def tbX11_of_0 : List (Nat × Instr × Nat) := [(0, .aload_n 0, 1), (1, .iload_n 1, 1), (2, .invokevirtual 139, 3), (5, .ifCond .ne 11, 3), (8, .aload_n 0, 1), (9, .sipush (-10000), 3), (12, .invokevirtual 143, 3), (15, .ireturn, 1), (16, .iload_n 2, 1), (17, .tableswitch 96 0 4 #[35, 45, 55, 65, 87], 35), (52, .aload_n 0, 1), (53, .getfield 7, 3), (56, .bipush 7, 2), (58, .iload_n 1, 1), (59, .iadd, 1), (60, .iaload, 1), (61, .ireturn, 1), (62, .aload_n 0, 1), (63, .getfield 7, 3), (66, .bipush 14, 2), (68, .iload_n 1, 1), (69, .iadd, 1), (70, .iaload, 1), (71, .ireturn, 1), (72, .aload_n 0, 1), (73, .getfield 7, 3), (76, .bipush 21, 2), (78, .iload_n 1, 1), (79, .iadd, 1), (80, .iaload, 1), (81, .ireturn, 1), (82, .aload_n 0, 1), (83, .getfield 7, 3), (86, .bipush 7, 2), (88, .iload_n 1, 1), (89, .iadd, 1), (90, .iaload, 1), (91, .aload_n 0, 1), (92, .getfield 7, 3), (95, .bipush 14, 2), (97, .iload_n 1, 1), (98, .iadd, 1), (99, .iaload, 1), (100, .invokestatic 121, 3), (103, .ireturn, 1), (104, .aload_n 0, 1), (105, .getfield 7, 3), (108, .iload_n 1, 1), (109, .invokestatic 125, 3), (112, .ireturn, 1), (113, .aload_n 0, 1), (114, .sipush (-10000), 3), (117, .invokevirtual 143, 3), (120, .ireturn, 1)]
theorem dtbX11_of_0 : ∀ q ∈ tbX11_of_0, decode cX11_of q.1 = .ok q.2 := by decide +kernel
def tbX11_now_0 : List (Nat × Instr × Nat) := [(0, .iload_n 1, 1), (1, .iconst 0, 1), (2, .iconst 5, 1), (3, .invokestatic 40, 3), (6, .ifCond .eq 12, 3), (9, .aload_n 0, 1), (10, .getfield 7, 3), (13, .iload_n 1, 1), (14, .iaload, 1), (15, .goto 9, 3), (18, .aload_n 0, 1), (19, .ldc 146, 2), (21, .invokevirtual 143, 3), (24, .ireturn, 1)]
theorem dtbX11_now_0 : ∀ q ∈ tbX11_now_0, decode cX11_now q.1 = .ok q.2 := by decide +kernel
def tbX11_truly_0 : List (Nat × Instr × Nat) := [(0, .aload_n 0, 1), (1, .getfield 7, 3), (4, .iconst 0, 1), (5, .iaload, 1), (6, .istore_n 1, 1), (7, .iconst 0, 1), (8, .istore_n 2, 1), (9, .iload_n 2, 1), (10, .aload_n 0, 1), (11, .getfield 7, 3), (14, .bipush 6, 2), (16, .iaload, 1), (17, .if_icmp .ge 77, 3), (20, .aload_n 0, 1), (21, .getfield 7, 3), (24, .bipush 7, 2), (26, .iload_n 2, 1), (27, .iadd, 1), (28, .iaload, 1), (29, .iconst 5, 1), (30, .if_icmp .eq 37, 3), (33, .aload_n 0, 1), (34, .getfield 7, 3), (37, .bipush 7, 2), (39, .iload_n 2, 1), (40, .iadd, 1), (41, .iaload, 1), (42, .aload_n 0, 1), (43, .getfield 7, 3), (46, .bipush 14, 2), (48, .iload_n 2, 1), (49, .iadd, 1), (50, .iaload, 1), (51, .invokestatic 121, 3), (54, .aload_n 0, 1), (55, .getfield 7, 3), (58, .iconst 3, 1), (59, .iaload, 1), (60, .if_icmp .lt 7, 3), (63, .iconst 1, 1), (64, .goto 4, 3), (67, .iconst 0, 1), (68, .istore_n 3, 1), (69, .iload_n 1, 1), (70, .iload_n 3, 1), (71, .ifCond .eq 14, 3), (74, .aload_n 0, 1), (75, .getfield 7, 3), (78, .iload_n 2, 1), (79, .invokestatic 125, 3), (82, .goto 4, 3), (85, .iconst 0, 1), (86, .isub, 1), (87, .istore_n 1, 1), (88, .iinc 2 1, 3), (91, .goto (-82), 3), (94, .iload_n 1, 1), (95, .ireturn, 1)]
theorem dtbX11_truly_0 : ∀ q ∈ tbX11_truly_0, decode cX11_truly q.1 = .ok q.2 := by decide +kernel
def tbX11_copyNow_0 : List (Nat × Instr × Nat) := [(0, .aload_n 0, 1), (1, .getfield 7, 3), (4, .iconst 0, 1), (5, .aload_n 0, 1), (6, .getfield 13, 3), (9, .iconst 0, 1), (10, .bipush 59, 2), (12, .invokestatic 113, 3), (15, .return_, 1)]
theorem dtbX11_copyNow_0 : ∀ q ∈ tbX11_copyNow_0, decode cX11_copyNow q.1 = .ok q.2 := by decide +kernel
def tbX11_chargesOn_0 : List (Nat × Instr × Nat) := [(0, .aload_n 0, 1), (1, .getfield 13, 3), (4, .iconst 2, 1), (5, .iaload, 1), (6, .istore_n 3, 1), (7, .iconst 0, 1), (8, .istore 4, 2), (10, .iload 4, 2), (12, .iload_n 1, 1), (13, .if_icmp .ge 17, 3), (16, .aload_n 0, 1), (17, .getfield 13, 3), (20, .iload_n 2, 1), (21, .invokestatic 132, 3), (24, .iinc 4 1, 3), (27, .goto (-17), 3), (30, .aload_n 0, 1), (31, .getfield 13, 3), (34, .iconst 2, 1), (35, .iaload, 1), (36, .iload_n 3, 1), (37, .isub, 1), (38, .ireturn, 1)]
theorem dtbX11_chargesOn_0 : ∀ q ∈ tbX11_chargesOn_0, decode cX11_chargesOn q.1 = .ok q.2 := by decide +kernel
def tbX11_then_0 : List (Nat × Instr × Nat) := [(0, .iload_n 1, 1), (1, .iconst 0, 1), (2, .bipush 99, 2), (4, .invokestatic 40, 3), (7, .ifCond .eq 12, 3), (10, .iload_n 2, 1), (11, .iconst 0, 1), (12, .iconst 1, 1), (13, .invokestatic 40, 3), (16, .ifCond .ne 10, 3), (19, .aload_n 0, 1), (20, .ldc 146, 2), (22, .invokevirtual 143, 3), (25, .ireturn, 1), (26, .aload_n 0, 1), (27, .invokevirtual 147, 3), (30, .aload_n 0, 1), (31, .iload_n 1, 1), (32, .aload_n 0, 1), (33, .getfield 7, 3), (36, .iconst 5, 1), (37, .iaload, 1), (38, .invokevirtual 150, 3), (41, .istore_n 3, 1), (42, .iload_n 2, 1), (43, .ifCond .ne 12, 3), (46, .aload_n 0, 1), (47, .getfield 13, 3), (50, .iconst 0, 1), (51, .iaload, 1), (52, .goto 4, 3), (55, .iload_n 3, 1), (56, .ireturn, 1)]
theorem dtbX11_then_0 : ∀ q ∈ tbX11_then_0, decode cX11_then q.1 = .ok q.2 := by decide +kernel
def tbX11_low_0 : List (Nat × Instr × Nat) := [(0, .iload_n 1, 1), (1, .iconst 1, 1), (2, .bipush 99, 2), (4, .invokestatic 40, 3), (7, .ifCond .eq 12, 3), (10, .iload_n 2, 1), (11, .iconst 0, 1), (12, .iconst 1, 1), (13, .invokestatic 40, 3), (16, .ifCond .ne 10, 3), (19, .aload_n 0, 1), (20, .ldc 146, 2), (22, .invokevirtual 143, 3), (25, .ireturn, 1), (26, .aload_n 0, 1), (27, .invokevirtual 147, 3), (30, .iconst 0, 1), (31, .istore_n 3, 1), (32, .iconst 0, 1), (33, .istore 4, 2), (35, .iconst 1, 1), (36, .istore 5, 2), (38, .iload 5, 2), (40, .iload_n 1, 1), (41, .if_icmp .gt 74, 3), (44, .aload_n 0, 1), (45, .getfield 13, 3), (48, .aload_n 0, 1), (49, .getfield 7, 3), (52, .iconst 5, 1), (53, .iaload, 1), (54, .invokestatic 132, 3), (57, .iload 4, 2), (59, .ifCond .eq 13, 3), (62, .aload_n 0, 1), (63, .getfield 13, 3), (66, .iconst 0, 1), (67, .iaload, 1), (68, .iload_n 3, 1), (69, .if_icmp .ge 7, 3), (72, .iconst 1, 1), (73, .goto 4, 3), (76, .iconst 0, 1), (77, .istore 6, 2), (79, .iload 6, 2), (81, .ifCond .eq 12, 3), (84, .aload_n 0, 1), (85, .getfield 13, 3), (88, .iconst 0, 1), (89, .iaload, 1), (90, .goto 4, 3), (93, .iload_n 3, 1), (94, .istore_n 3, 1), (95, .iload 6, 2), (97, .ifCond .eq 8, 3), (100, .iload 5, 2), (102, .goto 5, 3), (105, .iload 4, 2), (107, .istore 4, 2), (109, .iinc 5 1, 3)]
theorem dtbX11_low_0 : ∀ q ∈ tbX11_low_0, decode cX11_low q.1 = .ok q.2 := by decide +kernel
def tbX11_low_1 : List (Nat × Instr × Nat) := [(112, .goto (-74), 3), (115, .iload_n 2, 1), (116, .ifCond .ne 7, 3), (119, .iload_n 3, 1), (120, .goto 5, 3), (123, .iload 4, 2), (125, .ireturn, 1)]
theorem dtbX11_low_1 : ∀ q ∈ tbX11_low_1, decode cX11_low q.1 = .ok q.2 := by decide +kernel
def tbX11_belowIn_0 : List (Nat × Instr × Nat) := [(0, .iconst 1, 1), (1, .istore_n 3, 1), (2, .iload_n 3, 1), (3, .iload_n 1, 1), (4, .if_icmp .gt 28, 3), (7, .aload_n 0, 1), (8, .getfield 13, 3), (11, .iload_n 2, 1), (12, .invokestatic 132, 3), (15, .aload_n 0, 1), (16, .getfield 13, 3), (19, .iconst 0, 1), (20, .iaload, 1), (21, .ifCond .ge 5, 3), (24, .iload_n 3, 1), (25, .ireturn, 1), (26, .iinc 3 1, 3), (29, .goto (-27), 3), (32, .iconst (-1), 1), (33, .ireturn, 1)]
theorem dtbX11_belowIn_0 : ∀ q ∈ tbX11_belowIn_0, decode cX11_belowIn q.1 = .ok q.2 := by decide +kernel
def tbX11_below_0 : List (Nat × Instr × Nat) := [(0, .aload_n 0, 1), (1, .invokevirtual 147, 3), (4, .aload_n 0, 1), (5, .bipush 99, 2), (7, .aload_n 0, 1), (8, .getfield 7, 3), (11, .iconst 5, 1), (12, .iaload, 1), (13, .invokevirtual 153, 3), (16, .ireturn, 1)]
theorem dtbX11_below_0 : ∀ q ∈ tbX11_below_0, decode cX11_below q.1 = .ok q.2 := by decide +kernel
def tbX11_most_0 : List (Nat × Instr × Nat) := [(0, .iload_n 1, 1), (1, .iconst 1, 1), (2, .bipush 99, 2), (4, .invokestatic 40, 3), (7, .ifCond .ne 8, 3), (10, .aload_n 0, 1), (11, .invokevirtual 44, 3), (14, .ireturn, 1), (15, .bipush 30, 2), (17, .istore_n 2, 1), (18, .iload_n 2, 1), (19, .ifCond .lt 25, 3), (22, .aload_n 0, 1), (23, .invokevirtual 147, 3), (26, .aload_n 0, 1), (27, .iload_n 1, 1), (28, .iload_n 2, 1), (29, .invokevirtual 153, 3), (32, .iconst (-1), 1), (33, .if_icmp .ne 5, 3), (36, .iload_n 2, 1), (37, .ireturn, 1), (38, .iinc 2 (-1), 3), (41, .goto (-23), 3), (44, .iconst (-1), 1), (45, .ireturn, 1)]
theorem dtbX11_most_0 : ∀ q ∈ tbX11_most_0, decode cX11_most q.1 = .ok q.2 := by decide +kernel
def tbX11_need_0 : List (Nat × Instr × Nat) := [(0, .iload_n 1, 1), (1, .iconst 1, 1), (2, .bipush 99, 2), (4, .invokestatic 40, 3), (7, .ifCond .ne 8, 3), (10, .aload_n 0, 1), (11, .invokevirtual 44, 3), (14, .ireturn, 1), (15, .iconst 0, 1), (16, .istore_n 2, 1), (17, .iload_n 2, 1), (18, .sipush 1000, 3), (21, .if_icmp .ge 40, 3), (24, .aload_n 0, 1), (25, .invokevirtual 147, 3), (28, .aload_n 0, 1), (29, .getfield 13, 3), (32, .iconst 0, 1), (33, .dup2, 1), (34, .iaload, 1), (35, .iload_n 2, 1), (36, .iadd, 1), (37, .iastore, 1), (38, .aload_n 0, 1), (39, .iload_n 1, 1), (40, .aload_n 0, 1), (41, .getfield 7, 3), (44, .iconst 5, 1), (45, .iaload, 1), (46, .invokevirtual 153, 3), (49, .iconst (-1), 1), (50, .if_icmp .ne 5, 3), (53, .iload_n 2, 1), (54, .ireturn, 1), (55, .iinc 2 1, 3), (58, .goto (-41), 3), (61, .iconst (-1), 1), (62, .ireturn, 1)]
theorem dtbX11_need_0 : ∀ q ∈ tbX11_need_0, decode cX11_need q.1 = .ok q.2 := by decide +kernel
def tbX11_move_0 : List (Nat × Instr × Nat) := [(0, .aload_n 0, 1), (1, .invokevirtual 147, 3), (4, .aload_n 0, 1), (5, .bipush 28, 2), (7, .aload_n 0, 1), (8, .getfield 7, 3), (11, .iconst 5, 1), (12, .iaload, 1), (13, .invokevirtual 150, 3), (16, .istore_n 1, 1), (17, .iconst (-1), 1), (18, .istore_n 2, 1), (19, .iconst 0, 1), (20, .istore_n 3, 1), (21, .iload_n 3, 1), (22, .aload_n 0, 1), (23, .getfield 7, 3), (26, .bipush 6, 2), (28, .iaload, 1), (29, .if_icmp .ge 85, 3), (32, .iconst 1, 1), (33, .istore 4, 2), (35, .iload 4, 2), (37, .bipush 28, 2), (39, .if_icmp .gt 69, 3), (42, .aload_n 0, 1), (43, .invokevirtual 147, 3), (46, .aload_n 0, 1), (47, .getfield 13, 3), (50, .bipush 14, 2), (52, .iload_n 3, 1), (53, .iadd, 1), (54, .iload 4, 2), (56, .iastore, 1), (57, .aload_n 0, 1), (58, .bipush 28, 2), (60, .aload_n 0, 1), (61, .getfield 7, 3), (64, .iconst 5, 1), (65, .iaload, 1), (66, .invokevirtual 150, 3), (69, .istore 5, 2), (71, .iload 5, 2), (73, .iload_n 1, 1), (74, .if_icmp .ge 13, 3), (77, .bipush 100, 2), (79, .iload_n 3, 1), (80, .imul, 1), (81, .iload 4, 2), (83, .iadd, 1), (84, .goto 4, 3), (87, .iload_n 2, 1), (88, .istore_n 2, 1), (89, .iload 5, 2), (91, .iload_n 1, 1), (92, .if_icmp .ge 8, 3), (95, .iload 5, 2), (97, .goto 4, 3), (100, .iload_n 1, 1), (101, .istore_n 1, 1)]
theorem dtbX11_move_0 : ∀ q ∈ tbX11_move_0, decode cX11_move q.1 = .ok q.2 := by decide +kernel
def tbX11_move_1 : List (Nat × Instr × Nat) := [(102, .iinc 4 1, 3), (105, .goto (-70), 3), (108, .iinc 3 1, 3), (111, .goto (-90), 3), (114, .iload_n 2, 1), (115, .ireturn, 1)]
theorem dtbX11_move_1 : ∀ q ∈ tbX11_move_1, decode cX11_move q.1 = .ok q.2 := by decide +kernel
def tbX11_monthly_0 : List (Nat × Instr × Nat) := [(0, .aload_n 0, 1), (1, .iload_n 1, 1), (2, .invokevirtual 139, 3), (5, .ifCond .ne 10, 3), (8, .aload_n 0, 1), (9, .ldc 146, 2), (11, .invokevirtual 143, 3), (14, .ireturn, 1), (15, .iconst 0, 1), (16, .istore_n 2, 1), (17, .iconst 0, 1), (18, .istore_n 3, 1), (19, .iload_n 3, 1), (20, .bipush 12, 2), (22, .if_icmp .ge 51, 3), (25, .iload_n 2, 1), (26, .aload_n 0, 1), (27, .getfield 7, 3), (30, .bipush 7, 2), (32, .iload_n 1, 1), (33, .iadd, 1), (34, .iaload, 1), (35, .aload_n 0, 1), (36, .getfield 7, 3), (39, .bipush 21, 2), (41, .iload_n 1, 1), (42, .iadd, 1), (43, .iaload, 1), (44, .aload_n 0, 1), (45, .getfield 7, 3), (48, .iconst 4, 1), (49, .iaload, 1), (50, .iload_n 3, 1), (51, .iadd, 1), (52, .invokestatic 117, 3), (55, .aload_n 0, 1), (56, .getfield 7, 3), (59, .bipush 21, 2), (61, .iload_n 1, 1), (62, .iadd, 1), (63, .iaload, 1), (64, .isub, 1), (65, .iadd, 1), (66, .istore_n 2, 1), (67, .iinc 3 1, 3), (70, .goto (-51), 3), (73, .iload_n 2, 1), (74, .ireturn, 1)]
theorem dtbX11_monthly_0 : ∀ q ∈ tbX11_monthly_0, decode cX11_monthly q.1 = .ok q.2 := by decide +kernel
def tbX11_dear_0 : List (Nat × Instr × Nat) := [(0, .iconst 0, 1), (1, .istore_n 1, 1), (2, .iconst (-1), 1), (3, .istore_n 2, 1), (4, .iconst 0, 1), (5, .istore_n 3, 1), (6, .iload_n 3, 1), (7, .aload_n 0, 1), (8, .getfield 7, 3), (11, .bipush 6, 2), (13, .iaload, 1), (14, .if_icmp .ge 88, 3), (17, .aload_n 0, 1), (18, .invokevirtual 147, 3), (21, .aload_n 0, 1), (22, .getfield 13, 3), (25, .bipush 7, 2), (27, .iload_n 3, 1), (28, .iadd, 1), (29, .iconst 0, 1), (30, .iastore, 1), (31, .aload_n 0, 1), (32, .getfield 13, 3), (35, .bipush 21, 2), (37, .iload_n 3, 1), (38, .iadd, 1), (39, .iconst 0, 1), (40, .iastore, 1), (41, .aload_n 0, 1), (42, .bipush 28, 2), (44, .aload_n 0, 1), (45, .getfield 7, 3), (48, .iconst 5, 1), (49, .iaload, 1), (50, .invokevirtual 150, 3), (53, .istore 4, 2), (55, .iload_n 2, 1), (56, .iconst (-1), 1), (57, .if_icmp .eq 9, 3), (60, .iload 4, 2), (62, .iload_n 1, 1), (63, .if_icmp .ge 7, 3), (66, .iconst 1, 1), (67, .goto 4, 3), (70, .iconst 0, 1), (71, .istore 5, 2), (73, .iload 5, 2), (75, .ifCond .eq 7, 3), (78, .iload_n 3, 1), (79, .goto 4, 3), (82, .iload_n 2, 1), (83, .istore_n 2, 1), (84, .iload 5, 2), (86, .ifCond .eq 8, 3), (89, .iload 4, 2), (91, .goto 4, 3), (94, .iload_n 1, 1), (95, .istore_n 1, 1), (96, .iinc 3 1, 3), (99, .goto (-93), 3)]
theorem dtbX11_dear_0 : ∀ q ∈ tbX11_dear_0, decode cX11_dear q.1 = .ok q.2 := by decide +kernel
def tbX11_dear_1 : List (Nat × Instr × Nat) := [(102, .iload_n 2, 1), (103, .ireturn, 1)]
theorem dtbX11_dear_1 : ∀ q ∈ tbX11_dear_1, decode cX11_dear q.1 = .ok q.2 := by decide +kernel
def tbX11_note_0 : List (Nat × Instr × Nat) := [(0, .aload_n 0, 1), (1, .iload_n 1, 1), (2, .invokevirtual 139, 3), (5, .ifCond .eq 48, 3), (8, .iload_n 2, 1), (9, .iconst 1, 1), (10, .bipush 28, 2), (12, .invokestatic 40, 3), (15, .ifCond .eq 38, 3), (18, .iload_n 3, 1), (19, .iconst 1, 1), (20, .bipush 28, 2), (22, .invokestatic 40, 3), (25, .ifCond .eq 28, 3), (28, .iload 4, 2), (30, .iconst 0, 1), (31, .bipush 40, 2), (33, .invokestatic 40, 3), (36, .ifCond .eq 17, 3), (39, .iload 5, 2), (41, .sipush (-999), 3), (44, .sipush 999, 3), (47, .invokestatic 40, 3), (50, .ifCond .ne 8, 3), (53, .aload_n 0, 1), (54, .invokevirtual 44, 3), (57, .ireturn, 1), (58, .aload_n 0, 1), (59, .getfield 7, 3), (62, .bipush 28, 2), (64, .iaload, 1), (65, .bipush 6, 2), (67, .if_icmp .ne 8, 3), (70, .aload_n 0, 1), (71, .invokevirtual 48, 3), (74, .ireturn, 1), (75, .bipush 29, 2), (77, .iconst 5, 1), (78, .aload_n 0, 1), (79, .getfield 7, 3), (82, .bipush 28, 2), (84, .iaload, 1), (85, .imul, 1), (86, .iadd, 1), (87, .istore 6, 2), (89, .aload_n 0, 1), (90, .getfield 7, 3), (93, .iload 6, 2), (95, .iload_n 1, 1), (96, .iastore, 1), (97, .aload_n 0, 1), (98, .getfield 7, 3), (101, .iload 6, 2), (103, .iconst 1, 1), (104, .iadd, 1), (105, .iload_n 2, 1), (106, .iastore, 1), (107, .aload_n 0, 1), (108, .getfield 7, 3), (111, .iload 6, 2)]
theorem dtbX11_note_0 : ∀ q ∈ tbX11_note_0, decode cX11_note q.1 = .ok q.2 := by decide +kernel
def tbX11_note_1 : List (Nat × Instr × Nat) := [(113, .iconst 2, 1), (114, .iadd, 1), (115, .iload_n 3, 1), (116, .iastore, 1), (117, .aload_n 0, 1), (118, .getfield 7, 3), (121, .iload 6, 2), (123, .iconst 3, 1), (124, .iadd, 1), (125, .iload 4, 2), (127, .iastore, 1), (128, .aload_n 0, 1), (129, .getfield 7, 3), (132, .iload 6, 2), (134, .iconst 4, 1), (135, .iadd, 1), (136, .iload 5, 2), (138, .iastore, 1), (139, .aload_n 0, 1), (140, .getfield 7, 3), (143, .bipush 28, 2), (145, .dup2, 1), (146, .iaload, 1), (147, .iconst 1, 1), (148, .iadd, 1), (149, .iastore, 1), (150, .aload_n 0, 1), (151, .getfield 7, 3), (154, .bipush 28, 2), (156, .iaload, 1), (157, .ireturn, 1)]
theorem dtbX11_note_1 : ∀ q ∈ tbX11_note_1, decode cX11_note q.1 = .ok q.2 := by decide +kernel
def tbX11_forget_0 : List (Nat × Instr × Nat) := [(0, .aload_n 0, 1), (1, .getfield 7, 3), (4, .bipush 28, 2), (6, .iaload, 1), (7, .istore_n 1, 1), (8, .aload_n 0, 1), (9, .getfield 7, 3), (12, .bipush 28, 2), (14, .iconst 0, 1), (15, .iastore, 1), (16, .iload_n 1, 1), (17, .ireturn, 1)]
theorem dtbX11_forget_0 : ∀ q ∈ tbX11_forget_0, decode cX11_forget q.1 = .ok q.2 := by decide +kernel
def tbX11_kindsOf_0 : List (Nat × Instr × Nat) := [(0, .iconst 0, 1), (1, .istore_n 2, 1), (2, .iconst 0, 1), (3, .istore_n 3, 1), (4, .iload_n 3, 1), (5, .bipush 6, 2), (7, .if_icmp .ge 151, 3), (10, .iconst 1, 1), (11, .istore 4, 2), (13, .iconst 0, 1), (14, .istore 5, 2), (16, .iload 5, 2), (18, .aload_n 0, 1), (19, .getfield 7, 3), (22, .bipush 28, 2), (24, .iaload, 1), (25, .if_icmp .ge 112, 3), (28, .bipush 29, 2), (30, .iconst 5, 1), (31, .iload 5, 2), (33, .imul, 1), (34, .iadd, 1), (35, .istore 6, 2), (37, .iload_n 3, 1), (38, .aload_n 0, 1), (39, .getfield 7, 3), (42, .iload 6, 2), (44, .iconst 1, 1), (45, .iadd, 1), (46, .iaload, 1), (47, .invokestatic 121, 3), (50, .aload_n 0, 1), (51, .getfield 7, 3), (54, .iload 6, 2), (56, .iconst 2, 1), (57, .iadd, 1), (58, .iaload, 1), (59, .if_icmp .ne 41, 3), (62, .iload_n 3, 1), (63, .aload_n 0, 1), (64, .getfield 7, 3), (67, .bipush 21, 2), (69, .iload_n 1, 1), (70, .iadd, 1), (71, .iaload, 1), (72, .aload_n 0, 1), (73, .getfield 7, 3), (76, .iload 6, 2), (78, .iconst 3, 1), (79, .iadd, 1), (80, .iaload, 1), (81, .invokestatic 117, 3), (84, .aload_n 0, 1), (85, .getfield 7, 3), (88, .iload 6, 2), (90, .iconst 4, 1), (91, .iadd, 1), (92, .iaload, 1), (93, .if_icmp .ne 7, 3), (96, .iconst 1, 1)]
theorem dtbX11_kindsOf_0 : ∀ q ∈ tbX11_kindsOf_0, decode cX11_kindsOf q.1 = .ok q.2 := by decide +kernel
def tbX11_kindsOf_1 : List (Nat × Instr × Nat) := [(97, .goto 4, 3), (100, .iconst 0, 1), (101, .istore 7, 2), (103, .iload 4, 2), (105, .ifCond .eq 23, 3), (108, .aload_n 0, 1), (109, .getfield 7, 3), (112, .iload 6, 2), (114, .iaload, 1), (115, .iload_n 1, 1), (116, .if_icmp .ne 8, 3), (119, .iload 7, 2), (121, .ifCond .eq 7, 3), (124, .iconst 1, 1), (125, .goto 4, 3), (128, .iconst 0, 1), (129, .istore 4, 2), (131, .iinc 5 1, 3), (134, .goto (-118), 3), (137, .iload_n 2, 1), (138, .iload 4, 2), (140, .ifCond .eq 9, 3), (143, .iconst 1, 1), (144, .iload_n 3, 1), (145, .ishl, 1), (146, .goto 4, 3), (149, .iconst 0, 1), (150, .ior, 1), (151, .istore_n 2, 1), (152, .iinc 3 1, 3), (155, .goto (-151), 3), (158, .iload_n 2, 1), (159, .ireturn, 1)]
theorem dtbX11_kindsOf_1 : ∀ q ∈ tbX11_kindsOf_1, decode cX11_kindsOf q.1 = .ok q.2 := by decide +kernel
def tbX11_is_0 : List (Nat × Instr × Nat) := [(0, .aload_n 0, 1), (1, .iload_n 1, 1), (2, .invokevirtual 139, 3), (5, .ifCond .eq 11, 3), (8, .aload_n 0, 1), (9, .iload_n 1, 1), (10, .invokevirtual 156, 3), (13, .goto 7, 3), (16, .aload_n 0, 1), (17, .invokevirtual 44, 3), (20, .ireturn, 1)]
theorem dtbX11_is_0 : ∀ q ∈ tbX11_is_0, decode cX11_is q.1 = .ok q.2 := by decide +kernel
def tbX11_alikeBy_0 : List (Nat × Instr × Nat) := [(0, .iconst 0, 1), (1, .istore 5, 2), (3, .iconst 0, 1), (4, .istore 6, 2), (6, .iload 6, 2), (8, .bipush 6, 2), (10, .if_icmp .ge 105, 3), (13, .iload 6, 2), (15, .aload_n 0, 1), (16, .getfield 7, 3), (19, .bipush 14, 2), (21, .iload_n 2, 1), (22, .iadd, 1), (23, .iaload, 1), (24, .invokestatic 121, 3), (27, .iload_n 3, 1), (28, .aload_n 0, 1), (29, .getfield 7, 3), (32, .bipush 14, 2), (34, .iload_n 2, 1), (35, .iadd, 1), (36, .iaload, 1), (37, .invokestatic 121, 3), (40, .if_icmp .ne 41, 3), (43, .iload 6, 2), (45, .aload_n 0, 1), (46, .getfield 7, 3), (49, .bipush 21, 2), (51, .iload_n 2, 1), (52, .iadd, 1), (53, .iaload, 1), (54, .iload 4, 2), (56, .invokestatic 117, 3), (59, .iload_n 3, 1), (60, .aload_n 0, 1), (61, .getfield 7, 3), (64, .bipush 21, 2), (66, .iload_n 2, 1), (67, .iadd, 1), (68, .iaload, 1), (69, .iload 4, 2), (71, .invokestatic 117, 3), (74, .if_icmp .ne 7, 3), (77, .iconst 1, 1), (78, .goto 4, 3), (81, .iconst 0, 1), (82, .istore 7, 2), (84, .iload 5, 2), (86, .iload_n 1, 1), (87, .iload 6, 2), (89, .ishr, 1), (90, .iconst 1, 1), (91, .iand, 1), (92, .iconst 1, 1), (93, .if_icmp .ne 12, 3), (96, .iload 7, 2), (98, .ifCond .eq 7, 3), (101, .iconst 1, 1), (102, .goto 4, 3), (105, .iconst 0, 1)]
theorem dtbX11_alikeBy_0 : ∀ q ∈ tbX11_alikeBy_0, decode cX11_alikeBy q.1 = .ok q.2 := by decide +kernel
def tbX11_alikeBy_1 : List (Nat × Instr × Nat) := [(106, .iadd, 1), (107, .istore 5, 2), (109, .iinc 6 1, 3), (112, .goto (-106), 3), (115, .iload 5, 2), (117, .ireturn, 1)]
theorem dtbX11_alikeBy_1 : ∀ q ∈ tbX11_alikeBy_1, decode cX11_alikeBy q.1 = .ok q.2 := by decide +kernel
end
section
def tbX11_look_0 : List (Nat × Instr × Nat) := [(0, .aload_n 0, 1), (1, .iload_n 1, 1), (2, .invokevirtual 139, 3), (5, .ifCond .ne 8, 3), (8, .aload_n 0, 1), (9, .invokevirtual 44, 3), (12, .ireturn, 1), (13, .aload_n 0, 1), (14, .iload_n 1, 1), (15, .invokevirtual 156, 3), (18, .istore_n 2, 1), (19, .iconst (-1), 1), (20, .istore_n 3, 1), (21, .bipush 99, 2), (23, .istore 4, 2), (25, .iconst 0, 1), (26, .istore 5, 2), (28, .iload 5, 2), (30, .bipush 12, 2), (32, .if_icmp .gt 104, 3), (35, .iload_n 2, 1), (36, .ifCond .eq 100, 3), (39, .iconst 0, 1), (40, .istore 6, 2), (42, .iconst 0, 1), (43, .istore 7, 2), (45, .iload 7, 2), (47, .bipush 6, 2), (49, .if_icmp .ge 51, 3), (52, .iload_n 2, 1), (53, .iload 7, 2), (55, .ishr, 1), (56, .iconst 1, 1), (57, .iand, 1), (58, .iconst 1, 1), (59, .if_icmp .ne 16, 3), (62, .aload_n 0, 1), (63, .iload_n 2, 1), (64, .iload_n 1, 1), (65, .iload 7, 2), (67, .iload 5, 2), (69, .invokevirtual 159, 3), (72, .goto 4, 3), (75, .iconst 0, 1), (76, .istore 8, 2), (78, .iload 8, 2), (80, .iload 6, 2), (82, .if_icmp .le 8, 3), (85, .iload 8, 2), (87, .goto 5, 3), (90, .iload 6, 2), (92, .istore 6, 2), (94, .iinc 7 1, 3), (97, .goto (-52), 3), (100, .iload 6, 2), (102, .iload 4, 2), (104, .if_icmp .ge 8, 3), (107, .iload 5, 2), (109, .goto 4, 3), (112, .iload_n 3, 1)]
theorem dtbX11_look_0 : ∀ q ∈ tbX11_look_0, decode cX11_look q.1 = .ok q.2 := by decide +kernel
def tbX11_look_1 : List (Nat × Instr × Nat) := [(113, .istore_n 3, 1), (114, .iload 6, 2), (116, .iload 4, 2), (118, .if_icmp .ge 8, 3), (121, .iload 6, 2), (123, .goto 5, 3), (126, .iload 4, 2), (128, .istore 4, 2), (130, .iinc 5 1, 3), (133, .goto (-105), 3), (136, .iload_n 3, 1), (137, .ireturn, 1)]
theorem dtbX11_look_1 : ∀ q ∈ tbX11_look_1, decode cX11_look q.1 = .ok q.2 := by decide +kernel
def tbX11_gets_0 : List (Nat × Instr × Nat) := [(0, .aload_n 0, 1), (1, .invokevirtual 147, 3), (4, .iconst 3, 1), (5, .iload_n 2, 1), (6, .imul, 1), (7, .aload_n 0, 1), (8, .iload_n 1, 1), (9, .aload_n 0, 1), (10, .getfield 7, 3), (13, .iconst 5, 1), (14, .iaload, 1), (15, .iload_n 2, 1), (16, .iadd, 1), (17, .iload_n 3, 1), (18, .iadd, 1), (19, .invokevirtual 150, 3), (22, .isub, 1), (23, .ireturn, 1)]
theorem dtbX11_gets_0 : ∀ q ∈ tbX11_gets_0, decode cX11_gets q.1 = .ok q.2 := by decide +kernel
def tbX11_rests_0 : List (Nat × Instr × Nat) := [(0, .iconst 1, 1), (1, .istore 4, 2), (3, .iconst 0, 1), (4, .istore 5, 2), (6, .iload 5, 2), (8, .iconst 4, 1), (9, .if_icmp .ge 57, 3), (12, .iload 4, 2), (14, .ifCond .eq 43, 3), (17, .aload_n 0, 1), (18, .iload_n 1, 1), (19, .iload 5, 2), (21, .iload_n 3, 1), (22, .invokevirtual 163, 3), (25, .aload_n 0, 1), (26, .iload_n 1, 1), (27, .iload_n 2, 1), (28, .iload_n 3, 1), (29, .invokevirtual 163, 3), (32, .if_icmp .gt 25, 3), (35, .aload_n 0, 1), (36, .iload_n 1, 1), (37, .iload 5, 2), (39, .iload_n 2, 1), (40, .invokevirtual 163, 3), (43, .aload_n 0, 1), (44, .iload_n 1, 1), (45, .iload_n 3, 1), (46, .iload_n 2, 1), (47, .invokevirtual 163, 3), (50, .if_icmp .gt 7, 3), (53, .iconst 1, 1), (54, .goto 4, 3), (57, .iconst 0, 1), (58, .istore 4, 2), (60, .iinc 5 1, 3), (63, .goto (-57), 3), (66, .iload 4, 2), (68, .ireturn, 1)]
theorem dtbX11_rests_0 : ∀ q ∈ tbX11_rests_0, decode cX11_rests q.1 = .ok q.2 := by decide +kernel
def tbX11_two_0 : List (Nat × Instr × Nat) := [(0, .iload_n 1, 1), (1, .iconst 1, 1), (2, .bipush 28, 2), (4, .invokestatic 40, 3), (7, .ifCond .eq 8, 3), (10, .iload_n 2, 1), (11, .iconst (-1), 1), (12, .if_icmp .ge 10, 3), (15, .aload_n 0, 1), (16, .bipush (-10), 2), (18, .invokevirtual 143, 3), (21, .ireturn, 1), (22, .iconst 0, 1), (23, .istore_n 3, 1), (24, .iconst 0, 1), (25, .istore 4, 2), (27, .iload 4, 2), (29, .bipush 16, 2), (31, .if_icmp .ge 36, 3), (34, .aload_n 0, 1), (35, .iload_n 1, 1), (36, .iload 4, 2), (38, .iconst 4, 1), (39, .idiv, 1), (40, .iload 4, 2), (42, .iconst 4, 1), (43, .irem, 1), (44, .invokevirtual 166, 3), (47, .ifCond .eq 14, 3), (50, .iload_n 3, 1), (51, .iload_n 2, 1), (52, .if_icmp .ne 6, 3), (55, .iload 4, 2), (57, .ireturn, 1), (58, .iinc 3 1, 3), (61, .iinc 4 1, 3), (64, .goto (-37), 3), (67, .iload_n 2, 1), (68, .iconst (-1), 1), (69, .if_icmp .ne 7, 3), (72, .iload_n 3, 1), (73, .goto 5, 3), (76, .bipush (-5), 2), (78, .ireturn, 1)]
theorem dtbX11_two_0 : ∀ q ∈ tbX11_two_0, decode cX11_two q.1 = .ok q.2 := by decide +kernel
def tbX11_boiler_0 : List (Nat × Instr × Nat) := [(0, .iload_n 1, 1), (1, .iconst 0, 1), (2, .sipush 999, 3), (5, .invokestatic 40, 3), (8, .ifCond .eq 23, 3), (11, .iload_n 2, 1), (12, .iconst 0, 1), (13, .bipush 99, 2), (15, .invokestatic 40, 3), (18, .ifCond .eq 13, 3), (21, .iload_n 3, 1), (22, .iconst 0, 1), (23, .bipush 10, 2), (25, .invokestatic 40, 3), (28, .ifCond .ne 8, 3), (31, .aload_n 0, 1), (32, .invokevirtual 44, 3), (35, .ireturn, 1), (36, .aload_n 0, 1), (37, .invokevirtual 147, 3), (40, .ldc2_w 169, 3), (43, .iload_n 3, 1), (44, .i2l, 1), (45, .lsub, 1), (46, .aload_n 0, 1), (47, .iload_n 2, 1), (48, .aload_n 0, 1), (49, .getfield 7, 3), (52, .iconst 5, 1), (53, .iaload, 1), (54, .invokevirtual 150, 3), (57, .i2l, 1), (58, .lmul, 1), (59, .lstore 4, 2), (61, .aload_n 0, 1), (62, .invokevirtual 147, 3), (65, .aload_n 0, 1), (66, .getfield 13, 3), (69, .iconst 0, 1), (70, .dup2, 1), (71, .iaload, 1), (72, .iload_n 1, 1), (73, .isub, 1), (74, .iastore, 1), (75, .lload 4, 2), (77, .iload_n 3, 1), (78, .i2l, 1), (79, .aload_n 0, 1), (80, .iload_n 2, 1), (81, .aload_n 0, 1), (82, .getfield 7, 3), (85, .iconst 5, 1), (86, .iaload, 1), (87, .invokevirtual 150, 3), (90, .i2l, 1), (91, .lmul, 1), (92, .ladd, 1), (93, .lstore 4, 2), (95, .lload 4, 2), (97, .lstore 6, 2)]
theorem dtbX11_boiler_0 : ∀ q ∈ tbX11_boiler_0, decode cX11_boiler q.1 = .ok q.2 := by decide +kernel
def tbX11_boiler_1 : List (Nat × Instr × Nat) := [(99, .ldc2_w 169, 3), (102, .lstore 8, 2), (104, .lload 8, 2), (106, .lconst 0, 1), (107, .lcmp, 1), (108, .ifCond .le 21, 3), (111, .lload 6, 2), (113, .lload 8, 2), (115, .lrem, 1), (116, .lstore 10, 2), (118, .lload 8, 2), (120, .lstore 6, 2), (122, .lload 10, 2), (124, .lstore 8, 2), (126, .goto (-22), 3), (129, .aload_n 0, 1), (130, .lload 4, 2), (132, .lload 6, 2), (134, .ldiv, 1), (135, .putfield 171, 3), (138, .aload_n 0, 1), (139, .ldc2_w 169, 3), (142, .lload 6, 2), (144, .ldiv, 1), (145, .putfield 29, 3), (148, .iconst 1, 1), (149, .ireturn, 1)]
theorem dtbX11_boiler_1 : ∀ q ∈ tbX11_boiler_1, decode cX11_boiler q.1 = .ok q.2 := by decide +kernel
def tbX11_years_0 : List (Nat × Instr × Nat) := [(0, .iload_n 1, 1), (1, .iconst 0, 1), (2, .ldc 174, 2), (4, .invokestatic 40, 3), (7, .ifCond .eq 13, 3), (10, .iload_n 2, 1), (11, .iconst 0, 1), (12, .bipush 60, 2), (14, .invokestatic 40, 3), (17, .ifCond .ne 10, 3), (20, .aload_n 0, 1), (21, .ldc 146, 2), (23, .invokevirtual 143, 3), (26, .ireturn, 1), (27, .aload_n 0, 1), (28, .invokevirtual 147, 3), (31, .iload_n 1, 1), (32, .i2l, 1), (33, .lstore_n 3, 1), (34, .iconst 0, 1), (35, .istore 5, 2), (37, .iload 5, 2), (39, .iload_n 2, 1), (40, .if_icmp .ge 40, 3), (43, .lload_n 3, 1), (44, .ldc2_w 175, 3), (47, .lmul, 1), (48, .ldc2_w 177, 3), (51, .ladd, 1), (52, .ldc2_w 179, 3), (55, .lrem, 1), (56, .lstore_n 3, 1), (57, .aload_n 0, 1), (58, .getfield 13, 3), (61, .lload_n 3, 1), (62, .ldc2_w 181, 3), (65, .ldiv, 1), (66, .ldc2_w 183, 3), (69, .lrem, 1), (70, .l2i, 1), (71, .invokestatic 132, 3), (74, .iinc 5 1, 3), (77, .goto (-40), 3), (80, .aload_n 0, 1), (81, .getfield 13, 3), (84, .iconst 0, 1), (85, .iaload, 1), (86, .ireturn, 1)]
theorem dtbX11_years_0 : ∀ q ∈ tbX11_years_0, decode cX11_years q.1 = .ok q.2 := by decide +kernel
def tbX11_part_0 : List (Nat × Instr × Nat) := [(0, .iload_n 1, 1), (1, .ifCond .ne 10, 3), (4, .aload_n 0, 1), (5, .getfield 171, 3), (8, .goto 20, 3), (11, .iload_n 1, 1), (12, .iconst 1, 1), (13, .if_icmp .ne 10, 3), (16, .aload_n 0, 1), (17, .getfield 29, 3), (20, .goto 8, 3), (23, .aload_n 0, 1), (24, .invokevirtual 44, 3), (27, .i2l, 1), (28, .lreturn, 1)]
theorem dtbX11_part_0 : ∀ q ∈ tbX11_part_0, decode cX11_part q.1 = .ok q.2 := by decide +kernel
def tbX11_image_0 : List (Nat × Instr × Nat) := [(0, .iload_n 1, 1), (1, .iconst 0, 1), (2, .iconst 1, 1), (3, .invokestatic 40, 3), (6, .ifCond .ne 8, 3), (9, .aload_n 0, 1), (10, .invokevirtual 44, 3), (13, .ireturn, 1), (14, .aload_n 0, 1), (15, .getfield 7, 3), (18, .iconst 0, 1), (19, .aload_n 0, 1), (20, .getfield 19, 3), (23, .bipush 108, 2), (25, .iload_n 1, 1), (26, .imul, 1), (27, .bipush 108, 2), (29, .invokestatic 113, 3), (32, .aload_n 0, 1), (33, .getfield 22, 3), (36, .iload_n 1, 1), (37, .iconst 1, 1), (38, .bastore, 1), (39, .iconst 1, 1), (40, .ireturn, 1)]
theorem dtbX11_image_0 : ∀ q ∈ tbX11_image_0, decode cX11_image q.1 = .ok q.2 := by decide +kernel
def tbX11_from_0 : List (Nat × Instr × Nat) := [(0, .iload_n 1, 1), (1, .iconst 0, 1), (2, .iconst 1, 1), (3, .invokestatic 40, 3), (6, .ifCond .ne 8, 3), (9, .aload_n 0, 1), (10, .invokevirtual 44, 3), (13, .ireturn, 1), (14, .aload_n 0, 1), (15, .getfield 22, 3), (18, .iload_n 1, 1), (19, .baload, 1), (20, .ifCond .ne 8, 3), (23, .aload_n 0, 1), (24, .invokevirtual 136, 3), (27, .ireturn, 1), (28, .aload_n 0, 1), (29, .getfield 19, 3), (32, .bipush 108, 2), (34, .iload_n 1, 1), (35, .imul, 1), (36, .aload_n 0, 1), (37, .getfield 7, 3), (40, .iconst 0, 1), (41, .bipush 108, 2), (43, .invokestatic 113, 3), (46, .iconst 1, 1), (47, .ireturn, 1)]
theorem dtbX11_from_0 : ∀ q ∈ tbX11_from_0, decode cX11_from q.1 = .ok q.2 := by decide +kernel
def tbX11_status_0 : List (Nat × Instr × Nat) := [(0, .iload_n 1, 1), (1, .iconst 0, 1), (2, .iconst 2, 1), (3, .invokestatic 40, 3), (6, .ifCond .eq 12, 3), (9, .aload_n 0, 1), (10, .getfield 26, 3), (13, .iload_n 1, 1), (14, .iaload, 1), (15, .goto 8, 3), (18, .aload_n 0, 1), (19, .iconst (-1), 1), (20, .invokevirtual 143, 3), (23, .ireturn, 1)]
theorem dtbX11_status_0 : ∀ q ∈ tbX11_status_0, decode cX11_status q.1 = .ok q.2 := by decide +kernel
def tbX11_counted_0 : List (Nat × Instr × Nat) := [(0, .iload_n 1, 1), (1, .ifCond .ne 13, 3), (4, .aload_n 0, 1), (5, .getfield 7, 3), (8, .bipush 6, 2), (10, .iaload, 1), (11, .goto 37, 3), (14, .iload_n 1, 1), (15, .iconst 1, 1), (16, .if_icmp .ne 13, 3), (19, .aload_n 0, 1), (20, .getfield 7, 3), (23, .bipush 28, 2), (25, .iaload, 1), (26, .goto 22, 3), (29, .iload_n 1, 1), (30, .iconst 2, 1), (31, .if_icmp .ne 13, 3), (34, .aload_n 0, 1), (35, .getfield 7, 3), (38, .bipush 59, 2), (40, .iaload, 1), (41, .goto 7, 3), (44, .aload_n 0, 1), (45, .getfield 55, 3), (48, .ireturn, 1)]
theorem dtbX11_counted_0 : ∀ q ∈ tbX11_counted_0, decode cX11_counted q.1 = .ok q.2 := by decide +kernel
def tbX11_count_0 : List (Nat × Instr × Nat) := [(0, .iload_n 1, 1), (1, .iconst 0, 1), (2, .iconst 3, 1), (3, .invokestatic 40, 3), (6, .ifCond .eq 11, 3), (9, .aload_n 0, 1), (10, .iload_n 1, 1), (11, .invokevirtual 185, 3), (14, .goto 7, 3), (17, .aload_n 0, 1), (18, .invokevirtual 44, 3), (21, .ireturn, 1)]
theorem dtbX11_count_0 : ∀ q ∈ tbX11_count_0, decode cX11_count q.1 = .ok q.2 := by decide +kernel
def tbX11_digest_0 : List (Nat × Instr × Nat) := [(0, .ldc2_w 188, 3), (3, .lstore_n 1, 1), (4, .iconst 0, 1), (5, .istore_n 3, 1), (6, .iload_n 3, 1), (7, .iconst 4, 1), (8, .if_icmp .ge 22, 3), (11, .ldc2_w 183, 3), (14, .lload_n 1, 1), (15, .lmul, 1), (16, .aload_n 0, 1), (17, .iload_n 3, 1), (18, .invokevirtual 185, 3), (21, .i2l, 1), (22, .ladd, 1), (23, .lstore_n 1, 1), (24, .iinc 3 1, 3), (27, .goto (-21), 3), (30, .iconst 0, 1), (31, .istore_n 3, 1), (32, .iload_n 3, 1), (33, .bipush 6, 2), (35, .if_icmp .ge 23, 3), (38, .ldc2_w 183, 3), (41, .lload_n 1, 1), (42, .lmul, 1), (43, .aload_n 0, 1), (44, .getfield 7, 3), (47, .iload_n 3, 1), (48, .iaload, 1), (49, .i2l, 1), (50, .ladd, 1), (51, .lstore_n 1, 1), (52, .iinc 3 1, 3), (55, .goto (-23), 3), (58, .iconst 0, 1), (59, .istore_n 3, 1), (60, .iload_n 3, 1), (61, .aload_n 0, 1), (62, .getfield 7, 3), (65, .bipush 6, 2), (67, .iaload, 1), (68, .if_icmp .ge 60, 3), (71, .ldc2_w 183, 3), (74, .lload_n 1, 1), (75, .lmul, 1), (76, .aload_n 0, 1), (77, .getfield 7, 3), (80, .bipush 7, 2), (82, .iload_n 3, 1), (83, .iadd, 1), (84, .iaload, 1), (85, .i2l, 1), (86, .ladd, 1), (87, .lstore_n 1, 1), (88, .ldc2_w 183, 3), (91, .lload_n 1, 1), (92, .lmul, 1), (93, .aload_n 0, 1), (94, .getfield 7, 3)]
theorem dtbX11_digest_0 : ∀ q ∈ tbX11_digest_0, decode cX11_digest q.1 = .ok q.2 := by decide +kernel
def tbX11_digest_1 : List (Nat × Instr × Nat) := [(97, .bipush 14, 2), (99, .iload_n 3, 1), (100, .iadd, 1), (101, .iaload, 1), (102, .i2l, 1), (103, .ladd, 1), (104, .lstore_n 1, 1), (105, .ldc2_w 183, 3), (108, .lload_n 1, 1), (109, .lmul, 1), (110, .aload_n 0, 1), (111, .getfield 7, 3), (114, .bipush 21, 2), (116, .iload_n 3, 1), (117, .iadd, 1), (118, .iaload, 1), (119, .i2l, 1), (120, .ladd, 1), (121, .lstore_n 1, 1), (122, .iinc 3 1, 3), (125, .goto (-65), 3), (128, .iconst 0, 1), (129, .istore_n 3, 1), (130, .iload_n 3, 1), (131, .iconst 5, 1), (132, .aload_n 0, 1), (133, .getfield 7, 3), (136, .bipush 28, 2), (138, .iaload, 1), (139, .imul, 1), (140, .if_icmp .ge 26, 3), (143, .ldc2_w 183, 3), (146, .lload_n 1, 1), (147, .lmul, 1), (148, .aload_n 0, 1), (149, .getfield 7, 3), (152, .bipush 29, 2), (154, .iload_n 3, 1), (155, .iadd, 1), (156, .iaload, 1), (157, .i2l, 1), (158, .ladd, 1), (159, .lstore_n 1, 1), (160, .iinc 3 1, 3), (163, .goto (-33), 3), (166, .ldc2_w 183, 3), (169, .ldc2_w 183, 3), (172, .lload_n 1, 1), (173, .lmul, 1), (174, .aload_n 0, 1), (175, .getfield 171, 3), (178, .ladd, 1), (179, .lmul, 1), (180, .aload_n 0, 1), (181, .getfield 29, 3), (184, .ladd, 1), (185, .lreturn, 1)]
theorem dtbX11_digest_1 : ∀ q ∈ tbX11_digest_1, decode cX11_digest q.1 = .ok q.2 := by decide +kernel
def tbJ9_floorDiv_7cf53_0 : List (Nat × Instr × Nat) := [(0, .iload_n 0, 1), (1, .iload_n 1, 1), (2, .idiv, 1), (3, .istore_n 2, 1), (4, .iload_n 0, 1), (5, .iload_n 1, 1), (6, .ixor, 1), (7, .ifCond .ge 14, 3), (10, .iload_n 2, 1), (11, .iload_n 1, 1), (12, .imul, 1), (13, .iload_n 0, 1), (14, .if_icmp .eq 7, 3), (17, .iload_n 2, 1), (18, .iconst 1, 1), (19, .isub, 1), (20, .ireturn, 1), (21, .iload_n 2, 1), (22, .ireturn, 1)]
theorem dtbJ9_floorDiv_7cf53_0 : ∀ q ∈ tbJ9_floorDiv_7cf53_0, decode cJ9_floorDiv_7cf53 q.1 = .ok q.2 := by decide +kernel
def tbJ9_floorMod_7cf53_0 : List (Nat × Instr × Nat) := [(0, .iload_n 0, 1), (1, .iload_n 1, 1), (2, .irem, 1), (3, .istore_n 2, 1), (4, .iload_n 0, 1), (5, .iload_n 1, 1), (6, .ixor, 1), (7, .ifCond .ge 11, 3), (10, .iload_n 2, 1), (11, .ifCond .eq 7, 3), (14, .iload_n 2, 1), (15, .iload_n 1, 1), (16, .iadd, 1), (17, .ireturn, 1), (18, .iload_n 2, 1), (19, .ireturn, 1)]
theorem dtbJ9_floorMod_7cf53_0 : ∀ q ∈ tbJ9_floorMod_7cf53_0, decode cJ9_floorMod_7cf53 q.1 = .ok q.2 := by decide +kernel
def tbJ9_max_7cf53_0 : List (Nat × Instr × Nat) := [(0, .iload_n 0, 1), (1, .iload_n 1, 1), (2, .if_icmp .lt 7, 3), (5, .iload_n 0, 1), (6, .goto 4, 3), (9, .iload_n 1, 1), (10, .ireturn, 1)]
theorem dtbJ9_max_7cf53_0 : ∀ q ∈ tbJ9_max_7cf53_0, decode cJ9_max_7cf53 q.1 = .ok q.2 := by decide +kernel
def tbJ9_min_7cf53_0 : List (Nat × Instr × Nat) := [(0, .iload_n 0, 1), (1, .iload_n 1, 1), (2, .if_icmp .gt 7, 3), (5, .iload_n 0, 1), (6, .goto 4, 3), (9, .iload_n 1, 1), (10, .ireturn, 1)]
theorem dtbJ9_min_7cf53_0 : ∀ q ∈ tbJ9_min_7cf53_0, decode cJ9_min_7cf53 q.1 = .ok q.2 := by decide +kernel
def tbJ0_length_8abf5_0 : List (Nat × Instr × Nat) := [(0, .aload_n 0, 1), (1, .getfield 9, 3), (4, .arraylength, 1), (5, .aload_n 0, 1), (6, .invokevirtual 335, 3), (9, .ishr, 1), (10, .ireturn, 1)]
theorem dtbJ0_length_8abf5_0 : ∀ q ∈ tbJ0_length_8abf5_0, decode cJ0_length_8abf5 q.1 = .ok q.2 := by decide +kernel
def tbJ0_charAt_5068e_0 : List (Nat × Instr × Nat) := [(0, .aload_n 0, 1), (1, .invokevirtual 492, 3), (4, .ifCond .eq 12, 3), (7, .aload_n 0, 1), (8, .getfield 9, 3), (11, .iload_n 1, 1), (12, .invokestatic 495, 3), (15, .ireturn, 1), (16, .aload_n 0, 1), (17, .getfield 9, 3), (20, .iload_n 1, 1), (21, .invokestatic 498, 3), (24, .ireturn, 1)]
theorem dtbJ0_charAt_5068e_0 : ∀ q ∈ tbJ0_charAt_5068e_0, decode cJ0_charAt_5068e q.1 = .ok q.2 := by decide +kernel
def tbJ0_coder_7d493_0 : List (Nat × Instr × Nat) := [(0, .getstatic 38, 3), (3, .ifCond .eq 10, 3), (6, .aload_n 0, 1), (7, .getfield 15, 3), (10, .goto 4, 3), (13, .iconst 1, 1), (14, .ireturn, 1)]
theorem dtbJ0_coder_7d493_0 : ∀ q ∈ tbJ0_coder_7d493_0, decode cJ0_coder_7d493 q.1 = .ok q.2 := by decide +kernel
def tbJ0_isLatin1_aae02_0 : List (Nat × Instr × Nat) := [(0, .getstatic 38, 3), (3, .ifCond .eq 14, 3), (6, .aload_n 0, 1), (7, .getfield 15, 3), (10, .ifCond .ne 7, 3), (13, .iconst 1, 1), (14, .goto 4, 3), (17, .iconst 0, 1), (18, .ireturn, 1)]
theorem dtbJ0_isLatin1_aae02_0 : ∀ q ∈ tbJ0_isLatin1_aae02_0, decode cJ0_isLatin1_aae02 q.1 = .ok q.2 := by decide +kernel
def tbJ0_checkIndex_df160_0 : List (Nat × Instr × Nat) := [(0, .iload_n 0, 1), (1, .iload_n 1, 1), (2, .getstatic 1053, 3), (5, .invokestatic 1059, 3), (8, .pop, 1), (9, .return_, 1)]
theorem dtbJ0_checkIndex_df160_0 : ∀ q ∈ tbJ0_checkIndex_df160_0, decode cJ0_checkIndex_df160 q.1 = .ok q.2 := by decide +kernel
def tbJ1_charAt_3b067_0 : List (Nat × Instr × Nat) := [(0, .iload_n 1, 1), (1, .aload_n 0, 1), (2, .arraylength, 1), (3, .invokestatic 9, 3), (6, .aload_n 0, 1), (7, .iload_n 1, 1), (8, .baload, 1), (9, .sipush 255, 3), (12, .iand, 1), (13, .i2c, 1), (14, .ireturn, 1)]
theorem dtbJ1_charAt_3b067_0 : ∀ q ∈ tbJ1_charAt_3b067_0, decode cJ1_charAt_3b067 q.1 = .ok q.2 := by decide +kernel
def tbJ2_getChar_3b067_0 : List (Nat × Instr × Nat) := [(0, .getstatic 44, 3), (3, .ifCond .ne 25, 3), (6, .iload_n 1, 1), (7, .ifCond .lt 11, 3), (10, .iload_n 1, 1), (11, .aload_n 0, 1), (12, .invokestatic 48, 3), (15, .if_icmp .lt 13, 3), (18, .new 52, 3), (21, .dup, 1), (22, .ldc 54, 2), (24, .invokespecial 56, 3), (27, .athrow, 1), (28, .iload_n 1, 1), (29, .iconst 1, 1), (30, .ishl, 1), (31, .istore_n 1, 1), (32, .aload_n 0, 1), (33, .iload_n 1, 1), (34, .iinc 1 1, 3), (37, .baload, 1), (38, .sipush 255, 3), (41, .iand, 1), (42, .getstatic 59, 3), (45, .ishl, 1), (46, .aload_n 0, 1), (47, .iload_n 1, 1), (48, .baload, 1), (49, .sipush 255, 3), (52, .iand, 1), (53, .getstatic 63, 3), (56, .ishl, 1), (57, .ior, 1), (58, .i2c, 1), (59, .ireturn, 1)]
theorem dtbJ2_getChar_3b067_0 : ∀ q ∈ tbJ2_getChar_3b067_0, decode cJ2_getChar_3b067 q.1 = .ok q.2 := by decide +kernel
def tbJ2_length_9d52b_0 : List (Nat × Instr × Nat) := [(0, .aload_n 0, 1), (1, .arraylength, 1), (2, .iconst 1, 1), (3, .ishr, 1), (4, .ireturn, 1)]
theorem dtbJ2_length_9d52b_0 : ∀ q ∈ tbJ2_length_9d52b_0, decode cJ2_length_9d52b q.1 = .ok q.2 := by decide +kernel
def tbJ2_charAt_3b067_0 : List (Nat × Instr × Nat) := [(0, .iload_n 1, 1), (1, .aload_n 0, 1), (2, .invokestatic 67, 3), (5, .aload_n 0, 1), (6, .iload_n 1, 1), (7, .invokestatic 71, 3), (10, .ireturn, 1)]
theorem dtbJ2_charAt_3b067_0 : ∀ q ∈ tbJ2_charAt_3b067_0, decode cJ2_charAt_3b067 q.1 = .ok q.2 := by decide +kernel
def tbJ2_checkIndex_2214a_0 : List (Nat × Instr × Nat) := [(0, .iload_n 0, 1), (1, .aload_n 1, 1), (2, .invokestatic 48, 3), (5, .invokestatic 414, 3), (8, .return_, 1)]
theorem dtbJ2_checkIndex_2214a_0 : ∀ q ∈ tbJ2_checkIndex_2214a_0, decode cJ2_checkIndex_2214a q.1 = .ok q.2 := by decide +kernel
def tbJ7_fill_53178_0 : List (Nat × Instr × Nat) := [(0, .iconst 0, 1), (1, .istore_n 2, 1), (2, .aload_n 0, 1), (3, .arraylength, 1), (4, .istore_n 3, 1), (5, .iload_n 2, 1), (6, .iload_n 3, 1), (7, .if_icmp .ge 13, 3), (10, .aload_n 0, 1), (11, .iload_n 2, 1), (12, .iload_n 1, 1), (13, .iastore, 1), (14, .iinc 2 1, 3), (17, .goto (-12), 3), (20, .return_, 1)]
theorem dtbJ7_fill_53178_0 : ∀ q ∈ tbJ7_fill_53178_0, decode cJ7_fill_53178 q.1 = .ok q.2 := by decide +kernel
def tbJ3_checkIndex_8e157_0 : List (Nat × Instr × Nat) := [(0, .iload_n 0, 1), (1, .ifCond .lt 8, 3), (4, .iload_n 0, 1), (5, .iload_n 1, 1), (6, .if_icmp .lt 10, 3), (9, .aload_n 2, 1), (10, .iload_n 0, 1), (11, .iload_n 1, 1), (12, .invokestatic 95, 3), (15, .athrow, 1), (16, .iload_n 0, 1), (17, .ireturn, 1)]
theorem dtbJ3_checkIndex_8e157_0 : ∀ q ∈ tbJ3_checkIndex_8e157_0, decode cJ3_checkIndex_8e157 q.1 = .ok q.2 := by decide +kernel
def tbL_law_0 : List (Nat × Instr × Nat) := [(0, .new 7, 3), (3, .dup, 1), (4, .invokespecial 9, 3), (7, .astore_n 1, 1), (8, .new 10, 3), (11, .dup, 1), (12, .invokespecial 12, 3), (15, .astore_n 2, 1), (16, .iconst 0, 1), (17, .istore_n 3, 1), (18, .iload_n 3, 1), (19, .aload_n 0, 1), (20, .arraylength, 1), (21, .bipush 6, 2), (23, .isub, 1), (24, .if_icmp .gt 963, 3), (27, .aload_n 0, 1), (28, .iload_n 3, 1), (29, .iaload, 1), (30, .bipush 63, 2), (32, .iand, 1), (33, .tableswitch 948 0 32 #[147, 170, 213, 236, 249, 262, 285, 308, 331, 344, 377, 400, 413, 446, 479, 492, 515, 538, 551, 574, 587, 650, 663, 686, 709, 742, 785, 818, 842, 865, 888, 911, 934], 147), (180, .aload_n 1, 1), (181, .aload_n 0, 1), (182, .iload_n 3, 1), (183, .iconst 1, 1), (184, .iadd, 1), (185, .iaload, 1), (186, .invokevirtual 13, 3), (189, .aload_n 2, 1), (190, .aload_n 0, 1), (191, .iload_n 3, 1), (192, .iconst 1, 1), (193, .iadd, 1), (194, .iaload, 1), (195, .invokevirtual 17, 3), (198, .if_icmp .eq 783, 3), (201, .iconst 0, 1), (202, .ireturn, 1), (203, .aload_n 1, 1), (204, .aload_n 0, 1), (205, .iload_n 3, 1), (206, .iconst 1, 1), (207, .iadd, 1), (208, .iaload, 1), (209, .aload_n 0, 1), (210, .iload_n 3, 1), (211, .iconst 2, 1), (212, .iadd, 1), (213, .iaload, 1), (214, .aload_n 0, 1), (215, .iload_n 3, 1), (216, .iconst 3, 1), (217, .iadd, 1), (218, .iaload, 1), (219, .invokevirtual 18, 3), (222, .aload_n 2, 1), (223, .aload_n 0, 1), (224, .iload_n 3, 1), (225, .iconst 1, 1)]
theorem dtbL_law_0 : ∀ q ∈ tbL_law_0, decode cL_law q.1 = .ok q.2 := by decide +kernel
def tbL_law_1 : List (Nat × Instr × Nat) := [(226, .iadd, 1), (227, .iaload, 1), (228, .aload_n 0, 1), (229, .iload_n 3, 1), (230, .iconst 2, 1), (231, .iadd, 1), (232, .iaload, 1), (233, .aload_n 0, 1), (234, .iload_n 3, 1), (235, .iconst 3, 1), (236, .iadd, 1), (237, .iaload, 1), (238, .invokevirtual 22, 3), (241, .if_icmp .eq 740, 3), (244, .iconst 0, 1), (245, .ireturn, 1), (246, .aload_n 1, 1), (247, .aload_n 0, 1), (248, .iload_n 3, 1), (249, .iconst 1, 1), (250, .iadd, 1), (251, .iaload, 1), (252, .invokevirtual 23, 3), (255, .aload_n 2, 1), (256, .aload_n 0, 1), (257, .iload_n 3, 1), (258, .iconst 1, 1), (259, .iadd, 1), (260, .iaload, 1), (261, .invokevirtual 26, 3), (264, .if_icmp .eq 717, 3), (267, .iconst 0, 1), (268, .ireturn, 1), (269, .aload_n 1, 1), (270, .invokevirtual 27, 3), (273, .aload_n 2, 1), (274, .invokevirtual 31, 3), (277, .if_icmp .eq 704, 3), (280, .iconst 0, 1), (281, .ireturn, 1), (282, .aload_n 1, 1), (283, .invokevirtual 32, 3), (286, .aload_n 2, 1), (287, .invokevirtual 35, 3), (290, .if_icmp .eq 691, 3), (293, .iconst 0, 1), (294, .ireturn, 1), (295, .aload_n 1, 1), (296, .aload_n 0, 1), (297, .iload_n 3, 1), (298, .iconst 1, 1), (299, .iadd, 1), (300, .iaload, 1), (301, .invokevirtual 36, 3), (304, .aload_n 2, 1), (305, .aload_n 0, 1), (306, .iload_n 3, 1), (307, .iconst 1, 1), (308, .iadd, 1), (309, .iaload, 1)]
theorem dtbL_law_1 : ∀ q ∈ tbL_law_1, decode cL_law q.1 = .ok q.2 := by decide +kernel
def tbL_law_2 : List (Nat × Instr × Nat) := [(310, .invokevirtual 39, 3), (313, .if_icmp .eq 668, 3), (316, .iconst 0, 1), (317, .ireturn, 1), (318, .aload_n 1, 1), (319, .aload_n 0, 1), (320, .iload_n 3, 1), (321, .iconst 1, 1), (322, .iadd, 1), (323, .iaload, 1), (324, .invokevirtual 40, 3), (327, .aload_n 2, 1), (328, .aload_n 0, 1), (329, .iload_n 3, 1), (330, .iconst 1, 1), (331, .iadd, 1), (332, .iaload, 1), (333, .invokevirtual 43, 3), (336, .if_icmp .eq 645, 3), (339, .iconst 0, 1), (340, .ireturn, 1), (341, .aload_n 1, 1), (342, .aload_n 0, 1), (343, .iload_n 3, 1), (344, .iconst 1, 1), (345, .iadd, 1), (346, .iaload, 1), (347, .invokevirtual 44, 3), (350, .aload_n 2, 1), (351, .aload_n 0, 1), (352, .iload_n 3, 1), (353, .iconst 1, 1), (354, .iadd, 1), (355, .iaload, 1), (356, .invokevirtual 47, 3), (359, .if_icmp .eq 622, 3), (362, .iconst 0, 1), (363, .ireturn, 1), (364, .aload_n 1, 1), (365, .invokevirtual 48, 3), (368, .aload_n 2, 1), (369, .invokevirtual 51, 3), (372, .if_icmp .eq 609, 3), (375, .iconst 0, 1), (376, .ireturn, 1), (377, .aload_n 1, 1), (378, .aload_n 0, 1), (379, .iload_n 3, 1), (380, .iconst 1, 1), (381, .iadd, 1), (382, .iaload, 1), (383, .aload_n 0, 1), (384, .iload_n 3, 1), (385, .iconst 2, 1), (386, .iadd, 1), (387, .iaload, 1), (388, .invokevirtual 52, 3), (391, .aload_n 2, 1), (392, .aload_n 0, 1), (393, .iload_n 3, 1)]
theorem dtbL_law_2 : ∀ q ∈ tbL_law_2, decode cL_law q.1 = .ok q.2 := by decide +kernel
def tbL_law_3 : List (Nat × Instr × Nat) := [(394, .iconst 1, 1), (395, .iadd, 1), (396, .iaload, 1), (397, .aload_n 0, 1), (398, .iload_n 3, 1), (399, .iconst 2, 1), (400, .iadd, 1), (401, .iaload, 1), (402, .invokevirtual 56, 3), (405, .if_icmp .eq 576, 3), (408, .iconst 0, 1), (409, .ireturn, 1), (410, .aload_n 1, 1), (411, .aload_n 0, 1), (412, .iload_n 3, 1), (413, .iconst 1, 1), (414, .iadd, 1), (415, .iaload, 1), (416, .invokevirtual 57, 3), (419, .aload_n 2, 1), (420, .aload_n 0, 1), (421, .iload_n 3, 1), (422, .iconst 1, 1), (423, .iadd, 1), (424, .iaload, 1), (425, .invokevirtual 60, 3), (428, .if_icmp .eq 553, 3), (431, .iconst 0, 1), (432, .ireturn, 1), (433, .aload_n 1, 1), (434, .invokevirtual 61, 3), (437, .aload_n 2, 1), (438, .invokevirtual 64, 3), (441, .if_icmp .eq 540, 3), (444, .iconst 0, 1), (445, .ireturn, 1), (446, .aload_n 1, 1), (447, .aload_n 0, 1), (448, .iload_n 3, 1), (449, .iconst 1, 1), (450, .iadd, 1), (451, .iaload, 1), (452, .aload_n 0, 1), (453, .iload_n 3, 1), (454, .iconst 2, 1), (455, .iadd, 1), (456, .iaload, 1), (457, .invokevirtual 65, 3), (460, .aload_n 2, 1), (461, .aload_n 0, 1), (462, .iload_n 3, 1), (463, .iconst 1, 1), (464, .iadd, 1), (465, .iaload, 1), (466, .aload_n 0, 1), (467, .iload_n 3, 1), (468, .iconst 2, 1), (469, .iadd, 1), (470, .iaload, 1), (471, .invokevirtual 68, 3)]
theorem dtbL_law_3 : ∀ q ∈ tbL_law_3, decode cL_law q.1 = .ok q.2 := by decide +kernel
def tbL_law_4 : List (Nat × Instr × Nat) := [(474, .if_icmp .eq 507, 3), (477, .iconst 0, 1), (478, .ireturn, 1), (479, .aload_n 1, 1), (480, .aload_n 0, 1), (481, .iload_n 3, 1), (482, .iconst 1, 1), (483, .iadd, 1), (484, .iaload, 1), (485, .aload_n 0, 1), (486, .iload_n 3, 1), (487, .iconst 2, 1), (488, .iadd, 1), (489, .iaload, 1), (490, .invokevirtual 69, 3), (493, .aload_n 2, 1), (494, .aload_n 0, 1), (495, .iload_n 3, 1), (496, .iconst 1, 1), (497, .iadd, 1), (498, .iaload, 1), (499, .aload_n 0, 1), (500, .iload_n 3, 1), (501, .iconst 2, 1), (502, .iadd, 1), (503, .iaload, 1), (504, .invokevirtual 72, 3), (507, .if_icmp .eq 474, 3), (510, .iconst 0, 1), (511, .ireturn, 1), (512, .aload_n 1, 1), (513, .invokevirtual 73, 3), (516, .aload_n 2, 1), (517, .invokevirtual 76, 3), (520, .if_icmp .eq 461, 3), (523, .iconst 0, 1), (524, .ireturn, 1), (525, .aload_n 1, 1), (526, .aload_n 0, 1), (527, .iload_n 3, 1), (528, .iconst 1, 1), (529, .iadd, 1), (530, .iaload, 1), (531, .invokevirtual 77, 3), (534, .aload_n 2, 1), (535, .aload_n 0, 1), (536, .iload_n 3, 1), (537, .iconst 1, 1), (538, .iadd, 1), (539, .iaload, 1), (540, .invokevirtual 80, 3), (543, .if_icmp .eq 438, 3), (546, .iconst 0, 1), (547, .ireturn, 1), (548, .aload_n 1, 1), (549, .aload_n 0, 1), (550, .iload_n 3, 1), (551, .iconst 1, 1), (552, .iadd, 1), (553, .iaload, 1)]
theorem dtbL_law_4 : ∀ q ∈ tbL_law_4, decode cL_law q.1 = .ok q.2 := by decide +kernel
def tbL_law_5 : List (Nat × Instr × Nat) := [(554, .invokevirtual 81, 3), (557, .aload_n 2, 1), (558, .aload_n 0, 1), (559, .iload_n 3, 1), (560, .iconst 1, 1), (561, .iadd, 1), (562, .iaload, 1), (563, .invokevirtual 84, 3), (566, .if_icmp .eq 415, 3), (569, .iconst 0, 1), (570, .ireturn, 1), (571, .aload_n 1, 1), (572, .invokevirtual 85, 3), (575, .aload_n 2, 1), (576, .invokevirtual 88, 3), (579, .if_icmp .eq 402, 3), (582, .iconst 0, 1), (583, .ireturn, 1), (584, .aload_n 1, 1), (585, .aload_n 0, 1), (586, .iload_n 3, 1), (587, .iconst 1, 1), (588, .iadd, 1), (589, .iaload, 1), (590, .invokevirtual 89, 3), (593, .aload_n 2, 1), (594, .aload_n 0, 1), (595, .iload_n 3, 1), (596, .iconst 1, 1), (597, .iadd, 1), (598, .iaload, 1), (599, .invokevirtual 92, 3), (602, .if_icmp .eq 379, 3), (605, .iconst 0, 1), (606, .ireturn, 1), (607, .aload_n 1, 1), (608, .invokevirtual 93, 3), (611, .aload_n 2, 1), (612, .invokevirtual 96, 3), (615, .if_icmp .eq 366, 3), (618, .iconst 0, 1), (619, .ireturn, 1), (620, .aload_n 1, 1), (621, .aload_n 0, 1), (622, .iload_n 3, 1), (623, .iconst 1, 1), (624, .iadd, 1), (625, .iaload, 1), (626, .aload_n 0, 1), (627, .iload_n 3, 1), (628, .iconst 2, 1), (629, .iadd, 1), (630, .iaload, 1), (631, .aload_n 0, 1), (632, .iload_n 3, 1), (633, .iconst 3, 1), (634, .iadd, 1), (635, .iaload, 1), (636, .aload_n 0, 1), (637, .iload_n 3, 1)]
theorem dtbL_law_5 : ∀ q ∈ tbL_law_5, decode cL_law q.1 = .ok q.2 := by decide +kernel
def tbL_law_6 : List (Nat × Instr × Nat) := [(638, .iconst 4, 1), (639, .iadd, 1), (640, .iaload, 1), (641, .aload_n 0, 1), (642, .iload_n 3, 1), (643, .iconst 5, 1), (644, .iadd, 1), (645, .iaload, 1), (646, .invokevirtual 97, 3), (649, .aload_n 2, 1), (650, .aload_n 0, 1), (651, .iload_n 3, 1), (652, .iconst 1, 1), (653, .iadd, 1), (654, .iaload, 1), (655, .aload_n 0, 1), (656, .iload_n 3, 1), (657, .iconst 2, 1), (658, .iadd, 1), (659, .iaload, 1), (660, .aload_n 0, 1), (661, .iload_n 3, 1), (662, .iconst 3, 1), (663, .iadd, 1), (664, .iaload, 1), (665, .aload_n 0, 1), (666, .iload_n 3, 1), (667, .iconst 4, 1), (668, .iadd, 1), (669, .iaload, 1), (670, .aload_n 0, 1), (671, .iload_n 3, 1), (672, .iconst 5, 1), (673, .iadd, 1), (674, .iaload, 1), (675, .invokevirtual 101, 3), (678, .if_icmp .eq 303, 3), (681, .iconst 0, 1), (682, .ireturn, 1), (683, .aload_n 1, 1), (684, .invokevirtual 102, 3), (687, .aload_n 2, 1), (688, .invokevirtual 105, 3), (691, .if_icmp .eq 290, 3), (694, .iconst 0, 1), (695, .ireturn, 1), (696, .aload_n 1, 1), (697, .aload_n 0, 1), (698, .iload_n 3, 1), (699, .iconst 1, 1), (700, .iadd, 1), (701, .iaload, 1), (702, .invokevirtual 106, 3), (705, .aload_n 2, 1), (706, .aload_n 0, 1), (707, .iload_n 3, 1), (708, .iconst 1, 1), (709, .iadd, 1), (710, .iaload, 1), (711, .invokevirtual 109, 3)]
theorem dtbL_law_6 : ∀ q ∈ tbL_law_6, decode cL_law q.1 = .ok q.2 := by decide +kernel
def tbL_law_7 : List (Nat × Instr × Nat) := [(714, .if_icmp .eq 267, 3), (717, .iconst 0, 1), (718, .ireturn, 1), (719, .aload_n 1, 1), (720, .aload_n 0, 1), (721, .iload_n 3, 1), (722, .iconst 1, 1), (723, .iadd, 1), (724, .iaload, 1), (725, .invokevirtual 110, 3), (728, .aload_n 2, 1), (729, .aload_n 0, 1), (730, .iload_n 3, 1), (731, .iconst 1, 1), (732, .iadd, 1), (733, .iaload, 1), (734, .invokevirtual 113, 3), (737, .if_icmp .eq 244, 3), (740, .iconst 0, 1), (741, .ireturn, 1), (742, .aload_n 1, 1), (743, .aload_n 0, 1), (744, .iload_n 3, 1), (745, .iconst 1, 1), (746, .iadd, 1), (747, .iaload, 1), (748, .aload_n 0, 1), (749, .iload_n 3, 1), (750, .iconst 2, 1), (751, .iadd, 1), (752, .iaload, 1), (753, .invokevirtual 114, 3), (756, .aload_n 2, 1), (757, .aload_n 0, 1), (758, .iload_n 3, 1), (759, .iconst 1, 1), (760, .iadd, 1), (761, .iaload, 1), (762, .aload_n 0, 1), (763, .iload_n 3, 1), (764, .iconst 2, 1), (765, .iadd, 1), (766, .iaload, 1), (767, .invokevirtual 117, 3), (770, .if_icmp .eq 211, 3), (773, .iconst 0, 1), (774, .ireturn, 1), (775, .aload_n 1, 1), (776, .aload_n 0, 1), (777, .iload_n 3, 1), (778, .iconst 1, 1), (779, .iadd, 1), (780, .iaload, 1), (781, .aload_n 0, 1), (782, .iload_n 3, 1), (783, .iconst 2, 1), (784, .iadd, 1), (785, .iaload, 1), (786, .aload_n 0, 1), (787, .iload_n 3, 1)]
theorem dtbL_law_7 : ∀ q ∈ tbL_law_7, decode cL_law q.1 = .ok q.2 := by decide +kernel
def tbL_law_8 : List (Nat × Instr × Nat) := [(788, .iconst 3, 1), (789, .iadd, 1), (790, .iaload, 1), (791, .invokevirtual 118, 3), (794, .aload_n 2, 1), (795, .aload_n 0, 1), (796, .iload_n 3, 1), (797, .iconst 1, 1), (798, .iadd, 1), (799, .iaload, 1), (800, .aload_n 0, 1), (801, .iload_n 3, 1), (802, .iconst 2, 1), (803, .iadd, 1), (804, .iaload, 1), (805, .aload_n 0, 1), (806, .iload_n 3, 1), (807, .iconst 3, 1), (808, .iadd, 1), (809, .iaload, 1), (810, .invokevirtual 121, 3), (813, .if_icmp .eq 168, 3), (816, .iconst 0, 1), (817, .ireturn, 1), (818, .aload_n 1, 1), (819, .aload_n 0, 1), (820, .iload_n 3, 1), (821, .iconst 1, 1), (822, .iadd, 1), (823, .iaload, 1), (824, .aload_n 0, 1), (825, .iload_n 3, 1), (826, .iconst 2, 1), (827, .iadd, 1), (828, .iaload, 1), (829, .invokevirtual 122, 3), (832, .aload_n 2, 1), (833, .aload_n 0, 1), (834, .iload_n 3, 1), (835, .iconst 1, 1), (836, .iadd, 1), (837, .iaload, 1), (838, .aload_n 0, 1), (839, .iload_n 3, 1), (840, .iconst 2, 1), (841, .iadd, 1), (842, .iaload, 1), (843, .invokevirtual 125, 3), (846, .if_icmp .eq 135, 3), (849, .iconst 0, 1), (850, .ireturn, 1), (851, .aload_n 1, 1), (852, .aload_n 0, 1), (853, .iload_n 3, 1), (854, .iconst 1, 1), (855, .iadd, 1), (856, .iaload, 1), (857, .invokevirtual 126, 3), (860, .aload_n 2, 1), (861, .aload_n 0, 1)]
theorem dtbL_law_8 : ∀ q ∈ tbL_law_8, decode cL_law q.1 = .ok q.2 := by decide +kernel
def tbL_law_9 : List (Nat × Instr × Nat) := [(862, .iload_n 3, 1), (863, .iconst 1, 1), (864, .iadd, 1), (865, .iaload, 1), (866, .invokevirtual 130, 3), (869, .lcmp, 1), (870, .ifCond .eq 111, 3), (873, .iconst 0, 1), (874, .ireturn, 1), (875, .aload_n 1, 1), (876, .aload_n 0, 1), (877, .iload_n 3, 1), (878, .iconst 1, 1), (879, .iadd, 1), (880, .iaload, 1), (881, .invokevirtual 131, 3), (884, .aload_n 2, 1), (885, .aload_n 0, 1), (886, .iload_n 3, 1), (887, .iconst 1, 1), (888, .iadd, 1), (889, .iaload, 1), (890, .invokevirtual 134, 3), (893, .if_icmp .eq 88, 3), (896, .iconst 0, 1), (897, .ireturn, 1), (898, .aload_n 1, 1), (899, .aload_n 0, 1), (900, .iload_n 3, 1), (901, .iconst 1, 1), (902, .iadd, 1), (903, .iaload, 1), (904, .invokevirtual 135, 3), (907, .aload_n 2, 1), (908, .aload_n 0, 1), (909, .iload_n 3, 1), (910, .iconst 1, 1), (911, .iadd, 1), (912, .iaload, 1), (913, .invokevirtual 138, 3), (916, .if_icmp .eq 65, 3), (919, .iconst 0, 1), (920, .ireturn, 1), (921, .aload_n 1, 1), (922, .aload_n 0, 1), (923, .iload_n 3, 1), (924, .iconst 1, 1), (925, .iadd, 1), (926, .iaload, 1), (927, .invokevirtual 139, 3), (930, .aload_n 2, 1), (931, .aload_n 0, 1), (932, .iload_n 3, 1), (933, .iconst 1, 1), (934, .iadd, 1), (935, .iaload, 1), (936, .invokevirtual 142, 3), (939, .if_icmp .eq 42, 3), (942, .iconst 0, 1), (943, .ireturn, 1)]
theorem dtbL_law_9 : ∀ q ∈ tbL_law_9, decode cL_law q.1 = .ok q.2 := by decide +kernel
def tbL_law_10 : List (Nat × Instr × Nat) := [(944, .aload_n 1, 1), (945, .aload_n 0, 1), (946, .iload_n 3, 1), (947, .iconst 1, 1), (948, .iadd, 1), (949, .iaload, 1), (950, .invokevirtual 143, 3), (953, .aload_n 2, 1), (954, .aload_n 0, 1), (955, .iload_n 3, 1), (956, .iconst 1, 1), (957, .iadd, 1), (958, .iaload, 1), (959, .invokevirtual 146, 3), (962, .if_icmp .eq 19, 3), (965, .iconst 0, 1), (966, .ireturn, 1), (967, .aload_n 1, 1), (968, .invokevirtual 147, 3), (971, .aload_n 2, 1), (972, .invokevirtual 151, 3), (975, .lcmp, 1), (976, .ifCond .eq 5, 3), (979, .iconst 0, 1), (980, .ireturn, 1), (981, .iinc 3 6, 3), (984, .goto (-966), 3), (987, .iconst 1, 1), (988, .ireturn, 1)]
theorem dtbL_law_10 : ∀ q ∈ tbL_law_10, decode cL_law q.1 = .ok q.2 := by decide +kernel
end
section
/-! the tables' words that every method keeps; the one world; what it is to run a method's body from a place on -/
def gw : List Cond := lw_tbl.filter goodWord
def g_isNest : Cond → Bool
  | .fieldLinkNest _ _ _ _ _ _ => true
  | .methodLinkNest _ _ _ _ => true
  | _ => false
def nw : List Cond := lw_tbl.filter g_isNest
theorem gw_in {w : Cond} (i : Nat) (h : lw_tbl[i]? = some w) (g : goodWord w = true) : w ∈ gw := List.mem_filter.mpr ⟨List.mem_of_getElem? h, g⟩
theorem nw_in {w : Cond} (i : Nat) (h : lw_tbl[i]? = some w) (g : g_isNest w = true) : w ∈ nw := List.mem_filter.mpr ⟨List.mem_of_getElem? h, g⟩
theorem gw_good : GoodIn gw gw := fun w h => ⟨h, good_of_word (List.mem_filter.mp h).2⟩
theorem gw_goodc {ws : List Cond} (h : ∀ w ∈ ws, w ∈ gw) : GoodIn gw ws := fun w hw => gw_good w (h w hw)
theorem nw_warm {s U : State} (hW : s.WarmedH U.vm) {w : Cond} (h : w ∈ nw) (hz : va_Nw w s) : va_Nw w U := by
  have h1 := (List.mem_filter.mp h).2
  cases w with
  | fieldLinkNest a b c d e f => exact va_Nw.warmF hW hz
  | methodLinkNest a b c d => exact va_Nw.warmM hW hz
  | _ => cases h1
theorem nw_same {s U : State} (hv : s.vm = U.vm) {w : Cond} (h : w ∈ nw) (hz : va_Nw w s) : va_Nw w U := by
  have h1 := (List.mem_filter.mp h).2
  cases w with
  | fieldLinkNest a b c d e f => exact va_Nw.same rfl hv hz
  | methodLinkNest a b c d => exact va_Nw.same rfl hv hz
  | _ => cases h1
/-- a state: ints by cell and place, longs, references (cells by number), how many cells there are -/
abbrev St : Type := (Nat → Nat → Int32) × (Nat → Nat → Int64) × (Nat → Nat → Option Nat) × Nat
/-- a method: name, bytes, locals, answer's type, frames and words below it -/
abbrev MD : Type := MethodName × ByteArray × Nat × Option FieldType × Nat × Nat
/-- launch, class numbers, slots, first address, array classes, the heap at first, addresses of what lies below it (0: the script), the script -/
abbrev Wd : Type := Launch × (Nat → ClassId) × (Nat → Nat → Nat) × Nat × (Nat → ClassId) × Heap × (Nat → Nat) × Nat × (Nat → Int32)
abbrev g_l (G : Wd) : Launch := G.1
abbrev g_D (G : Wd) : va_G := (G.2.1, G.2.2.1)
abbrev g_a (G : Wd) : Nat := G.2.2.2.1
abbrev g_c (G : Wd) : Nat → ClassId := G.2.2.2.2.1
abbrev g_H (G : Wd) : Heap := G.2.2.2.2.2.1
abbrev g_s (G : Wd) : Nat → Nat := G.2.2.2.2.2.2.1
abbrev g_L (G : Wd) : Nat := G.2.2.2.2.2.2.2.1
abbrev g_x (G : Wd) : Nat → Int32 := G.2.2.2.2.2.2.2.2
def g_ad (G : Wd) (k : Nat) : Nat := if k < 1000 then g_a G + k else g_s G (k - 1000)
def g_tr (G : Wd) (v : Value) : Value := match v with
  | .ref k => .ref (g_ad G k)
  | w => w
def g_rv (r : Option Nat) : Value := match r with
  | none => .null
  | some k => .ref k
def g_fty (ci : Nat) : Nat → FieldType := match ci with
  | 0 => tyX0
  | 1 => tyX1
  | 2 => tyX2
  | 3 => tyX3
  | 4 => tyX4
  | 5 => tyX5
  | 6 => tyX6
  | 7 => tyX7
  | 8 => tyX8
  | 9 => tyX9
  | 10 => tyX10
  | _ => tyX11
def g_nf (ci : Nat) : Nat := match classes[ci]? with
  | some q => q.2.2
  | none => 0
/-- what a cell is: an array (type, length), or an object of a class -/
def g_shL : List ((Nat × Nat) ⊕ Nat) := [.inr 10, .inr 0, .inl (0, 6), .inl (0, 21), .inl (0, 30), .inl (0, 48), .inr 0, .inl (0, 6), .inl (0, 21), .inl (0, 30), .inl (0, 48), .inr 0, .inl (0, 6), .inl (0, 21), .inl (0, 30), .inl (0, 48), .inl (2, 2), .inr 8, .inl (1, 150), .inr 0, .inl (0, 6), .inl (0, 21), .inl (0, 30), .inl (0, 48), .inr 4, .inr 2, .inr 6, .inr 3, .inr 7, .inr 1, .inr 9, .inr 5, .inl (0, 99), .inl (0, 7), .inr 11, .inl (0, 108), .inl (0, 108), .inl (0, 108), .inl (0, 216), .inl (2, 2), .inl (0, 3), .inl (0, 150)]
def g_sh (k : Nat) : (Nat × Nat) ⊕ Nat := g_shL.getD k (.inr 99)
def g_szk (k : Nat) : Nat := match g_sh k with
  | .inl q => q.2
  | .inr ci => g_nf ci
def g_sz : Nat → Nat
  | 0 => 0
  | n + 1 => g_sz n + g_szk n
theorem g_sz_le {a b : Nat} (h : a ≤ b) : g_sz a ≤ g_sz b := by
  induction h with
  | refl => exact Nat.le_refl _
  | step _ ih => exact Nat.le_trans ih (Nat.le_add_right _ _)
def g_fv (σ : St) (k : Nat) (ty : FieldType) (j : Nat) : Value := match ty with
  | .long => .long (σ.2.1 k j)
  | .array _ => g_rv (σ.2.2.1 k j)
  | .object _ => g_rv (σ.2.2.1 k j)
  | _ => .int (σ.1 k j)
def g_fl (G : Wd) (σ : St) (k ci : Nat) : List Value := (List.range (g_nf ci)).map (fun j => g_tr G (g_fv σ k (g_fty ci j) j))
def g_en (G : Wd) (σ : St) (k : Nat) : va_E := match g_sh k with
  | .inl q => .inl (g_c G q.1, q.2, .inl (σ.1 k))
  | .inr ci => .inr (ci, g_fl G σ k ci)
def g_ws (G : Wd) (σ : St) : va_W := (List.range σ.2.2.2).map (fun k => (g_a G + k, g_en G σ k))
def g_A (G : Wd) : Nat → Prop := fun q => g_a G ≤ q
def g_Wk (G : Wd) (σ : St) (H : Heap) : Prop := va_P (g_D G) classes (g_ws G σ) H ∧ (σ.2.2.2 < 42 → H.size = g_a G + σ.2.2.2) ∧ (∀ q : Nat, q < g_a G → H[q]? = (g_H G)[q]?) ∧ σ.2.2.2 ≤ 1000
abbrev g_ty (G : Wd) : List (ClassId × FieldType) := [(g_c G 0, .int), (g_c G 1, .byte), (g_c G 2, .boolean)]
def g_slen : List Nat := [7, 4, 5, 3]
def g_sbyt : List (List Int32) := [[97, 99, 99, 111, 117, 110, 116], [98, 105, 108, 108], [115, 112, 101, 110, 100], [106, 97, 114]]
def g_stx (i : Nat) : String := match i with
  | 0 => "account"
  | 1 => "bill"
  | 2 => "spend"
  | _ => "jar"
def g_sidx (i : Nat) : Nat := match i with
  | 0 => 46
  | 1 => 56
  | 2 => 64
  | _ => 70
/-- what is known of the literals and the JDK's statics -/
def g_Str (G : Wd) (U : State) : Prop := vk_S 4 g_slen g_sbyt (fun i => g_s G (1 + i)) (fun i => g_s G (1001 + i)) (g_A G) U (g_H G) ∧ (∀ i, i < 4 → vk_R RX8 (g_sidx i) (g_stx i) (g_s G (1 + i)) U) ∧ va_Z RJ0 "COMPACT_STRINGS" "Z" (.int 1) (g_A G) U (g_H G) ∧ va_Zq RJ3 "SIOOBE_FORMATTER" "Ljava/util/function/BiFunction;" (g_A G) U (g_H G)
def g_Uw (G : Wd) (U : State) : Prop := va_K (g_D G) classes (g_ty G) U ∧ (∀ w ∈ nw, va_Nw w U) ∧ g_Str G U ∧ va_X (g_s G 0) (g_L G) (g_x G) U (g_H G) ∧ g_s G 0 < g_a G ∧ (g_H G).size = g_a G
theorem g_Uw.warm {G : Wd} {s U : State} (hW : s.WarmedH U.vm) (h : g_Uw G s) : g_Uw G U := by
  obtain ⟨h1, h2, ⟨h3, h4, h5, h6⟩, h7, h8⟩ := h
  exact ⟨va_K.moved hW.alike h1, fun w hw => nw_warm hW hw (h2 w hw), ⟨vk_S.moved hW.alike h3, fun i hi => vk_R.warm hW (h4 i hi), va_Z.moved hW.alike h5, va_Zq.moved hW.alike h6⟩, va_X.moved hW.alike h7, h8⟩
theorem g_Uw.same {G : Wd} {s U : State} (hv : s.vm = U.vm) (h : g_Uw G s) : g_Uw G U := by
  obtain ⟨h1, h2, ⟨h3, h4, h5, h6⟩, h7, h8⟩ := h
  have ha : s.vm.Alike U.vm := by rw [hv]; exact Vm.Alike.refl _
  exact ⟨va_K.moved ha h1, fun w hw => nw_same hv hw (h2 w hw), ⟨vk_S.moved ha h3, fun i hi => vk_R.same hv.symm (h4 i hi), va_Z.moved ha h5, va_Zq.moved ha h6⟩, va_X.moved ha h7, h8⟩
/-- the locals -/
def g_LO (G : Wd) (ls : Array Slot) (nL : Nat) (L : List (Option Value)) : Prop := ls.size = nL ∧ lv_wf ls ∧ ∀ (i : Nat) (v : Value), L[i]? = some (some v) → ls[i]? = some (.val (g_tr G v))
def g_ent : Nat → List Value → List (Option Value)
  | n, [] => List.replicate n none
  | n, v :: vs => match v.category with
    | 2 => some v :: none :: g_ent (n - 2) vs
    | _ => some v :: g_ent (n - 1) vs
def g_rti (v : Option Value) : Instr := match v with
  | none => .return_
  | some (.int _) => .ireturn
  | some (.long _) => .lreturn
  | some _ => .areturn
def g_rok (ret : Option FieldType) (v : Option Value) : Prop := match v with
  | none => ret = none
  | some (.int z) => ∃ ty, ret = some ty ∧ narrow ty (.int z) = .int z
  | some (.long _) => ret = some .long
  | some (.ref _) => ∃ n, ret = some (.object n)
  | some _ => False
def g_Fx (M : MD) (p : Program) (s : State) (m : MethodId) (args : Array Value) (meth : Method) (c : Code) : Prop :=
  p.tables.exec = Jvm.exec ∧ c.code = M.2.1 ∧ c.maxLocals = M.2.2.1 ∧ s.vm.findClass M.1.cls = some m.cls ∧ (∀ w ∈ gw, w.before args s = true) ∧ meth.sig.returnType = M.2.2.2.1 ∧ meth.locks = false ∧ meth.name = M.1.name
def g_Rm (M : MD) (nE n0 : Nat) (R : Room) : Prop := M.2.2.2.2.1 ≤ R.frames ∧ M.2.2.2.2.2 ≤ R.locals ∧ nE ≤ R.cells + n0 ∧ g_sz nE ≤ R.slots + g_sz n0 ∧ n0 ≤ nE
/-- FROM A PLACE ON: the body of M, at pc, with locals L, stack S, in the state σ, comes to its end, and there Q holds of its answer and the state -/
def Cc (G : Wd) (M : MD) (nE pc : Nat) (L : List (Option Value)) (S : List Value) (σ : St) (Q : Option Value → St → Prop) : Prop :=
  ∀ (p : Program) (e : Env) (R : Room) (s : State) (m : MethodId) (args : Array Value) (below : List Frame) (meth : Method) (c : Code) (H : Heap) (locs : List Loc) (ls : Array Slot) (cells slots n0 : Nat) (QQ : State → Prop),
    g_Fx M p s m args meth c → g_Uw G s → g_Rm M nE n0 R → g_a G ≤ s.heap.size → (∀ q : Nat, q < g_a G → s.heap[q]? = (g_H G)[q]?) →
    (∀ (v : Option Value) (σ' : St) (H' : Heap) (locs' : List Loc) (pc' : Nat) (ls' : Array Slot), Q v σ' → σ'.2.2.2 = nE → g_Wk G σ' H' → va_S (g_A G) s.heap H' locs' → decode M.2.1 pc' = .ok (g_rti v, 1) → g_rok M.2.2.2.1 v →
      W p (g_l G) e R s m args below meth c H' locs' (nE - n0) (g_sz nE - g_sz n0) QQ (F0 m pc' ls' (v.toList.map (g_tr G)))) →
    cells + n0 = σ.2.2.2 → slots + g_sz n0 = g_sz σ.2.2.2 → g_Wk G σ H → va_S (g_A G) s.heap H locs → g_LO G ls M.2.2.1 L →
    W p (g_l G) e R s m args below meth c H locs cells slots QQ (F0 m pc ls (S.map (g_tr G)))
theorem g_tr_cat (G : Wd) (v : Value) : (g_tr G v).category = v.category := by cases v <;> rfl
theorem g_ad_lt {G : Wd} {k : Nat} (h : k < 1000) : g_ad G k = g_a G + k := by simp [g_ad, h]
theorem g_ws_at {G : Wd} {σ : St} {k : Nat} (h : k < σ.2.2.2) : (g_ws G σ)[k]? = some (g_a G + k, g_en G σ k) := by
  simp [g_ws, h]
theorem g_ws_len {G : Wd} {σ : St} : (g_ws G σ).length = σ.2.2.2 := by simp [g_ws]
theorem g_ws_D {G : Wd} {σ : St} : va_D (g_A G) (g_ws G σ) := by
  refine ⟨fun i j p q hi hj hpq => ?_, fun k q hk => ?_⟩
  · have li : i < σ.2.2.2 := by rw [← g_ws_len (G := G)]; exact (List.getElem?_eq_some_iff.mp hi).1
    have lj : j < σ.2.2.2 := by rw [← g_ws_len (G := G)]; exact (List.getElem?_eq_some_iff.mp hj).1
    rw [g_ws_at li] at hi
    rw [g_ws_at lj] at hj
    cases hi; cases hj
    simp only at hpq
    omega
  · have lk : k < σ.2.2.2 := by rw [← g_ws_len (G := G)]; exact (List.getElem?_eq_some_iff.mp hk).1
    rw [g_ws_at lk] at hk
    cases hk
    exact Nat.le_add_right _ _
/-- two worlds with the same cells -/
theorem g_ws_ext {G : Wd} {σ' : St} {w : va_W} (hn : w.length = σ'.2.2.2) (h : ∀ k, k < σ'.2.2.2 → w[k]? = some (g_a G + k, g_en G σ' k)) : w = g_ws G σ' := by
  apply List.ext_getElem?
  intro i
  by_cases hi : i < σ'.2.2.2
  · rw [h i hi, g_ws_at hi]
  · rw [List.getElem?_eq_none (by omega), List.getElem?_eq_none (by rw [g_ws_len]; omega)]
/-- a row of ints is another -/
def g_pr (σ : St) (k : Nat) (f : Nat → Int32) : St := (fun a => if a = k then f else σ.1 a, σ.2)
def g_pl (σ : St) (k j : Nat) (v : Int64) : St := (σ.1, fun a b => if a = k then (if b = j then v else σ.2.1 a b) else σ.2.1 a b, σ.2.2)
def g_prf (σ : St) (k j : Nat) (v : Option Nat) : St := (σ.1, σ.2.1, fun a b => if a = k then (if b = j then v else σ.2.2.1 a b) else σ.2.2.1 a b, σ.2.2.2)
theorem g_en_pr {G : Wd} {σ : St} {k i : Nat} {f : Nat → Int32} (h : i ≠ k) : g_en G (g_pr σ k f) i = g_en G σ i := by
  simp [g_en, g_pr, h, g_fl, g_fv]
theorem g_en_pl {G : Wd} {σ : St} {k i j : Nat} {v : Int64} (h : i ≠ k) : g_en G (g_pl σ k j v) i = g_en G σ i := by
  simp [g_en, g_pl, h, g_fl, g_fv]
theorem g_en_prf {G : Wd} {σ : St} {k i j : Nat} {v : Option Nat} (h : i ≠ k) : g_en G (g_prf σ k j v) i = g_en G σ i := by
  simp [g_en, g_prf, h, g_fl, g_fv]
/-- a cell set anew is the state with it -/
theorem g_ws_set {G : Wd} {σ σ' : St} {k : Nat} {e : va_E} (hk : k < σ.2.2.2) (hn : σ'.2.2.2 = σ.2.2.2) (he : g_en G σ' k = e) (ho : ∀ i, i ≠ k → g_en G σ' i = g_en G σ i) : (g_ws G σ).set k (g_a G + k, e) = g_ws G σ' := by
  refine g_ws_ext (by rw [List.length_set, g_ws_len, hn]) (fun i hi => ?_)
  by_cases hik : i = k
  · subst hik
    rw [List.getElem?_set_self (by rw [g_ws_len]; exact hk), he]
  · rw [List.getElem?_set_ne (Ne.symm hik), g_ws_at (by omega), ho i hik]
end
section
/-! a rule an instruction -/
section
variable {G : Wd} {M : MD} {nE pc pc' : Nat} {L : List (Option Value)} {S : List Value} {σ : St} {Q : Option Value → St → Prop}
theorem cz_iconst {n : Int} {v : Int32} (hd : decode M.2.1 pc = .ok (.iconst n, 1)) (hv : Int32.ofInt n = v) (hp : pc + 1 = pc') (h : Cc G M nE pc' L (.int v :: S) σ Q) : Cc G M nE pc L (S) σ Q := by
  subst hp
  intro p e R s m args below meth c H locs ls cells slots n0 QQ hF hU hR ha hh hK hc1 hc2 hW hS hL
  exact lv_iconst hF.1 hF.2.1 hd hv (h p e R s m args below meth c H locs ls cells slots n0 QQ hF hU hR ha hh hK hc1 hc2 hW hS hL)
theorem cz_bipush {n : Int} {v : Int32} (hd : decode M.2.1 pc = .ok (.bipush n, 2)) (hv : (Int8.ofInt n).toInt32 = v) (hp : pc + 2 = pc') (h : Cc G M nE pc' L (.int v :: S) σ Q) : Cc G M nE pc L (S) σ Q := by
  subst hp
  intro p e R s m args below meth c H locs ls cells slots n0 QQ hF hU hR ha hh hK hc1 hc2 hW hS hL
  exact lv_bipush hF.1 hF.2.1 hd hv (h p e R s m args below meth c H locs ls cells slots n0 QQ hF hU hR ha hh hK hc1 hc2 hW hS hL)
theorem cz_sipush {n : Int} {v : Int32} (hd : decode M.2.1 pc = .ok (.sipush n, 3)) (hv : (Int16.ofInt n).toInt32 = v) (hp : pc + 3 = pc') (h : Cc G M nE pc' L (.int v :: S) σ Q) : Cc G M nE pc L (S) σ Q := by
  subst hp
  intro p e R s m args below meth c H locs ls cells slots n0 QQ hF hU hR ha hh hK hc1 hc2 hW hS hL
  exact lv_sipush hF.1 hF.2.1 hd hv (h p e R s m args below meth c H locs ls cells slots n0 QQ hF hU hR ha hh hK hc1 hc2 hW hS hL)
theorem cz_lconst {n : Fin 2} {v : Int64} (hd : decode M.2.1 pc = .ok (.lconst n, 1)) (hv : Int64.ofNat (n : Nat) = v) (hp : pc + 1 = pc') (h : Cc G M nE pc' L (.long v :: S) σ Q) : Cc G M nE pc L (S) σ Q := by
  subst hp
  intro p e R s m args below meth c H locs ls cells slots n0 QQ hF hU hR ha hh hK hc1 hc2 hW hS hL
  exact lv_lconst hF.1 hF.2.1 hd hv (h p e R s m args below meth c H locs ls cells slots n0 QQ hF hU hR ha hh hK hc1 hc2 hW hS hL)
theorem cz_iload {i : Nat} {x : Int32} (hd : decode M.2.1 pc = .ok (.iload i, 2)) (hl : L[i]? = some (some (.int x))) (hp : pc + 2 = pc') (h : Cc G M nE pc' L (.int x :: S) σ Q) : Cc G M nE pc L (S) σ Q := by
  subst hp
  intro p e R s m args below meth c H locs ls cells slots n0 QQ hF hU hR ha hh hK hc1 hc2 hW hS hL
  exact lv_iload hF.1 hF.2.1 hd (hL.2.2 _ _ hl) (h p e R s m args below meth c H locs ls cells slots n0 QQ hF hU hR ha hh hK hc1 hc2 hW hS hL)
theorem cz_iload_n {i : Fin 4} {x : Int32} (hd : decode M.2.1 pc = .ok (.iload_n i, 1)) (hl : L[(i : Nat)]? = some (some (.int x))) (hp : pc + 1 = pc') (h : Cc G M nE pc' L (.int x :: S) σ Q) : Cc G M nE pc L (S) σ Q := by
  subst hp
  intro p e R s m args below meth c H locs ls cells slots n0 QQ hF hU hR ha hh hK hc1 hc2 hW hS hL
  exact lv_iload_n hF.1 hF.2.1 hd rfl (hL.2.2 _ _ hl) (h p e R s m args below meth c H locs ls cells slots n0 QQ hF hU hR ha hh hK hc1 hc2 hW hS hL)
theorem cz_lload {i : Nat} {x : Int64} (hd : decode M.2.1 pc = .ok (.lload i, 2)) (hl : L[i]? = some (some (.long x))) (hp : pc + 2 = pc') (h : Cc G M nE pc' L (.long x :: S) σ Q) : Cc G M nE pc L (S) σ Q := by
  subst hp
  intro p e R s m args below meth c H locs ls cells slots n0 QQ hF hU hR ha hh hK hc1 hc2 hW hS hL
  exact lv_lload hF.1 hF.2.1 hd (hL.2.2 _ _ hl) (h p e R s m args below meth c H locs ls cells slots n0 QQ hF hU hR ha hh hK hc1 hc2 hW hS hL)
theorem cz_lload_n {i : Fin 4} {x : Int64} (hd : decode M.2.1 pc = .ok (.lload_n i, 1)) (hl : L[(i : Nat)]? = some (some (.long x))) (hp : pc + 1 = pc') (h : Cc G M nE pc' L (.long x :: S) σ Q) : Cc G M nE pc L (S) σ Q := by
  subst hp
  intro p e R s m args below meth c H locs ls cells slots n0 QQ hF hU hR ha hh hK hc1 hc2 hW hS hL
  exact lv_lload_n hF.1 hF.2.1 hd rfl (hL.2.2 _ _ hl) (h p e R s m args below meth c H locs ls cells slots n0 QQ hF hU hR ha hh hK hc1 hc2 hW hS hL)
theorem cz_aload {i : Nat} {x : Nat} (hd : decode M.2.1 pc = .ok (.aload i, 2)) (hl : L[i]? = some (some (.ref x))) (hp : pc + 2 = pc') (h : Cc G M nE pc' L (.ref x :: S) σ Q) : Cc G M nE pc L (S) σ Q := by
  subst hp
  intro p e R s m args below meth c H locs ls cells slots n0 QQ hF hU hR ha hh hK hc1 hc2 hW hS hL
  exact lv_aload hF.1 hF.2.1 hd (hL.2.2 _ _ hl) (h p e R s m args below meth c H locs ls cells slots n0 QQ hF hU hR ha hh hK hc1 hc2 hW hS hL)
theorem cz_aload_n {i : Fin 4} {x : Nat} (hd : decode M.2.1 pc = .ok (.aload_n i, 1)) (hl : L[(i : Nat)]? = some (some (.ref x))) (hp : pc + 1 = pc') (h : Cc G M nE pc' L (.ref x :: S) σ Q) : Cc G M nE pc L (S) σ Q := by
  subst hp
  intro p e R s m args below meth c H locs ls cells slots n0 QQ hF hU hR ha hh hK hc1 hc2 hW hS hL
  exact lv_aload_n hF.1 hF.2.1 hd rfl (hL.2.2 _ _ hl) (h p e R s m args below meth c H locs ls cells slots n0 QQ hF hU hR ha hh hK hc1 hc2 hW hS hL)
theorem cz_iadd {x y : Int32} (hd : decode M.2.1 pc = .ok (.iadd, 1))  (hp : pc + 1 = pc') (h : Cc G M nE pc' L (.int (x + y) :: S) σ Q) : Cc G M nE pc L (.int y :: .int x :: S) σ Q := by
  subst hp
  intro p e R s m args below meth c H locs ls cells slots n0 QQ hF hU hR ha hh hK hc1 hc2 hW hS hL
  exact lv_iadd hF.1 hF.2.1 hd (h p e R s m args below meth c H locs ls cells slots n0 QQ hF hU hR ha hh hK hc1 hc2 hW hS hL)
theorem cz_isub {x y : Int32} (hd : decode M.2.1 pc = .ok (.isub, 1))  (hp : pc + 1 = pc') (h : Cc G M nE pc' L (.int (x - y) :: S) σ Q) : Cc G M nE pc L (.int y :: .int x :: S) σ Q := by
  subst hp
  intro p e R s m args below meth c H locs ls cells slots n0 QQ hF hU hR ha hh hK hc1 hc2 hW hS hL
  exact lv_isub hF.1 hF.2.1 hd (h p e R s m args below meth c H locs ls cells slots n0 QQ hF hU hR ha hh hK hc1 hc2 hW hS hL)
theorem cz_imul {x y : Int32} (hd : decode M.2.1 pc = .ok (.imul, 1))  (hp : pc + 1 = pc') (h : Cc G M nE pc' L (.int (x * y) :: S) σ Q) : Cc G M nE pc L (.int y :: .int x :: S) σ Q := by
  subst hp
  intro p e R s m args below meth c H locs ls cells slots n0 QQ hF hU hR ha hh hK hc1 hc2 hW hS hL
  exact lv_imul hF.1 hF.2.1 hd (h p e R s m args below meth c H locs ls cells slots n0 QQ hF hU hR ha hh hK hc1 hc2 hW hS hL)
theorem cz_iand {x y : Int32} (hd : decode M.2.1 pc = .ok (.iand, 1))  (hp : pc + 1 = pc') (h : Cc G M nE pc' L (.int (x &&& y) :: S) σ Q) : Cc G M nE pc L (.int y :: .int x :: S) σ Q := by
  subst hp
  intro p e R s m args below meth c H locs ls cells slots n0 QQ hF hU hR ha hh hK hc1 hc2 hW hS hL
  exact lv_iand hF.1 hF.2.1 hd (h p e R s m args below meth c H locs ls cells slots n0 QQ hF hU hR ha hh hK hc1 hc2 hW hS hL)
theorem cz_ior {x y : Int32} (hd : decode M.2.1 pc = .ok (.ior, 1))  (hp : pc + 1 = pc') (h : Cc G M nE pc' L (.int (x ||| y) :: S) σ Q) : Cc G M nE pc L (.int y :: .int x :: S) σ Q := by
  subst hp
  intro p e R s m args below meth c H locs ls cells slots n0 QQ hF hU hR ha hh hK hc1 hc2 hW hS hL
  exact lv_ior hF.1 hF.2.1 hd (h p e R s m args below meth c H locs ls cells slots n0 QQ hF hU hR ha hh hK hc1 hc2 hW hS hL)
theorem cz_ixor {x y : Int32} (hd : decode M.2.1 pc = .ok (.ixor, 1))  (hp : pc + 1 = pc') (h : Cc G M nE pc' L (.int (x ^^^ y) :: S) σ Q) : Cc G M nE pc L (.int y :: .int x :: S) σ Q := by
  subst hp
  intro p e R s m args below meth c H locs ls cells slots n0 QQ hF hU hR ha hh hK hc1 hc2 hW hS hL
  exact lv_ixor hF.1 hF.2.1 hd (h p e R s m args below meth c H locs ls cells slots n0 QQ hF hU hR ha hh hK hc1 hc2 hW hS hL)
theorem cz_ishl {x y : Int32} (hd : decode M.2.1 pc = .ok (.ishl, 1))  (hp : pc + 1 = pc') (h : Cc G M nE pc' L (.int (x <<< (y &&& 31)) :: S) σ Q) : Cc G M nE pc L (.int y :: .int x :: S) σ Q := by
  subst hp
  intro p e R s m args below meth c H locs ls cells slots n0 QQ hF hU hR ha hh hK hc1 hc2 hW hS hL
  exact lv_ishl hF.1 hF.2.1 hd (h p e R s m args below meth c H locs ls cells slots n0 QQ hF hU hR ha hh hK hc1 hc2 hW hS hL)
theorem cz_ishr {x y : Int32} (hd : decode M.2.1 pc = .ok (.ishr, 1))  (hp : pc + 1 = pc') (h : Cc G M nE pc' L (.int (x >>> (y &&& 31)) :: S) σ Q) : Cc G M nE pc L (.int y :: .int x :: S) σ Q := by
  subst hp
  intro p e R s m args below meth c H locs ls cells slots n0 QQ hF hU hR ha hh hK hc1 hc2 hW hS hL
  exact lv_ishr hF.1 hF.2.1 hd (h p e R s m args below meth c H locs ls cells slots n0 QQ hF hU hR ha hh hK hc1 hc2 hW hS hL)
theorem cz_idiv {x y : Int32} (hd : decode M.2.1 pc = .ok (.idiv, 1)) (hz : ¬ y = 0) (hp : pc + 1 = pc') (h : Cc G M nE pc' L (.int (x / y) :: S) σ Q) : Cc G M nE pc L (.int y :: .int x :: S) σ Q := by
  subst hp
  intro p e R s m args below meth c H locs ls cells slots n0 QQ hF hU hR ha hh hK hc1 hc2 hW hS hL
  exact lv_idiv hF.1 hF.2.1 hd hz (h p e R s m args below meth c H locs ls cells slots n0 QQ hF hU hR ha hh hK hc1 hc2 hW hS hL)
theorem cz_irem {x y : Int32} (hd : decode M.2.1 pc = .ok (.irem, 1)) (hz : ¬ y = 0) (hp : pc + 1 = pc') (h : Cc G M nE pc' L (.int (x - x / y * y) :: S) σ Q) : Cc G M nE pc L (.int y :: .int x :: S) σ Q := by
  subst hp
  intro p e R s m args below meth c H locs ls cells slots n0 QQ hF hU hR ha hh hK hc1 hc2 hW hS hL
  exact lv_irem hF.1 hF.2.1 hd hz (h p e R s m args below meth c H locs ls cells slots n0 QQ hF hU hR ha hh hK hc1 hc2 hW hS hL)
theorem cz_ineg {x : Int32} (hd : decode M.2.1 pc = .ok (.ineg, 1))  (hp : pc + 1 = pc') (h : Cc G M nE pc' L (.int (-x) :: S) σ Q) : Cc G M nE pc L (.int x :: S) σ Q := by
  subst hp
  intro p e R s m args below meth c H locs ls cells slots n0 QQ hF hU hR ha hh hK hc1 hc2 hW hS hL
  exact lv_ineg hF.1 hF.2.1 hd (h p e R s m args below meth c H locs ls cells slots n0 QQ hF hU hR ha hh hK hc1 hc2 hW hS hL)
theorem cz_ladd {x y : Int64} (hd : decode M.2.1 pc = .ok (.ladd, 1))  (hp : pc + 1 = pc') (h : Cc G M nE pc' L (.long (x + y) :: S) σ Q) : Cc G M nE pc L (.long y :: .long x :: S) σ Q := by
  subst hp
  intro p e R s m args below meth c H locs ls cells slots n0 QQ hF hU hR ha hh hK hc1 hc2 hW hS hL
  exact lv_ladd hF.1 hF.2.1 hd (h p e R s m args below meth c H locs ls cells slots n0 QQ hF hU hR ha hh hK hc1 hc2 hW hS hL)
theorem cz_lsub {x y : Int64} (hd : decode M.2.1 pc = .ok (.lsub, 1))  (hp : pc + 1 = pc') (h : Cc G M nE pc' L (.long (x - y) :: S) σ Q) : Cc G M nE pc L (.long y :: .long x :: S) σ Q := by
  subst hp
  intro p e R s m args below meth c H locs ls cells slots n0 QQ hF hU hR ha hh hK hc1 hc2 hW hS hL
  exact lv_lsub hF.1 hF.2.1 hd (h p e R s m args below meth c H locs ls cells slots n0 QQ hF hU hR ha hh hK hc1 hc2 hW hS hL)
theorem cz_lmul {x y : Int64} (hd : decode M.2.1 pc = .ok (.lmul, 1))  (hp : pc + 1 = pc') (h : Cc G M nE pc' L (.long (x * y) :: S) σ Q) : Cc G M nE pc L (.long y :: .long x :: S) σ Q := by
  subst hp
  intro p e R s m args below meth c H locs ls cells slots n0 QQ hF hU hR ha hh hK hc1 hc2 hW hS hL
  exact lv_lmul hF.1 hF.2.1 hd (h p e R s m args below meth c H locs ls cells slots n0 QQ hF hU hR ha hh hK hc1 hc2 hW hS hL)
theorem cz_ldiv {x y : Int64} (hd : decode M.2.1 pc = .ok (.ldiv, 1)) (hz : ¬ y = 0) (hp : pc + 1 = pc') (h : Cc G M nE pc' L (.long (x / y) :: S) σ Q) : Cc G M nE pc L (.long y :: .long x :: S) σ Q := by
  subst hp
  intro p e R s m args below meth c H locs ls cells slots n0 QQ hF hU hR ha hh hK hc1 hc2 hW hS hL
  exact lv_ldiv hF.1 hF.2.1 hd hz (h p e R s m args below meth c H locs ls cells slots n0 QQ hF hU hR ha hh hK hc1 hc2 hW hS hL)
theorem cz_lrem {x y : Int64} (hd : decode M.2.1 pc = .ok (.lrem, 1)) (hz : ¬ y = 0) (hp : pc + 1 = pc') (h : Cc G M nE pc' L (.long (x - x / y * y) :: S) σ Q) : Cc G M nE pc L (.long y :: .long x :: S) σ Q := by
  subst hp
  intro p e R s m args below meth c H locs ls cells slots n0 QQ hF hU hR ha hh hK hc1 hc2 hW hS hL
  exact lv_lrem hF.1 hF.2.1 hd hz (h p e R s m args below meth c H locs ls cells slots n0 QQ hF hU hR ha hh hK hc1 hc2 hW hS hL)
theorem cz_lcmp {x y : Int64} (hd : decode M.2.1 pc = .ok (.lcmp, 1))  (hp : pc + 1 = pc') (h : Cc G M nE pc' L (.int (lg_cmp x y) :: S) σ Q) : Cc G M nE pc L (.long y :: .long x :: S) σ Q := by
  subst hp
  intro p e R s m args below meth c H locs ls cells slots n0 QQ hF hU hR ha hh hK hc1 hc2 hW hS hL
  exact W.lcmp hF.1 hF.2.1 hd (h p e R s m args below meth c H locs ls cells slots n0 QQ hF hU hR ha hh hK hc1 hc2 hW hS hL)
theorem cz_i2l {x : Int32} (hd : decode M.2.1 pc = .ok (.i2l, 1))  (hp : pc + 1 = pc') (h : Cc G M nE pc' L (.long x.toInt64 :: S) σ Q) : Cc G M nE pc L (.int x :: S) σ Q := by
  subst hp
  intro p e R s m args below meth c H locs ls cells slots n0 QQ hF hU hR ha hh hK hc1 hc2 hW hS hL
  exact lv_i2l hF.1 hF.2.1 hd rfl (h p e R s m args below meth c H locs ls cells slots n0 QQ hF hU hR ha hh hK hc1 hc2 hW hS hL)
theorem cz_l2i {x : Int64} (hd : decode M.2.1 pc = .ok (.l2i, 1))  (hp : pc + 1 = pc') (h : Cc G M nE pc' L (.int x.toInt32 :: S) σ Q) : Cc G M nE pc L (.long x :: S) σ Q := by
  subst hp
  intro p e R s m args below meth c H locs ls cells slots n0 QQ hF hU hR ha hh hK hc1 hc2 hW hS hL
  exact lv_l2i hF.1 hF.2.1 hd rfl (h p e R s m args below meth c H locs ls cells slots n0 QQ hF hU hR ha hh hK hc1 hc2 hW hS hL)
theorem cz_i2b {x : Int32} (hd : decode M.2.1 pc = .ok (.i2b, 1))  (hp : pc + 1 = pc') (h : Cc G M nE pc' L (.int x.toInt8.toInt32 :: S) σ Q) : Cc G M nE pc L (.int x :: S) σ Q := by
  subst hp
  intro p e R s m args below meth c H locs ls cells slots n0 QQ hF hU hR ha hh hK hc1 hc2 hW hS hL
  exact lv_i2b hF.1 hF.2.1 hd rfl (h p e R s m args below meth c H locs ls cells slots n0 QQ hF hU hR ha hh hK hc1 hc2 hW hS hL)
theorem cz_i2c {x : Int32} (hd : decode M.2.1 pc = .ok (.i2c, 1))  (hp : pc + 1 = pc') (h : Cc G M nE pc' L (.int (x.toUInt32 % 65536).toInt32 :: S) σ Q) : Cc G M nE pc L (.int x :: S) σ Q := by
  subst hp
  intro p e R s m args below meth c H locs ls cells slots n0 QQ hF hU hR ha hh hK hc1 hc2 hW hS hL
  exact lv_i2c hF.1 hF.2.1 hd rfl (h p e R s m args below meth c H locs ls cells slots n0 QQ hF hU hR ha hh hK hc1 hc2 hW hS hL)
theorem cz_dup {x : Value} (hd : decode M.2.1 pc = .ok (.dup, 1)) (hv : x.category = 1) (hp : pc + 1 = pc') (h : Cc G M nE pc' L (x :: x :: S) σ Q) : Cc G M nE pc L (x :: S) σ Q := by
  subst hp
  intro p e R s m args below meth c H locs ls cells slots n0 QQ hF hU hR ha hh hK hc1 hc2 hW hS hL
  exact lv_dup hF.1 hF.2.1 hd (by rw [g_tr_cat]; exact hv) (h p e R s m args below meth c H locs ls cells slots n0 QQ hF hU hR ha hh hK hc1 hc2 hW hS hL)
theorem cz_dup2 {x y : Value} (hd : decode M.2.1 pc = .ok (.dup2, 1)) (hx : x.category = 1) (hy : y.category = 1) (hp : pc + 1 = pc') (h : Cc G M nE pc' L (x :: y :: x :: y :: S) σ Q) : Cc G M nE pc L (x :: y :: S) σ Q := by
  subst hp
  intro p e R s m args below meth c H locs ls cells slots n0 QQ hF hU hR ha hh hK hc1 hc2 hW hS hL
  exact lv_dup2_11 hF.1 hF.2.1 hd (by rw [g_tr_cat]; exact hx) (by rw [g_tr_cat]; exact hy) (h p e R s m args below meth c H locs ls cells slots n0 QQ hF hU hR ha hh hK hc1 hc2 hW hS hL)
theorem cz_dup2l {x : Value} (hd : decode M.2.1 pc = .ok (.dup2, 1)) (hx : x.category = 2) (hp : pc + 1 = pc') (h : Cc G M nE pc' L (x :: x :: S) σ Q) : Cc G M nE pc L (x :: S) σ Q := by
  subst hp
  intro p e R s m args below meth c H locs ls cells slots n0 QQ hF hU hR ha hh hK hc1 hc2 hW hS hL
  exact lv_dup2_2 hF.1 hF.2.1 hd (by rw [g_tr_cat]; exact hx) (h p e R s m args below meth c H locs ls cells slots n0 QQ hF hU hR ha hh hK hc1 hc2 hW hS hL)
theorem cz_pop {x : Value} (hd : decode M.2.1 pc = .ok (.pop, 1)) (hv : x.category = 1) (hp : pc + 1 = pc') (h : Cc G M nE pc' L (S) σ Q) : Cc G M nE pc L (x :: S) σ Q := by
  subst hp
  intro p e R s m args below meth c H locs ls cells slots n0 QQ hF hU hR ha hh hK hc1 hc2 hW hS hL
  exact lv_pop hF.1 hF.2.1 hd (by rw [g_tr_cat]; exact hv) (h p e R s m args below meth c H locs ls cells slots n0 QQ hF hU hR ha hh hK hc1 hc2 hW hS hL)
theorem cz_ldc {i : Nat} {v : Int32} (hd : decode M.2.1 pc = .ok (.ldc i, 2)) (hw : Cond.constant M.1.cls i v ∈ gw) (hp : pc + 2 = pc') (h : Cc G M nE pc' L (.int v :: S) σ Q) : Cc G M nE pc L S σ Q := by
  subst hp
  intro p e R s m args below meth c H locs ls cells slots n0 QQ hF hU hR ha hh hK hc1 hc2 hW hS hL
  exact lv_ldc hF.1 hF.2.1 hF.2.2.2.1 (hF.2.2.2.2.1 _ hw) hd (h p e R s m args below meth c H locs ls cells slots n0 QQ hF hU hR ha hh hK hc1 hc2 hW hS hL)
theorem cz_ldc2 {i : Nat} {v : Int64} (hd : decode M.2.1 pc = .ok (.ldc2_w i, 3)) (hw : Cond.constantLong M.1.cls i v ∈ gw) (hp : pc + 3 = pc') (h : Cc G M nE pc' L (.long v :: S) σ Q) : Cc G M nE pc L S σ Q := by
  subst hp
  intro p e R s m args below meth c H locs ls cells slots n0 QQ hF hU hR ha hh hK hc1 hc2 hW hS hL
  exact lv_ldc2 hF.1 hF.2.1 hF.2.2.2.1 (hF.2.2.2.2.1 _ hw) hd (h p e R s m args below meth c H locs ls cells slots n0 QQ hF hU hR ha hh hK hc1 hc2 hW hS hL)
theorem cz_ldcs {i : Nat} (hi : i < 4) (hd : decode M.2.1 pc = .ok (.ldc (g_sidx i), 2)) (hw : M.1.cls = RX8) (hp : pc + 2 = pc') (h : Cc G M nE pc' L (.ref (1001 + i) :: S) σ Q) : Cc G M nE pc L S σ Q := by
  subst hp
  intro p e R s m args below meth c H locs ls cells slots n0 QQ hF hU hR ha hh hK hc1 hc2 hW hS hL
  have hq := hU.2.2.1.2.1 i hi
  rw [← hw] at hq
  refine va_ldcS hF.1 hF.2.1 hF.2.2.2.1 hq hd (W.eq (congrArg (F0 m (pc + 2) ls) ?_) (h p e R s m args below meth c H locs ls cells slots n0 QQ hF hU hR ha hh hK hc1 hc2 hW hS hL))
  show _ = Value.ref (g_ad G (1001 + i)) :: _
  rw [show g_ad G (1001 + i) = g_s G (1 + i) by unfold g_ad; rw [if_neg (by omega), show 1001 + i - 1000 = 1 + i by omega]]
theorem cz_goto {off : Int} (hd : decode M.2.1 pc = .ok (.goto off, 3)) (ht : (pc : Int) + off = (pc' : Int)) (h : Cc G M nE pc' L S σ Q) : Cc G M nE pc L S σ Q := by
  intro p e R s m args below meth c H locs ls cells slots n0 QQ hF hU hR ha hh hK hc1 hc2 hW hS hL
  exact lv_goto hF.1 hF.2.1 hd ht (h p e R s m args below meth c H locs ls cells slots n0 QQ hF hU hR ha hh hK hc1 hc2 hW hS hL)
theorem cz_if_eq {x : Int32} {off : Int} {tgt : Nat} (hd : decode M.2.1 pc = .ok (.ifCond .eq off, 3)) (ht : (pc : Int) + off = (tgt : Int)) (hp : pc + 3 = pc') (kt : x = 0 → Cc G M nE tgt L S σ Q) (kf : ¬ x = 0 → Cc G M nE pc' L S σ Q) : Cc G M nE pc L (.int x :: S) σ Q := by
  subst hp
  intro p e R s m args below meth c H locs ls cells slots n0 QQ hF hU hR ha hh hK hc1 hc2 hW hS hL
  exact lv_if_eq hF.1 hF.2.1 hd ht (fun q => kt q p e R s m args below meth c H locs ls cells slots n0 QQ hF hU hR ha hh hK hc1 hc2 hW hS hL) (fun q => kf q p e R s m args below meth c H locs ls cells slots n0 QQ hF hU hR ha hh hK hc1 hc2 hW hS hL)
theorem cz_icmp_eq {x y : Int32} {off : Int} {tgt : Nat} (hd : decode M.2.1 pc = .ok (.if_icmp .eq off, 3)) (ht : (pc : Int) + off = (tgt : Int)) (hp : pc + 3 = pc') (kt : x = y → Cc G M nE tgt L S σ Q) (kf : ¬ x = y → Cc G M nE pc' L S σ Q) : Cc G M nE pc L (.int y :: .int x :: S) σ Q := by
  subst hp
  intro p e R s m args below meth c H locs ls cells slots n0 QQ hF hU hR ha hh hK hc1 hc2 hW hS hL
  exact lv_icmp_eq hF.1 hF.2.1 hd ht (fun q => kt q p e R s m args below meth c H locs ls cells slots n0 QQ hF hU hR ha hh hK hc1 hc2 hW hS hL) (fun q => kf q p e R s m args below meth c H locs ls cells slots n0 QQ hF hU hR ha hh hK hc1 hc2 hW hS hL)
theorem cz_if_ne {x : Int32} {off : Int} {tgt : Nat} (hd : decode M.2.1 pc = .ok (.ifCond .ne off, 3)) (ht : (pc : Int) + off = (tgt : Int)) (hp : pc + 3 = pc') (kt : ¬ x = 0 → Cc G M nE tgt L S σ Q) (kf : x = 0 → Cc G M nE pc' L S σ Q) : Cc G M nE pc L (.int x :: S) σ Q := by
  subst hp
  intro p e R s m args below meth c H locs ls cells slots n0 QQ hF hU hR ha hh hK hc1 hc2 hW hS hL
  exact lv_if_ne hF.1 hF.2.1 hd ht (fun q => kt q p e R s m args below meth c H locs ls cells slots n0 QQ hF hU hR ha hh hK hc1 hc2 hW hS hL) (fun q => kf q p e R s m args below meth c H locs ls cells slots n0 QQ hF hU hR ha hh hK hc1 hc2 hW hS hL)
theorem cz_icmp_ne {x y : Int32} {off : Int} {tgt : Nat} (hd : decode M.2.1 pc = .ok (.if_icmp .ne off, 3)) (ht : (pc : Int) + off = (tgt : Int)) (hp : pc + 3 = pc') (kt : ¬ x = y → Cc G M nE tgt L S σ Q) (kf : x = y → Cc G M nE pc' L S σ Q) : Cc G M nE pc L (.int y :: .int x :: S) σ Q := by
  subst hp
  intro p e R s m args below meth c H locs ls cells slots n0 QQ hF hU hR ha hh hK hc1 hc2 hW hS hL
  exact lv_icmp_ne hF.1 hF.2.1 hd ht (fun q => kt q p e R s m args below meth c H locs ls cells slots n0 QQ hF hU hR ha hh hK hc1 hc2 hW hS hL) (fun q => kf q p e R s m args below meth c H locs ls cells slots n0 QQ hF hU hR ha hh hK hc1 hc2 hW hS hL)
theorem cz_if_lt {x : Int32} {off : Int} {tgt : Nat} (hd : decode M.2.1 pc = .ok (.ifCond .lt off, 3)) (ht : (pc : Int) + off = (tgt : Int)) (hp : pc + 3 = pc') (kt : x < 0 → Cc G M nE tgt L S σ Q) (kf : ¬ x < 0 → Cc G M nE pc' L S σ Q) : Cc G M nE pc L (.int x :: S) σ Q := by
  subst hp
  intro p e R s m args below meth c H locs ls cells slots n0 QQ hF hU hR ha hh hK hc1 hc2 hW hS hL
  exact lv_if_lt hF.1 hF.2.1 hd ht (fun q => kt q p e R s m args below meth c H locs ls cells slots n0 QQ hF hU hR ha hh hK hc1 hc2 hW hS hL) (fun q => kf q p e R s m args below meth c H locs ls cells slots n0 QQ hF hU hR ha hh hK hc1 hc2 hW hS hL)
theorem cz_icmp_lt {x y : Int32} {off : Int} {tgt : Nat} (hd : decode M.2.1 pc = .ok (.if_icmp .lt off, 3)) (ht : (pc : Int) + off = (tgt : Int)) (hp : pc + 3 = pc') (kt : x < y → Cc G M nE tgt L S σ Q) (kf : ¬ x < y → Cc G M nE pc' L S σ Q) : Cc G M nE pc L (.int y :: .int x :: S) σ Q := by
  subst hp
  intro p e R s m args below meth c H locs ls cells slots n0 QQ hF hU hR ha hh hK hc1 hc2 hW hS hL
  exact lv_icmp_lt hF.1 hF.2.1 hd ht (fun q => kt q p e R s m args below meth c H locs ls cells slots n0 QQ hF hU hR ha hh hK hc1 hc2 hW hS hL) (fun q => kf q p e R s m args below meth c H locs ls cells slots n0 QQ hF hU hR ha hh hK hc1 hc2 hW hS hL)
theorem cz_if_ge {x : Int32} {off : Int} {tgt : Nat} (hd : decode M.2.1 pc = .ok (.ifCond .ge off, 3)) (ht : (pc : Int) + off = (tgt : Int)) (hp : pc + 3 = pc') (kt : 0 ≤ x → Cc G M nE tgt L S σ Q) (kf : ¬ 0 ≤ x → Cc G M nE pc' L S σ Q) : Cc G M nE pc L (.int x :: S) σ Q := by
  subst hp
  intro p e R s m args below meth c H locs ls cells slots n0 QQ hF hU hR ha hh hK hc1 hc2 hW hS hL
  exact lv_if_ge hF.1 hF.2.1 hd ht (fun q => kt q p e R s m args below meth c H locs ls cells slots n0 QQ hF hU hR ha hh hK hc1 hc2 hW hS hL) (fun q => kf q p e R s m args below meth c H locs ls cells slots n0 QQ hF hU hR ha hh hK hc1 hc2 hW hS hL)
theorem cz_icmp_ge {x y : Int32} {off : Int} {tgt : Nat} (hd : decode M.2.1 pc = .ok (.if_icmp .ge off, 3)) (ht : (pc : Int) + off = (tgt : Int)) (hp : pc + 3 = pc') (kt : y ≤ x → Cc G M nE tgt L S σ Q) (kf : ¬ y ≤ x → Cc G M nE pc' L S σ Q) : Cc G M nE pc L (.int y :: .int x :: S) σ Q := by
  subst hp
  intro p e R s m args below meth c H locs ls cells slots n0 QQ hF hU hR ha hh hK hc1 hc2 hW hS hL
  exact lv_icmp_ge hF.1 hF.2.1 hd ht (fun q => kt q p e R s m args below meth c H locs ls cells slots n0 QQ hF hU hR ha hh hK hc1 hc2 hW hS hL) (fun q => kf q p e R s m args below meth c H locs ls cells slots n0 QQ hF hU hR ha hh hK hc1 hc2 hW hS hL)
theorem cz_if_gt {x : Int32} {off : Int} {tgt : Nat} (hd : decode M.2.1 pc = .ok (.ifCond .gt off, 3)) (ht : (pc : Int) + off = (tgt : Int)) (hp : pc + 3 = pc') (kt : 0 < x → Cc G M nE tgt L S σ Q) (kf : ¬ 0 < x → Cc G M nE pc' L S σ Q) : Cc G M nE pc L (.int x :: S) σ Q := by
  subst hp
  intro p e R s m args below meth c H locs ls cells slots n0 QQ hF hU hR ha hh hK hc1 hc2 hW hS hL
  exact lv_if_gt hF.1 hF.2.1 hd ht (fun q => kt q p e R s m args below meth c H locs ls cells slots n0 QQ hF hU hR ha hh hK hc1 hc2 hW hS hL) (fun q => kf q p e R s m args below meth c H locs ls cells slots n0 QQ hF hU hR ha hh hK hc1 hc2 hW hS hL)
theorem cz_icmp_gt {x y : Int32} {off : Int} {tgt : Nat} (hd : decode M.2.1 pc = .ok (.if_icmp .gt off, 3)) (ht : (pc : Int) + off = (tgt : Int)) (hp : pc + 3 = pc') (kt : y < x → Cc G M nE tgt L S σ Q) (kf : ¬ y < x → Cc G M nE pc' L S σ Q) : Cc G M nE pc L (.int y :: .int x :: S) σ Q := by
  subst hp
  intro p e R s m args below meth c H locs ls cells slots n0 QQ hF hU hR ha hh hK hc1 hc2 hW hS hL
  exact lv_icmp_gt hF.1 hF.2.1 hd ht (fun q => kt q p e R s m args below meth c H locs ls cells slots n0 QQ hF hU hR ha hh hK hc1 hc2 hW hS hL) (fun q => kf q p e R s m args below meth c H locs ls cells slots n0 QQ hF hU hR ha hh hK hc1 hc2 hW hS hL)
theorem cz_if_le {x : Int32} {off : Int} {tgt : Nat} (hd : decode M.2.1 pc = .ok (.ifCond .le off, 3)) (ht : (pc : Int) + off = (tgt : Int)) (hp : pc + 3 = pc') (kt : x ≤ 0 → Cc G M nE tgt L S σ Q) (kf : ¬ x ≤ 0 → Cc G M nE pc' L S σ Q) : Cc G M nE pc L (.int x :: S) σ Q := by
  subst hp
  intro p e R s m args below meth c H locs ls cells slots n0 QQ hF hU hR ha hh hK hc1 hc2 hW hS hL
  exact lv_if_le hF.1 hF.2.1 hd ht (fun q => kt q p e R s m args below meth c H locs ls cells slots n0 QQ hF hU hR ha hh hK hc1 hc2 hW hS hL) (fun q => kf q p e R s m args below meth c H locs ls cells slots n0 QQ hF hU hR ha hh hK hc1 hc2 hW hS hL)
theorem cz_icmp_le {x y : Int32} {off : Int} {tgt : Nat} (hd : decode M.2.1 pc = .ok (.if_icmp .le off, 3)) (ht : (pc : Int) + off = (tgt : Int)) (hp : pc + 3 = pc') (kt : x ≤ y → Cc G M nE tgt L S σ Q) (kf : ¬ x ≤ y → Cc G M nE pc' L S σ Q) : Cc G M nE pc L (.int y :: .int x :: S) σ Q := by
  subst hp
  intro p e R s m args below meth c H locs ls cells slots n0 QQ hF hU hR ha hh hK hc1 hc2 hW hS hL
  exact lv_icmp_le hF.1 hF.2.1 hd ht (fun q => kt q p e R s m args below meth c H locs ls cells slots n0 QQ hF hU hR ha hh hK hc1 hc2 hW hS hL) (fun q => kf q p e R s m args below meth c H locs ls cells slots n0 QQ hF hU hR ha hh hK hc1 hc2 hW hS hL)
theorem cz_tabIn {dflt lo hi off : Int} {offs : Array Int} {len tgt : Nat} {x : Int32} (hd : decode M.2.1 pc = .ok (.tableswitch dflt lo hi offs, len)) (h1 : lo ≤ x.toInt) (h2 : x.toInt ≤ hi) (ho : offs[(x.toInt - lo).toNat]? = some off) (ht : (pc : Int) + off = (tgt : Int)) (h : Cc G M nE tgt L S σ Q) : Cc G M nE pc L (.int x :: S) σ Q := by
  intro p e R s m args below meth c H locs ls cells slots n0 QQ hF hU hR ha hh hK hc1 hc2 hW hS hL
  exact lv_tableIn hF.1 hF.2.1 hd (by omega) (by omega) ho ht (h p e R s m args below meth c H locs ls cells slots n0 QQ hF hU hR ha hh hK hc1 hc2 hW hS hL)
theorem cz_tabOut {dflt lo hi : Int} {offs : Array Int} {len tgt : Nat} {x : Int32} (hd : decode M.2.1 pc = .ok (.tableswitch dflt lo hi offs, len)) (h1 : x.toInt < lo ∨ hi < x.toInt) (ht : (pc : Int) + dflt = (tgt : Int)) (h : Cc G M nE tgt L S σ Q) : Cc G M nE pc L (.int x :: S) σ Q := by
  intro p e R s m args below meth c H locs ls cells slots n0 QQ hF hU hR ha hh hK hc1 hc2 hW hS hL
  exact lv_tableOut hF.1 hF.2.1 hd h1 ht (h p e R s m args below meth c H locs ls cells slots n0 QQ hF hU hR ha hh hK hc1 hc2 hW hS hL)
theorem cz_ret {v : Option Value} (hd : decode M.2.1 pc = .ok (g_rti v, 1)) (hr : g_rok M.2.2.2.1 v) (hn : σ.2.2.2 = nE) (hq : Q v σ) : Cc G M nE pc L v.toList σ Q := by
  intro p e R s m args below meth c H locs ls cells slots n0 QQ hF hU hR ha hh hK hc1 hc2 hW hS hL
  have e1 : cells = nE - n0 := by omega
  have e2 : slots = g_sz nE - g_sz n0 := by rw [← hn]; omega
  subst e1; subst e2
  exact hK v σ H locs pc ls hq hn hW hS hd hr
theorem cz_iret {x : Int32} {ty : FieldType} (hd : decode M.2.1 pc = .ok (.ireturn, 1)) (hr : M.2.2.2.1 = some ty) (hx : narrow ty (.int x) = .int x) (hn : σ.2.2.2 = nE) (hq : Q (some (.int x)) σ) : Cc G M nE pc L [.int x] σ Q := cz_ret (v := some (.int x)) hd ⟨ty, hr, hx⟩ hn hq
theorem cz_lret {x : Int64} (hd : decode M.2.1 pc = .ok (.lreturn, 1)) (hr : M.2.2.2.1 = some .long) (hn : σ.2.2.2 = nE) (hq : Q (some (.long x)) σ) : Cc G M nE pc L [.long x] σ Q := cz_ret (v := some (.long x)) hd hr hn hq
theorem cz_aret {x : Nat} {n : String} (hd : decode M.2.1 pc = .ok (.areturn, 1)) (hr : M.2.2.2.1 = some (.object n)) (hn : σ.2.2.2 = nE) (hq : Q (some (.ref x)) σ) : Cc G M nE pc L [.ref x] σ Q := cz_ret (v := some (.ref x)) hd ⟨n, hr⟩ hn hq
theorem cz_vret (hd : decode M.2.1 pc = .ok (.return_, 1)) (hr : M.2.2.2.1 = none) (hn : σ.2.2.2 = nE) (hq : Q none σ) : Cc G M nE pc L [] σ Q := cz_ret (v := none) hd hr hn hq
theorem cz_mono {Q' : Option Value → St → Prop} (h : Cc G M nE pc L S σ Q') (hq : ∀ v τ, Q' v τ → τ.2.2.2 = nE → Q v τ) : Cc G M nE pc L S σ Q := by
  intro p e R s m args below meth c H locs ls cells slots n0 QQ hF hU hR ha hh hK hc1 hc2 hW hS hL
  exact h p e R s m args below meth c H locs ls cells slots n0 QQ hF hU hR ha hh (fun v τ H' locs' pc' ls' a b => hK v τ H' locs' pc' ls' (hq v τ a b) b) hc1 hc2 hW hS hL
theorem cz_less {L' : List (Option Value)} (hl : ∀ (i : Nat) (v : Value), L'[i]? = some (some v) → L[i]? = some (some v)) (h : Cc G M nE pc L' S σ Q) : Cc G M nE pc L S σ Q := by
  intro p e R s m args below meth c H locs ls cells slots n0 QQ hF hU hR ha hh hK hc1 hc2 hW hS hL
  exact h p e R s m args below meth c H locs ls cells slots n0 QQ hF hU hR ha hh hK hc1 hc2 hW hS ⟨hL.1, hL.2.1, fun i v q => hL.2.2 i v (hl i v q)⟩
end
def g_la (G : Wd) (L : List (Option Value)) : List (Nat × Value) := L.zipIdx.filterMap (fun q => q.1.map (fun v => (q.2, g_tr G v)))
theorem g_la_mem {G : Wd} {L : List (Option Value)} {j : Nat} {u : Value} : (j, u) ∈ g_la G L ↔ ∃ w, L[j]? = some (some w) ∧ u = g_tr G w := by
  unfold g_la
  rw [List.mem_filterMap]
  constructor
  · rintro ⟨⟨a, i⟩, h1, h2⟩
    have h3 := List.mem_zipIdx_iff_getElem?.mp h1
    cases a with
    | none => cases h2
    | some w =>
      simp only [Option.map_some, Option.some.injEq, Prod.mk.injEq] at h2
      obtain ⟨rfl, rfl⟩ := h2
      exact ⟨w, h3, rfl⟩
  · rintro ⟨w, h1, rfl⟩
    exact ⟨(some w, j), List.mem_zipIdx_iff_getElem?.mpr h1, rfl⟩
theorem g_LO_has {G : Wd} {ls : Array Slot} {nL : Nat} {L : List (Option Value)} (h : g_LO G ls nL L) : lv_has ls nL (g_la G L) := by
  refine ⟨h.1, h.2.1, fun q hq => ?_⟩
  obtain ⟨j, u⟩ := q
  obtain ⟨w, h1, rfl⟩ := g_la_mem.mp hq
  exact h.2.2 j w h1
/-- a long that begins just ahead of a place is lost -/
def g_dl (L : List (Option Value)) (i : Nat) : List (Option Value) := match i with
  | 0 => L
  | j + 1 => match L[j]? with
    | some (some w) => if w.category = 2 then L.set j none else L
    | _ => L
theorem g_dl_at {L : List (Option Value)} {i j : Nat} {w : Value} (h : (g_dl L i)[j]? = some (some w)) : L[j]? = some (some w) ∧ ¬ (j + 1 = i ∧ w.category = 2) := by
  cases i with
  | zero => exact ⟨h, fun q => absurd q.1 (by omega)⟩
  | succ a =>
    unfold g_dl at h
    simp only at h
    split at h
    · rename_i w0 hw
      by_cases hc : w0.category = 2
      · rw [if_pos hc] at h
        by_cases hj : j = a
        · subst hj
          have hl := (List.getElem?_eq_some_iff.mp hw).1
          rw [List.getElem?_set_self hl] at h
          cases h
        · rw [List.getElem?_set_ne (Ne.symm hj)] at h
          exact ⟨h, fun q => hj (by omega)⟩
      · rw [if_neg hc] at h
        refine ⟨h, fun q => ?_⟩
        have : j = a := by omega
        subst this
        rw [hw] at h
        cases h
        exact hc q.2
    · rename_i hne
      refine ⟨h, fun q => ?_⟩
      have : j = a := by omega
      subst this
      exact hne w h
def g_st1 (L : List (Option Value)) (i : Nat) (v : Value) : List (Option Value) := (g_dl L i).set i (some v)
def g_st2 (L : List (Option Value)) (i : Nat) (v : Value) : List (Option Value) := ((g_dl L i).set i (some v)).set (i + 1) none
theorem g_st1_at {L : List (Option Value)} {i j : Nat} {v w : Value} (h : (g_st1 L i v)[j]? = some (some w)) : (j = i ∧ w = v) ∨ (j ≠ i ∧ L[j]? = some (some w) ∧ ¬ (j + 1 = i ∧ w.category = 2)) := by
  unfold g_st1 at h
  by_cases hj : j = i
  · subst hj
    rw [List.getElem?_set] at h
    simp only [if_true] at h
    split at h
    · cases h; exact Or.inl ⟨rfl, rfl⟩
    · cases h
  · rw [List.getElem?_set_ne (Ne.symm hj)] at h
    exact Or.inr ⟨hj, g_dl_at h⟩
theorem g_st2_at {L : List (Option Value)} {i j : Nat} {v w : Value} (h : (g_st2 L i v)[j]? = some (some w)) : (j = i ∧ w = v) ∨ (j ≠ i ∧ j ≠ i + 1 ∧ L[j]? = some (some w) ∧ ¬ (j + 1 = i ∧ w.category = 2)) := by
  unfold g_st2 at h
  by_cases hj : j = i + 1
  · subst hj
    rw [List.getElem?_set] at h
    simp only [if_true] at h
    split at h <;> cases h
  · rw [List.getElem?_set_ne (Ne.symm hj)] at h
    rcases g_st1_at h with q | q
    · exact Or.inl q
    · exact Or.inr ⟨q.1, hj, q.2⟩
theorem g_LO_st1 {G : Wd} {ls : Array Slot} {nL i : Nat} {v : Value} {L : List (Option Value)} (h : lv_has ls nL ((i, g_tr G v) :: (g_la G L).filter (fun q => !(q.1 == i) && !(q.1 + 1 == i && q.2.category == 2)))) : g_LO G ls nL (g_st1 L i v) := by
  refine ⟨h.1, h.2.1, fun j w hj => h.2.2 (j, g_tr G w) ?_⟩
  rcases g_st1_at hj with ⟨rfl, rfl⟩ | ⟨h1, h2, h3⟩
  · exact List.mem_cons_self
  · refine List.mem_cons_of_mem _ (List.mem_filter.mpr ⟨g_la_mem.mpr ⟨w, h2, rfl⟩, ?_⟩)
    simp only [g_tr_cat]
    simp only [Bool.and_eq_true, Bool.not_eq_true', beq_eq_false_iff_ne, ne_eq, Bool.and_eq_false_iff, h1, not_false_eq_true, true_and]
    by_cases q : j + 1 = i
    · exact Or.inr (fun z => h3 ⟨q, z⟩)
    · exact Or.inl q
theorem g_LO_st2 {G : Wd} {ls : Array Slot} {nL i : Nat} {v : Value} {L : List (Option Value)} (h : lv_has ls nL ((i, g_tr G v) :: (g_la G L).filter (fun q => !(q.1 == i) && (!(q.1 == i + 1) && !(q.1 + 1 == i && q.2.category == 2))))) : g_LO G ls nL (g_st2 L i v) := by
  refine ⟨h.1, h.2.1, fun j w hj => h.2.2 (j, g_tr G w) ?_⟩
  rcases g_st2_at hj with ⟨rfl, rfl⟩ | ⟨h1, h0, h2, h3⟩
  · exact List.mem_cons_self
  · refine List.mem_cons_of_mem _ (List.mem_filter.mpr ⟨g_la_mem.mpr ⟨w, h2, rfl⟩, ?_⟩)
    simp only [g_tr_cat]
    simp only [Bool.and_eq_true, Bool.not_eq_true', beq_eq_false_iff_ne, ne_eq, Bool.and_eq_false_iff, h1, h0, not_false_eq_true, true_and]
    by_cases q : j + 1 = i
    · exact Or.inr (fun z => h3 ⟨q, z⟩)
    · exact Or.inl q

section
variable {G : Wd} {M : MD} {nE pc pc' : Nat} {L L' : List (Option Value)} {S : List Value} {σ : St} {Q : Option Value → St → Prop}
theorem cz_istore {i : Nat} {x : Int32} (hd : decode M.2.1 pc = .ok (.istore i, 2)) (hi : i < M.2.2.1) (hl : g_st1 L i (.int x) = L') (hp : pc + 2 = pc') (h : Cc G M nE pc' L' S σ Q) : Cc G M nE pc L (.int x :: S) σ Q := by
  subst hp; subst hl
  intro p e R s m args below meth c H locs ls cells slots n0 QQ hF hU hR ha hh hK hc1 hc2 hW hS hL
  refine lv_istore hF.1 hF.2.1 hd (g_LO_has hL) hi rfl (fun ls' hl => ?_)
  exact h p e R s m args below meth c H locs ls' cells slots n0 QQ hF hU hR ha hh hK hc1 hc2 hW hS (g_LO_st1 (v := .int x) hl)
theorem cz_istore_n {i : Fin 4} {x : Int32} (hd : decode M.2.1 pc = .ok (.istore_n i, 1)) (hi : (i : Nat) < M.2.2.1) (hl : g_st1 L (i : Nat) (.int x) = L') (hp : pc + 1 = pc') (h : Cc G M nE pc' L' S σ Q) : Cc G M nE pc L (.int x :: S) σ Q := by
  subst hp; subst hl
  intro p e R s m args below meth c H locs ls cells slots n0 QQ hF hU hR ha hh hK hc1 hc2 hW hS hL
  refine lv_istore_n hF.1 hF.2.1 hd rfl (g_LO_has hL) hi rfl (fun ls' hl => ?_)
  exact h p e R s m args below meth c H locs ls' cells slots n0 QQ hF hU hR ha hh hK hc1 hc2 hW hS (g_LO_st1 (v := .int x) hl)
theorem cz_lstore {i : Nat} {x : Int64} (hd : decode M.2.1 pc = .ok (.lstore i, 2)) (hi : i + 1 < M.2.2.1) (hl : g_st2 L i (.long x) = L') (hp : pc + 2 = pc') (h : Cc G M nE pc' L' S σ Q) : Cc G M nE pc L (.long x :: S) σ Q := by
  subst hp; subst hl
  intro p e R s m args below meth c H locs ls cells slots n0 QQ hF hU hR ha hh hK hc1 hc2 hW hS hL
  refine lv_lstore hF.1 hF.2.1 hd (g_LO_has hL) hi rfl (fun ls' hl => ?_)
  exact h p e R s m args below meth c H locs ls' cells slots n0 QQ hF hU hR ha hh hK hc1 hc2 hW hS (g_LO_st2 (v := .long x) hl)
theorem cz_lstore_n {i : Fin 4} {x : Int64} (hd : decode M.2.1 pc = .ok (.lstore_n i, 1)) (hi : (i : Nat) + 1 < M.2.2.1) (hl : g_st2 L (i : Nat) (.long x) = L') (hp : pc + 1 = pc') (h : Cc G M nE pc' L' S σ Q) : Cc G M nE pc L (.long x :: S) σ Q := by
  subst hp; subst hl
  intro p e R s m args below meth c H locs ls cells slots n0 QQ hF hU hR ha hh hK hc1 hc2 hW hS hL
  refine lv_lstore_n hF.1 hF.2.1 hd rfl (g_LO_has hL) hi rfl (fun ls' hl => ?_)
  exact h p e R s m args below meth c H locs ls' cells slots n0 QQ hF hU hR ha hh hK hc1 hc2 hW hS (g_LO_st2 (v := .long x) hl)
theorem cz_astore {i : Nat} {x : Nat} (hd : decode M.2.1 pc = .ok (.astore i, 2)) (hi : i < M.2.2.1) (hl : g_st1 L i (.ref x) = L') (hp : pc + 2 = pc') (h : Cc G M nE pc' L' S σ Q) : Cc G M nE pc L (.ref x :: S) σ Q := by
  subst hp; subst hl
  intro p e R s m args below meth c H locs ls cells slots n0 QQ hF hU hR ha hh hK hc1 hc2 hW hS hL
  refine lv_astore hF.1 hF.2.1 hd (g_LO_has hL) hi rfl (fun ls' hl => ?_)
  exact h p e R s m args below meth c H locs ls' cells slots n0 QQ hF hU hR ha hh hK hc1 hc2 hW hS (g_LO_st1 (v := .ref x) hl)
theorem cz_astore_n {i : Fin 4} {x : Nat} (hd : decode M.2.1 pc = .ok (.astore_n i, 1)) (hi : (i : Nat) < M.2.2.1) (hl : g_st1 L (i : Nat) (.ref x) = L') (hp : pc + 1 = pc') (h : Cc G M nE pc' L' S σ Q) : Cc G M nE pc L (.ref x :: S) σ Q := by
  subst hp; subst hl
  intro p e R s m args below meth c H locs ls cells slots n0 QQ hF hU hR ha hh hK hc1 hc2 hW hS hL
  refine lv_astore_n hF.1 hF.2.1 hd rfl (g_LO_has hL) hi rfl (fun ls' hl => ?_)
  exact h p e R s m args below meth c H locs ls' cells slots n0 QQ hF hU hR ha hh hK hc1 hc2 hW hS (g_LO_st1 (v := .ref x) hl)
theorem cz_iinc {i : Nat} {n : Int} {x v : Int32} (hd : decode M.2.1 pc = .ok (.iinc i n, 3)) (hi : i < M.2.2.1) (hx : L[i]? = some (some (.int x))) (hv : x + Int32.ofInt n = v) (hl : g_st1 L i (.int v) = L') (hp : pc + 3 = pc') (h : Cc G M nE pc' L' S σ Q) : Cc G M nE pc L S σ Q := by
  subst hp; subst hl
  intro p e R s m args below meth c H locs ls cells slots n0 QQ hF hU hR ha hh hK hc1 hc2 hW hS hL
  obtain ⟨k, hk⟩ := List.getElem?_of_mem (g_la_mem.mpr ⟨_, hx, rfl⟩ : (i, g_tr G (.int x)) ∈ g_la G L)
  refine lv_iinc (v := v) hF.1 hF.2.1 hd (g_LO_has hL) hk hv hi rfl (fun ls' hl => ?_)
  exact h p e R s m args below meth c H locs ls' cells slots n0 QQ hF hU hR ha hh hK hc1 hc2 hW hS (g_LO_st1 (v := .int v) hl)
end
end
section
/-! fields, arrays, what is made -/
theorem g_uin (ci : Nat) (q : vw_C) (h : classes[ci]? = some q) : ∀ w ∈ u_ws q.1 q.2.1 q.2.2, w ∈ gw := by
  have key : (classes.all fun q => (u_ws q.1 q.2.1 q.2.2).all fun w => gw.contains w) = true := by decide +kernel
  intro w hw
  have h1 := List.all_eq_true.mp key q (List.mem_of_getElem? h)
  have h2 := List.all_eq_true.mp h1 w hw
  exact List.contains_iff_mem.mp h2
theorem g_typ (ci : Nat) (q : vw_C) (h : classes[ci]? = some q) : ∀ k, k < q.2.2 → parseFieldDescriptor (q.2.1 k).2.2.1 = some (g_fty ci k) := by
  match ci, h with
  | 0, h => cases h; exact tyX0_ok
  | 1, h => cases h; exact tyX1_ok
  | 2, h => cases h; exact tyX2_ok
  | 3, h => cases h; exact tyX3_ok
  | 4, h => cases h; exact tyX4_ok
  | 5, h => cases h; exact tyX5_ok
  | 6, h => cases h; exact tyX6_ok
  | 7, h => cases h; exact tyX7_ok
  | 8, h => cases h; exact tyX8_ok
  | 9, h => cases h; exact tyX9_ok
  | 10, h => cases h; exact tyX10_ok
  | 11, h => cases h; exact tyX11_ok
  | n + 12, h => simp [classes] at h
theorem g_nam (ci : Nat) (q : vw_C) (h : classes[ci]? = some q) : ∀ a, a < q.2.2 → ∀ b, b < q.2.2 → a ≠ b → (q.2.1 a).2.1 ≠ (q.2.1 b).2.1 := by
  match ci, h with
  | 0, h => cases h; exact nmX0
  | 1, h => cases h; exact nmX1
  | 2, h => cases h; exact nmX2
  | 3, h => cases h; exact nmX3
  | 4, h => cases h; exact nmX4
  | 5, h => cases h; exact nmX5
  | 6, h => cases h; exact nmX6
  | 7, h => cases h; exact nmX7
  | 8, h => cases h; exact nmX8
  | 9, h => cases h; exact nmX9
  | 10, h => cases h; exact nmX10
  | 11, h => cases h; exact nmX11
  | n + 12, h => simp [classes] at h
/-- a field's link: class, place -/
def g_Gf (own : String) (idx ci j : Nat) : Prop := ∃ (C : String) (T : u_T) (N : Nat), classes[ci]? = some (C, T, N) ∧ j < N ∧ (Cond.fieldLink own idx (T j).1 (T j).2.1 (T j).2.2.1 ∈ gw ∨ ∃ host, Cond.fieldLinkNest own idx (T j).1 (T j).2.1 (T j).2.2.1 host ∈ nw)
def g_Pf (own : String) (idx ci j : Nat) : Prop := ∃ (C : String) (T : u_T) (N : Nat), classes[ci]? = some (C, T, N) ∧ j < N ∧ (T j).2.2.2 = false ∧ (Cond.fieldLink own idx (T j).1 (T j).2.1 (T j).2.2.1 ∈ gw ∨ ∃ host, Cond.fieldLinkNest own idx (T j).1 (T j).2.1 (T j).2.2.1 host ∈ nw)
def g_Ff (own : String) (idx ci j : Nat) : Prop := ∃ (C : String) (T : u_T) (N : Nat), classes[ci]? = some (C, T, N) ∧ j < N ∧ (T j).2.2.2 = true ∧ (T j).1 = own ∧ Cond.fieldLink own idx (T j).1 (T j).2.1 (T j).2.2.1 ∈ gw
theorem g_fl_at {G : Wd} {σ : St} {k ci j : Nat} (h : j < g_nf ci) : (g_fl G σ k ci)[j]? = some (g_tr G (g_fv σ k (g_fty ci j) j)) := by simp [g_fl, h]
theorem g_nf_eq {ci : Nat} {C : String} {T : u_T} {N : Nat} (h : classes[ci]? = some (C, T, N)) : g_nf ci = N := by simp only [g_nf, h]
theorem g_ws_o {G : Wd} {σ : St} {k ci : Nat} (hk : k < σ.2.2.2) (hs : g_sh k = .inr ci) : (g_ws G σ)[k]? = some (g_a G + k, .inr (ci, g_fl G σ k ci)) := by
  rw [g_ws_at hk]
  simp only [g_en, hs]
theorem g_ws_r {G : Wd} {σ : St} {k t n : Nat} (hk : k < σ.2.2.2) (hs : g_sh k = .inl (t, n)) : (g_ws G σ)[k]? = some (g_a G + k, .inl (g_c G t, n, .inl (σ.1 k))) := by
  rw [g_ws_at hk]
  simp only [g_en, hs]
theorem g_tr_own {G : Wd} {k : Nat} (h : k < 1000) : g_tr G (.ref k) = .ref (g_a G + k) := by
  show Value.ref (g_ad G k) = _
  rw [g_ad_lt h]
section
variable {G : Wd} {M : MD} {nE pc pc' : Nat} {L L' : List (Option Value)} {S : List Value} {σ : St} {Q : Option Value → St → Prop}
theorem cz_getf {idx k ci j : Nat} {v : Value} (hd : decode M.2.1 pc = .ok (.getfield idx, 3)) (hg : g_Gf M.1.cls idx ci j) (hk : k < σ.2.2.2) (hs : g_sh k = .inr ci) (hv : g_fv σ k (g_fty ci j) j = v) (hp : pc + 3 = pc') (h : Cc G M nE pc' L (v :: S) σ Q) : Cc G M nE pc L (.ref k :: S) σ Q := by
  subst hp; subst hv
  intro p e R s m args below meth c H locs ls cells slots n0 QQ hF hU hR ha hh hK hc1 hc2 hW hS hL
  obtain ⟨C, T, N, hc, hj, hl⟩ := hg
  have hk1 : k < 1000 := Nat.lt_of_lt_of_le hk hW.2.2.2
  have hgo := h p e R s m args below meth c H locs ls cells slots n0 QQ hF hU hR ha hh hK hc1 hc2 hW hS hL
  refine W.eq (g2 := F0 m pc ls (.ref (g_a G + k) :: S.map (g_tr G))) (by rw [List.map_cons, g_tr_own hk1]) ?_
  have hv : (g_fl G σ k ci)[j]? = some (g_tr G (g_fv σ k (g_fty ci j) j)) := g_fl_at (by rw [g_nf_eq hc]; exact hj)
  rcases hl with hl | ⟨host, hl⟩
  · exact va_get hF.1 hF.2.1 hF.2.2.2.2.1 (g_uin ci _ hc) hF.2.2.2.1 hU.1 hW.1 k (g_ws_o hk hs) hc j hj (hF.2.2.2.2.1 _ hl) (fun _ h9 => h9) hv hd hgo
  · exact va_getN hF.1 hF.2.1 hF.2.2.2.2.1 (g_uin ci _ hc) hF.2.2.2.1 hU.1 hW.1 k (g_ws_o hk hs) hc j hj (va_Nw.use rfl (hU.2.1 _ hl)) (fun _ h9 => h9) hv hd hgo
/-- one cell of the world set anew -/
theorem g_Wk_set {σ' : St} {H0 H H1 : Heap} {locs : List Loc} {k sl : Nat} {en : va_E} (hW : g_Wk G σ H) (hS : va_S (g_A G) H0 H locs) (hk : k < σ.2.2.2) (hn : σ'.2.2.2 = σ.2.2.2) (he : g_en G σ' k = en) (ho : ∀ i, i ≠ k → g_en G σ' i = g_en G σ i) (hat : va_at (g_D G) classes (g_a G + k, en) H1) (hz : H1.size = H.size) (oq : ∀ q : Nat, q ≠ g_a G + k → H1[q]? = H[q]?) : g_Wk G σ' H1 ∧ va_S (g_A G) H0 H1 (locs ++ [⟨g_a G + k, sl⟩]) := by
  refine ⟨⟨?_, by rw [hz, hn]; exact hW.2.1, fun q hq => ?_, by rw [hn]; exact hW.2.2.2⟩, hS.put hz oq (Nat.le_add_right _ _)⟩
  · rw [← g_ws_set hk hn he ho]
    exact hW.1.set g_ws_D (g_ws_at hk) hat oq
  · rw [oq q (by omega)]
    exact hW.2.2.1 q hq
theorem cz_putA {idx k ci j : Nat} {v : Value} {σ' : St} (hd : decode M.2.1 pc = .ok (.putfield idx, 3)) (hg : g_Pf M.1.cls idx ci j) (hk : k < σ.2.2.2) (hs : g_sh k = .inr ci)
    (hnr : narrow (g_fty ci j) (g_tr G v) = g_tr G v) (hft : fits (g_fty ci j) (g_tr G v) = true) (hn : σ'.2.2.2 = σ.2.2.2) (he : g_fl G σ' k ci = (g_fl G σ k ci).set j (g_tr G v)) (ho : ∀ i, i ≠ k → g_en G σ' i = g_en G σ i) (hp : pc + 3 = pc') (h : Cc G M nE pc' L S σ' Q) : Cc G M nE pc L (v :: .ref k :: S) σ Q := by
  subst hp
  intro p e R s m args below meth c H locs ls cells slots n0 QQ hF hU hR ha hh hK hc1 hc2 hW hS hL
  obtain ⟨C, T, N, hc, hj, hfin, hl⟩ := hg
  have hk1 : k < 1000 := Nat.lt_of_lt_of_le hk hW.2.2.2
  have hjl : j < (g_fl G σ k ci).length := by simp only [g_fl, List.length_map, List.length_range, g_nf_eq hc]; exact hj
  refine W.eq (g2 := F0 m pc ls (g_tr G v :: .ref (g_a G + k) :: S.map (g_tr G))) (by rw [List.map_cons, List.map_cons, g_tr_own hk1]) ?_
  have hap := va_apart (own := M.1.cls) hF.2.2.2.2.1 (g_uin ci _ hc) (g_fty ci) (g_typ ci _ hc) (g_nam ci _ hc) hU.1 hc
  obtain ⟨r, h1, cell, q1, q2, q3, q4⟩ := hW.1 k _ (g_ws_o hk hs)
  cases h1.symm.trans hc
  obtain ⟨hSl, hfc, kC, hkC, hkind⟩ := hU.1.1 ci _ hc
  obtain ⟨cf, kf, fi, f, hi, hsl⟩ := hSl j hj
  have hlay := hF.2.2.2.2.1 _ (g_uin ci _ hc _ (u_in_lay hj))
  unfold u_lay at hlay
  rw [if_neg (by rw [hfin]; decide)] at hlay
  have hst := (u_facts hfc hkC (u_lays hF.2.2.2.2.1 (g_uin ci _ hc) hj) hi).1
  have h6 := u_store hfc hkC hkind hlay hi (g_typ ci _ hc j hj) hnr hft
  have go : ∀ H' : Heap, H'[g_a G + k]? = some (cell.setSlot f.slot (g_tr G v)) → H'.size = H.size → (∀ q, q ≠ g_a G + k → H'[q]? = H[q]?) → W p (g_l G) e R s m args below meth c H' (locs ++ [⟨g_a G + k, f.slot⟩]) cells slots QQ (F0 m (pc + 3) ls (S.map (g_tr G))) := by
    intro H' e1 e2 e3
    rw [hsl] at e1
    obtain ⟨hW', hS'⟩ := g_Wk_set (σ' := σ') (sl := f.slot) (en := .inr (ci, (g_fl G σ k ci).set j (g_tr G v))) hW hS hk hn (by simp only [g_en, hs, he]) ho ⟨_, hc, t_OB.to (V := updV (vp_V (g_fl G σ k ci)) j (g_tr G v)) ⟨_, e1, q2, q3, t_set q4 hap hj (g_tr G v)⟩ (fun a _ => vp_updV_set hjl (g_tr G v) a)⟩ e2 e3
    exact h p e R s m args below meth c H' _ ls cells slots n0 QQ hF hU hR ha hh hK (by rw [hn]; exact hc1) (by rw [hn]; exact hc2) hW' hS' hL
  rcases hl with hl | ⟨host, hl⟩
  · exact W.putK hF.1 hF.2.1 (f := f) ⟨hF.2.2.2.1, hF.2.2.2.2.1 _ hl, ⟨_, _, _, hi⟩, hst⟩ (by rw [q2]; exact h6) q1 q3 (by rw [hsl]; exact k2_hasslot (q4 j hj)) rfl rfl hd go
  · exact va_WputK hF.1 hF.2.1 (f := f) hF.2.2.2.1 (va_Nw.use rfl (hU.2.1 _ hl)) hi hst (by rw [q2]; exact h6) q1 q3 (by rw [hsl]; exact k2_hasslot (q4 j hj)) rfl rfl hd go
theorem g_fl_set {σ' : St} {k ci j : Nat} {v : Value} (h1 : g_fv σ' k (g_fty ci j) j = v) (h2 : ∀ a, a ≠ j → g_fv σ' k (g_fty ci a) a = g_fv σ k (g_fty ci a) a) : g_fl G σ' k ci = (g_fl G σ k ci).set j (g_tr G v) := by
  apply List.ext_getElem?
  intro a
  by_cases ha : a < g_nf ci
  · rw [g_fl_at ha]
    by_cases haj : a = j
    · subst haj
      rw [List.getElem?_set_self (by simp [g_fl, ha]), h1]
    · rw [List.getElem?_set_ne (Ne.symm haj), g_fl_at ha, h2 a haj]
  · rw [List.getElem?_eq_none (by simp [g_fl]; omega), List.getElem?_eq_none (by simp [g_fl]; omega)]
theorem cz_puti {idx k ci j : Nat} {x : Int32} (hd : decode M.2.1 pc = .ok (.putfield idx, 3)) (hg : g_Pf M.1.cls idx ci j) (hty : g_fty ci j = .int) (hk : k < σ.2.2.2) (hs : g_sh k = .inr ci) (hp : pc + 3 = pc') (h : Cc G M nE pc' L S (g_pr σ k (upd (σ.1 k) j x)) Q) : Cc G M nE pc L (.int x :: .ref k :: S) σ Q := by
  refine cz_putA hd hg hk hs (by rw [hty]; rfl) (by rw [hty]; rfl) (σ' := g_pr σ k (upd (σ.1 k) j x)) rfl (g_fl_set ?_ ?_) (fun i hi => g_en_pr hi) hp h
  · rw [hty]; simp [g_fv, g_pr, upd]
  · intro a ha
    cases g_fty ci a <;> simp [g_fv, g_pr, upd, ha]
theorem cz_putl {idx k ci j : Nat} {x : Int64} (hd : decode M.2.1 pc = .ok (.putfield idx, 3)) (hg : g_Pf M.1.cls idx ci j) (hty : g_fty ci j = .long) (hk : k < σ.2.2.2) (hs : g_sh k = .inr ci) (hp : pc + 3 = pc') (h : Cc G M nE pc' L S (g_pl σ k j x) Q) : Cc G M nE pc L (.long x :: .ref k :: S) σ Q := by
  refine cz_putA hd hg hk hs (by rw [hty]; rfl) (by rw [hty]; rfl) (σ' := g_pl σ k j x) rfl (g_fl_set ?_ ?_) (fun i hi => g_en_pl hi) hp h
  · rw [hty]; simp [g_fv, g_pl]
  · intro a ha
    cases g_fty ci a <;> simp [g_fv, g_pl, ha]
/-- a final field, in a constructor -/
theorem cz_putf {idx k ci j r : Nat} (hd : decode M.2.1 pc = .ok (.putfield idx, 3)) (hg : g_Ff M.1.cls idx ci j) (hin : M.1.name = "<init>") (hty : (∃ n, g_fty ci j = .object n) ∨ ∃ t, g_fty ci j = .array t) (hk : k < σ.2.2.2) (hs : g_sh k = .inr ci) (hp : pc + 3 = pc') (h : Cc G M nE pc' L S (g_prf σ k j (some r)) Q) : Cc G M nE pc L (.ref r :: .ref k :: S) σ Q := by
  subst hp
  intro p e R s m args below meth c H locs ls cells slots n0 QQ hF hU hR ha hh hK hc1 hc2 hW hS hL
  obtain ⟨C, T, N, hc, hj, hfin, hdecl, hl⟩ := hg
  have hk1 : k < 1000 := Nat.lt_of_lt_of_le hk hW.2.2.2
  have hjl : j < (g_fl G σ k ci).length := by simp only [g_fl, List.length_map, List.length_range, g_nf_eq hc]; exact hj
  refine W.eq (g2 := F0 m pc ls (.ref (g_ad G r) :: .ref (g_a G + k) :: S.map (g_tr G))) (by rw [List.map_cons, List.map_cons, g_tr_own hk1]; rfl) ?_
  have hap := va_apart (own := M.1.cls) hF.2.2.2.2.1 (g_uin ci _ hc) (g_fty ci) (g_typ ci _ hc) (g_nam ci _ hc) hU.1 hc
  obtain ⟨r0, h1, cell, q1, q2, q3, q4⟩ := hW.1 k _ (g_ws_o hk hs)
  cases h1.symm.trans hc
  obtain ⟨hSl, hfc, kC, hkC, hkind⟩ := hU.1.1 ci _ hc
  obtain ⟨cf, kf, fi, f, hi, hsl⟩ := hSl j hj
  have hlay := hF.2.2.2.2.1 _ (g_uin ci _ hc _ (u_in_lay hj))
  unfold u_lay at hlay
  rw [if_pos hfin] at hlay
  have hst := (u_facts hfc hkC (u_lays hF.2.2.2.2.1 (g_uin ci _ hc) hj) hi).1
  have hcf : m.cls = cf := by
    obtain ⟨_, _, c', _, _, _, -, -, hf', -, -, -, hown2, -⟩ := Cond.laysFinal_spec hlay
    have e1 : c' = cf := by have := hi.symm.trans hf'; simp at this; exact this.1.symm
    rw [hdecl] at hown2
    rw [← e1]; exact Option.some.inj (hF.2.2.2.1.symm.trans hown2)
  have hnr : narrow (g_fty ci j) (.ref (g_ad G r)) = .ref (g_ad G r) := by rcases hty with ⟨n, e⟩ | ⟨t, e⟩ <;> rw [e] <;> rfl
  have hft : fits (g_fty ci j) (.ref (g_ad G r)) = true := by rcases hty with ⟨n, e⟩ | ⟨t, e⟩ <;> rw [e] <;> rfl
  have h6 := u_fits hfc hkC hkind (Or.inr hlay) hi (g_typ ci _ hc j hj) hnr hft
  refine W.putFinK hF.1 hF.2.1 hF.2.2.2.1 (hF.2.2.2.2.1 _ hl) hi hst hcf (hF.2.2.2.2.2.2.2.trans hin) (by rw [q2]; exact h6) q1 q3 (by rw [hsl]; exact k2_hasslot (q4 j hj)) rfl rfl hd fun H' e1 e2 e3 => ?_
  rw [hsl] at e1
  have he : g_fl G (g_prf σ k j (some r)) k ci = (g_fl G σ k ci).set j (g_tr G (.ref r)) := by
    refine g_fl_set ?_ ?_
    · rcases hty with ⟨n, e⟩ | ⟨t, e⟩ <;> rw [e] <;> simp [g_fv, g_prf, g_rv]
    · intro a ha
      cases g_fty ci a <;> simp [g_fv, g_prf, ha]
  obtain ⟨hW', hS'⟩ := g_Wk_set (σ' := g_prf σ k j (some r)) (sl := f.slot) (en := .inr (ci, (g_fl G σ k ci).set j (g_tr G (.ref r)))) hW hS hk rfl (by simp only [g_en, hs, he]) (fun i hi => g_en_prf hi) ⟨_, hc, t_OB.to (V := updV (vp_V (g_fl G σ k ci)) j (g_tr G (.ref r))) ⟨_, e1, q2, q3, t_set q4 hap hj (g_tr G (.ref r))⟩ (fun a _ => vp_updV_set hjl (g_tr G (.ref r)) a)⟩ e2 e3
  exact h p e R s m args below meth c H' _ ls cells slots n0 QQ hF hU hR ha hh hK hc1 hc2 hW' hS' hL
/-! arrays -/
theorem g_in {i : Int32} {j n : Nat} (hj : i.toInt = (j : Int)) (hn : j < n) : vp_in i n ∧ i.toNatClampNeg = j := by
  refine ⟨vp_in_iff.mpr (by omega), ?_⟩
  show i.toInt.toNat = j
  omega
theorem g_en_arr {σ' : St} {k t n : Nat} {f : Nat → Int32} (hs : g_sh k = .inl (t, n)) (h : σ'.1 k = f) : g_en G σ' k = .inl (g_c G t, n, .inl f) := by
  simp only [g_en, hs, h]
theorem cz_iald {k n j : Nat} {i : Int32} (hd : decode M.2.1 pc = .ok (.iaload, 1)) (hk : k < σ.2.2.2) (hs : g_sh k = .inl (0, n)) (hj : i.toInt = (j : Int)) (hn : j < n) (hp : pc + 1 = pc') (h : Cc G M nE pc' L (.int (σ.1 k j) :: S) σ Q) : Cc G M nE pc L (.int i :: .ref k :: S) σ Q := by
  subst hp
  intro p e R s m args below meth c H locs ls cells slots n0 QQ hF hU hR ha hh hK hc1 hc2 hW hS hL
  obtain ⟨h1, h2⟩ := g_in hj hn
  refine W.eq (g2 := F0 m pc ls (.int i :: .ref (g_a G + k) :: S.map (g_tr G))) (by rw [List.map_cons, List.map_cons, g_tr_own (Nat.lt_of_lt_of_le hk hW.2.2.2)]; rfl) ?_
  refine va_iald hF.1 hF.2.1 hU.1 hW.1 k 0 (g_ws_r hk hs) rfl h1 hd ?_
  rw [h2]
  exact h p e R s m args below meth c H locs ls cells slots n0 QQ hF hU hR ha hh hK hc1 hc2 hW hS hL
theorem cz_bald {k n j : Nat} {i : Int32} (hd : decode M.2.1 pc = .ok (.baload, 1)) (hk : k < σ.2.2.2) (hs : g_sh k = .inl (1, n)) (hj : i.toInt = (j : Int)) (hn : j < n) (hp : pc + 1 = pc') (h : Cc G M nE pc' L (.int (σ.1 k j) :: S) σ Q) : Cc G M nE pc L (.int i :: .ref k :: S) σ Q := by
  subst hp
  intro p e R s m args below meth c H locs ls cells slots n0 QQ hF hU hR ha hh hK hc1 hc2 hW hS hL
  obtain ⟨h1, h2⟩ := g_in hj hn
  refine W.eq (g2 := F0 m pc ls (.int i :: .ref (g_a G + k) :: S.map (g_tr G))) (by rw [List.map_cons, List.map_cons, g_tr_own (Nat.lt_of_lt_of_le hk hW.2.2.2)]; rfl) ?_
  refine va_bald hF.1 hF.2.1 hU.1 hW.1 k 1 (g_ws_r hk hs) rfl h1 hd ?_
  rw [h2]
  exact h p e R s m args below meth c H locs ls cells slots n0 QQ hF hU hR ha hh hK hc1 hc2 hW hS hL
theorem cz_zald {k n j : Nat} {i : Int32} (hd : decode M.2.1 pc = .ok (.baload, 1)) (hk : k < σ.2.2.2) (hs : g_sh k = .inl (2, n)) (hj : i.toInt = (j : Int)) (hn : j < n) (hp : pc + 1 = pc') (h : Cc G M nE pc' L (.int (σ.1 k j) :: S) σ Q) : Cc G M nE pc L (.int i :: .ref k :: S) σ Q := by
  subst hp
  intro p e R s m args below meth c H locs ls cells slots n0 QQ hF hU hR ha hh hK hc1 hc2 hW hS hL
  obtain ⟨h1, h2⟩ := g_in hj hn
  refine W.eq (g2 := F0 m pc ls (.int i :: .ref (g_a G + k) :: S.map (g_tr G))) (by rw [List.map_cons, List.map_cons, g_tr_own (Nat.lt_of_lt_of_le hk hW.2.2.2)]; rfl) ?_
  refine va_zald hF.1 hF.2.1 hU.1 hW.1 k 2 (g_ws_r hk hs) rfl h1 hd ?_
  rw [h2]
  exact h p e R s m args below meth c H locs ls cells slots n0 QQ hF hU hR ha hh hK hc1 hc2 hW hS hL
theorem cz_alen {k n t : Nat} {v : Int32} (hd : decode M.2.1 pc = .ok (.arraylength, 1)) (hk : k < σ.2.2.2) (hs : g_sh k = .inl (t, n)) (ht : t < 3) (hv : Int32.ofNat n = v) (hp : pc + 1 = pc') (h : Cc G M nE pc' L (.int v :: S) σ Q) : Cc G M nE pc L (.ref k :: S) σ Q := by
  subst hp
  intro p e R s m args below meth c H locs ls cells slots n0 QQ hF hU hR ha hh hK hc1 hc2 hW hS hL
  have hgo := h p e R s m args below meth c H locs ls cells slots n0 QQ hF hU hR ha hh hK hc1 hc2 hW hS hL
  refine W.eq (g2 := F0 m pc ls (.ref (g_a G + k) :: S.map (g_tr G))) (by rw [List.map_cons, g_tr_own (Nat.lt_of_lt_of_le hk hW.2.2.2)]) ?_
  rcases (show t = 0 ∨ t = 1 ∨ t = 2 by omega) with rfl | rfl | rfl
  · exact va_alen hF.1 hF.2.1 hU.1 hW.1 k 0 (g_ws_r hk hs) (ty := .int) rfl hv hd hgo
  · exact va_alen hF.1 hF.2.1 hU.1 hW.1 k 1 (g_ws_r hk hs) (ty := .byte) rfl hv hd hgo
  · exact va_alen hF.1 hF.2.1 hU.1 hW.1 k 2 (g_ws_r hk hs) (ty := .boolean) rfl hv hd hgo
theorem g_at_arr {H1 : Heap} {a cA n j : Nat} {f : Nat → Int32} {x : Int32} (e : H1[a]? = some ((vp_cell cA (n, .inl f)).setSlot j (.int x))) : va_at (g_D G) classes (a, .inl (cA, n, .inl (upd f j x))) H1 := by
  show H1[a]? = some (vp_cell _ _)
  rw [e]
  rw [vp_cell_i, vp_cell_i, arrV_store]
  congr 2
  funext q
  by_cases hq : q = j
  · subst hq
    simp [updV, upd]
  · simp [updV, upd, hq]
theorem cz_iast {k n j : Nat} {i x : Int32} (hd : decode M.2.1 pc = .ok (.iastore, 1)) (hk : k < σ.2.2.2) (hs : g_sh k = .inl (0, n)) (hj : i.toInt = (j : Int)) (hn : j < n) (hp : pc + 1 = pc') (h : Cc G M nE pc' L S (g_pr σ k (upd (σ.1 k) j x)) Q) : Cc G M nE pc L (.int x :: .int i :: .ref k :: S) σ Q := by
  subst hp
  intro p e R s m args below meth c H locs ls cells slots n0 QQ hF hU hR ha hh hK hc1 hc2 hW hS hL
  obtain ⟨h1, h2⟩ := g_in hj hn
  refine W.eq (g2 := F0 m pc ls (.int x :: .int i :: .ref (g_a G + k) :: S.map (g_tr G))) (by rw [List.map_cons, List.map_cons, List.map_cons, g_tr_own (Nat.lt_of_lt_of_le hk hW.2.2.2)]; rfl) ?_
  refine W.iast hF.1 hF.2.1 (hW.1 k _ (g_ws_r hk hs)) ((hU.1.2 0 _ rfl).1 n (fun j => .int (σ.1 k j))) (fun q => by cases q) (by show ¬ (i < 0 ∨ (arrV _ _ _).slots.size ≤ _); rw [arrV_size]; exact h1) rfl rfl hd fun H1 e1 z oq => ?_
  rw [h2] at e1 ⊢
  obtain ⟨hW', hS'⟩ := g_Wk_set (σ' := g_pr σ k (upd (σ.1 k) j x)) (sl := j) hW hS hk rfl (g_en_arr hs (by simp [g_pr])) (fun i hi => g_en_pr hi) (g_at_arr e1) z oq
  exact h p e R s m args below meth c H1 _ ls cells slots n0 QQ hF hU hR ha hh hK hc1 hc2 hW' hS' hL
theorem cz_bast {k n j : Nat} {i x y : Int32} (hd : decode M.2.1 pc = .ok (.bastore, 1)) (hk : k < σ.2.2.2) (hs : g_sh k = .inl (1, n)) (hj : i.toInt = (j : Int)) (hn : j < n) (hx : narrow .byte (.int x) = .int y) (hp : pc + 1 = pc') (h : Cc G M nE pc' L S (g_pr σ k (upd (σ.1 k) j y)) Q) : Cc G M nE pc L (.int x :: .int i :: .ref k :: S) σ Q := by
  subst hp
  intro p e R s m args below meth c H locs ls cells slots n0 QQ hF hU hR ha hh hK hc1 hc2 hW hS hL
  obtain ⟨h1, h2⟩ := g_in hj hn
  refine W.eq (g2 := F0 m pc ls (.int x :: .int i :: .ref (g_a G + k) :: S.map (g_tr G))) (by rw [List.map_cons, List.map_cons, List.map_cons, g_tr_own (Nat.lt_of_lt_of_le hk hW.2.2.2)]; rfl) ?_
  refine W.bast hF.1 hF.2.1 (hW.1 k _ (g_ws_r hk hs)) ((hU.1.2 1 _ rfl).1 n (fun j => .int (σ.1 k j))) (fun q => by cases q) (by show ¬ (i < 0 ∨ (arrV _ _ _).slots.size ≤ _); rw [arrV_size]; exact h1) rfl rfl hd fun H1 e1 z oq => ?_
  rw [h2] at e1 ⊢
  rw [hx] at e1
  obtain ⟨hW', hS'⟩ := g_Wk_set (σ' := g_pr σ k (upd (σ.1 k) j y)) (sl := j) hW hS hk rfl (g_en_arr hs (by simp [g_pr])) (fun i hi => g_en_pr hi) (g_at_arr e1) z oq
  exact h p e R s m args below meth c H1 _ ls cells slots n0 QQ hF hU hR ha hh hK hc1 hc2 hW' hS' hL
theorem cz_zast {k n j : Nat} {i x y : Int32} (hd : decode M.2.1 pc = .ok (.bastore, 1)) (hk : k < σ.2.2.2) (hs : g_sh k = .inl (2, n)) (hj : i.toInt = (j : Int)) (hn : j < n) (hx : narrow .boolean (.int x) = .int y) (hp : pc + 1 = pc') (h : Cc G M nE pc' L S (g_pr σ k (upd (σ.1 k) j y)) Q) : Cc G M nE pc L (.int x :: .int i :: .ref k :: S) σ Q := by
  subst hp
  intro p e R s m args below meth c H locs ls cells slots n0 QQ hF hU hR ha hh hK hc1 hc2 hW hS hL
  obtain ⟨h1, h2⟩ := g_in hj hn
  refine W.eq (g2 := F0 m pc ls (.int x :: .int i :: .ref (g_a G + k) :: S.map (g_tr G))) (by rw [List.map_cons, List.map_cons, List.map_cons, g_tr_own (Nat.lt_of_lt_of_le hk hW.2.2.2)]; rfl) ?_
  refine W.zast hF.1 hF.2.1 (hW.1 k _ (g_ws_r hk hs)) ((hU.1.2 2 _ rfl).1 n (fun j => .int (σ.1 k j))) (fun q => by cases q) (by show ¬ (i < 0 ∨ (arrV _ _ _).slots.size ≤ _); rw [arrV_size]; exact h1) rfl rfl hd fun H1 e1 z oq => ?_
  rw [h2] at e1 ⊢
  rw [hx] at e1
  obtain ⟨hW', hS'⟩ := g_Wk_set (σ' := g_pr σ k (upd (σ.1 k) j y)) (sl := j) hW hS hk rfl (g_en_arr hs (by simp [g_pr])) (fun i hi => g_en_pr hi) (g_at_arr e1) z oq
  exact h p e R s m args below meth c H1 _ ls cells slots n0 QQ hF hU hR ha hh hK hc1 hc2 hW' hS' hL
/-- the script -/
theorem cz_sld {j : Nat} {i : Int32} (hd : decode M.2.1 pc = .ok (.iaload, 1)) (hj : i.toInt = (j : Int)) (hn : j < g_L G) (hp : pc + 1 = pc') (h : Cc G M nE pc' L (.int (g_x G j) :: S) σ Q) : Cc G M nE pc L (.int i :: .ref 1000 :: S) σ Q := by
  subst hp
  intro p e R s m args below meth c H locs ls cells slots n0 QQ hF hU hR ha hh hK hc1 hc2 hW hS hL
  obtain ⟨h1, h2⟩ := g_in hj hn
  have hX : va_X (g_s G 0) (g_L G) (g_x G) s s.heap := hU.2.2.2.1.kept (hh _ hU.2.2.2.2.1)
  refine va_sld hF.1 hF.2.1 hX (Nat.lt_of_lt_of_le hU.2.2.2.2.1 ha) (Nat.not_le.mpr hU.2.2.2.2.1) hS h1 hd ?_
  rw [h2]
  exact h p e R s m args below meth c H locs ls cells slots n0 QQ hF hU hR ha hh hK hc1 hc2 hW hS hL
theorem cz_slen (hd : decode M.2.1 pc = .ok (.arraylength, 1)) (hp : pc + 1 = pc') (h : Cc G M nE pc' L (.int (Int32.ofNat (g_L G)) :: S) σ Q) : Cc G M nE pc L (.ref 1000 :: S) σ Q := by
  subst hp
  intro p e R s m args below meth c H locs ls cells slots n0 QQ hF hU hR ha hh hK hc1 hc2 hW hS hL
  have hX : va_X (g_s G 0) (g_L G) (g_x G) s s.heap := hU.2.2.2.1.kept (hh _ hU.2.2.2.2.1)
  exact va_slen hF.1 hF.2.1 hX (Nat.lt_of_lt_of_le hU.2.2.2.2.1 ha) (Nat.not_le.mpr hU.2.2.2.2.1) hS hd (h p e R s m args below meth c H locs ls cells slots n0 QQ hF hU hR ha hh hK hc1 hc2 hW hS hL)
end
end
section
/-! what is made: objects and arrays, at the next number; copies of rows -/
def g_nw (σ : St) : St := (fun a b => if a = σ.2.2.2 then 0 else σ.1 a b, fun a b => if a = σ.2.2.2 then 0 else σ.2.1 a b, fun a b => if a = σ.2.2.2 then none else σ.2.2.1 a b, σ.2.2.2 + 1)
theorem g_en_nw {G : Wd} {σ : St} {i : Nat} (h : i ≠ σ.2.2.2) : g_en G (g_nw σ) i = g_en G σ i := by
  simp [g_en, g_nw, h, g_fl, g_fv]
theorem g_ws_nw {G : Wd} {σ : St} : g_ws G (g_nw σ) = g_ws G σ ++ [(g_a G + σ.2.2.2, g_en G (g_nw σ) σ.2.2.2)] := by
  apply Eq.symm
  refine g_ws_ext (by rw [List.length_append, g_ws_len]; rfl) (fun i hi => ?_)
  have hi2 : i < σ.2.2.2 + 1 := hi
  by_cases h : i < σ.2.2.2
  · rw [List.getElem?_append_left (by rw [g_ws_len]; exact h), g_ws_at h, g_en_nw (by omega)]
  · have e : i = σ.2.2.2 := by omega
    subst e
    rw [List.getElem?_append_right (by rw [g_ws_len]; omega), g_ws_len, Nat.sub_self]
    rfl
theorem g_Wk_new {G : Wd} {σ : St} {H H1 : Heap} (hW : g_Wk G σ H) (hn : σ.2.2.2 < 42) (hat : va_at (g_D G) classes (g_a G + σ.2.2.2, g_en G (g_nw σ) σ.2.2.2) H1) (hz : H1.size = H.size + 1) (oq : ∀ q : Nat, q < H.size → H1[q]? = H[q]?) : g_Wk G (g_nw σ) H1 := by
  have hzz := hW.2.1 hn
  refine ⟨?_, fun _ => by rw [hz, hzz]; rfl, fun q hq => ?_, by show σ.2.2.2 + 1 ≤ 1000; omega⟩
  · rw [g_ws_nw]
    refine (hW.1.kept (fun k q hk => oq q.1 ((hW.1 k q hk).lt))).app (fun k q hk => ?_)
    have hz : k < 1 := (List.getElem?_eq_some_iff.mp hk).1
    rw [show k = 0 by omega] at hk
    cases hk
    exact hat
  · rw [oq q (by omega)]
    exact hW.2.2.1 q hq
def g_Nf (own : String) (idx ci : Nat) : Prop := ∃ (C : String) (T : u_T) (N : Nat), classes[ci]? = some (C, T, N) ∧ Cond.classLink own idx C ∈ gw ∧ Cond.instantiable C N ∈ gw ∧ Cond.initialized C ∈ gw
theorem g_fv_nw {σ : St} {ty : FieldType} {j : Nat} (h : ty = .int ∨ ty = .long ∨ (∃ n, ty = .object n) ∨ ∃ t, ty = .array t) : defaultValue ty = g_fv (g_nw σ) σ.2.2.2 ty j := by
  rcases h with rfl | rfl | ⟨n, rfl⟩ | ⟨t, rfl⟩ <;> simp [g_fv, g_nw, g_rv] <;> rfl
def g_tyok (ty : FieldType) : Bool := match ty with
  | .int => true
  | .long => true
  | .object _ => true
  | .array _ => true
  | _ => false
theorem g_tyok_of {ty : FieldType} (h : g_tyok ty = true) : ty = .int ∨ ty = .long ∨ (∃ n, ty = .object n) ∨ ∃ t, ty = .array t := by
  cases ty <;> first | (cases h; done) | simp
section
variable {G : Wd} {M : MD} {nE pc pc' : Nat} {L L' : List (Option Value)} {S : List Value} {σ : St} {Q : Option Value → St → Prop}
theorem cz_new {idx ci : Nat} (hd : decode M.2.1 pc = .ok (.new idx, 3)) (hg : g_Nf M.1.cls idx ci) (hs : g_sh σ.2.2.2 = .inr ci) (hty : ∀ j, j < g_nf ci → g_tyok (g_fty ci j) = true) (hE : σ.2.2.2 < nE) (hE2 : nE ≤ 42) (hp : pc + 3 = pc') (h : Cc G M nE pc' L (.ref σ.2.2.2 :: S) (g_nw σ) Q) : Cc G M nE pc L S σ Q := by
  subst hp
  intro p e R s m args below meth c H locs ls cells slots n0 QQ hF hU hR ha hh hK hc1 hc2 hW hS hL
  obtain ⟨C, T, N, hc, w1, w2, w3⟩ := hg
  have hKn := hU.1.1 ci _ hc
  have hszk : g_szk σ.2.2.2 = N := by simp only [g_szk, hs, g_nf_eq hc]
  have hle := g_sz_le (show σ.2.2.2 + 1 ≤ nE from hE)
  have hst : g_sz (σ.2.2.2 + 1) = g_sz σ.2.2.2 + g_szk σ.2.2.2 := rfl
  obtain ⟨r1, r2, r3, r4, r5⟩ := hR
  have hsz := hW.2.1 (by omega)
  refine W.newcK hF.1 hF.2.1 hF.2.2.2.1 (hF.2.2.2.2.1 _ w1) (hF.2.2.2.2.1 _ w2) (hF.2.2.2.2.1 _ w3) rfl hd (by omega) (by omega) hKn.2.1 hsz fun H1 kC hkC e1 z1 o1 => ?_
  have hgo := h p e R s m args below meth c H1 locs ls (cells + 1) (slots + N) n0 QQ hF hU ⟨r1, r2, r3, r4, r5⟩ ha hh hK (by show _ = σ.2.2.2 + 1; omega) (by show _ = g_sz (σ.2.2.2 + 1); omega) (g_Wk_new hW (by omega) ?_ (by rw [z1, hsz]) (fun q hq => o1 q (by rw [← hsz]; exact hq))) ⟨Nat.le_trans hS.1 (by omega), fun q h1 h2 => (o1 q (by have := hS.1; omega)).trans (hS.2.1 q h1 h2), hS.2.2⟩ hL
  · refine W.eq ?_ hgo
    rw [List.map_cons, g_tr_own (show σ.2.2.2 < 1000 by omega)]
  · simp only [g_en, hs]
    refine ⟨_, hc, (u_born (g_fty ci) hF.2.2.2.2.1 (g_uin ci _ hc) hKn hkC e1 (g_typ ci _ hc)).to (fun j hj => ?_)⟩
    have hj2 : j < g_nf ci := by rw [g_nf_eq hc]; exact hj
    have hv := g_fv_nw (σ := σ) (j := j) (g_tyok_of (hty j hj2))
    have hq := g_fl_at (G := G) (σ := g_nw σ) (k := σ.2.2.2) hj2
    rw [vp_V, List.getD_eq_getElem?_getD, hq, hv]
    rcases g_tyok_of (hty j hj2) with e | e | ⟨n, e⟩ | ⟨n, e⟩ <;> rw [e] <;> simp [g_fv, g_nw, g_tr, g_rv]
/-- the types of arrays: 0 int, 1 byte, 2 boolean -/
def g_aty (t : Nat) : ArrayType := match t with
  | 0 => .int
  | 1 => .byte
  | _ => .boolean
theorem cz_newa {t n : Nat} {x : Int32} (hd : decode M.2.1 pc = .ok (.newarray (g_aty t), 2)) (ht : t < 3) (hw : Cond.arrayClass (newarray.typeOf (g_aty t)) ∈ gw) (hs : g_sh σ.2.2.2 = .inl (t, n)) (hx : x.toInt = (n : Int)) (hn : n ≤ 1000) (hE : σ.2.2.2 < nE) (hE2 : nE ≤ 42) (hp : pc + 2 = pc') (h : Cc G M nE pc' L (.ref σ.2.2.2 :: S) (g_nw σ) Q) : Cc G M nE pc L (.int x :: S) σ Q := by
  subst hp
  intro p e R s m args below meth c H locs ls cells slots n0 QQ hF hU hR ha hh hK hc1 hc2 hW hS hL
  have hszk : g_szk σ.2.2.2 = n := by simp only [g_szk, hs]
  have hle := g_sz_le (show σ.2.2.2 + 1 ≤ nE from hE)
  have hst : g_sz (σ.2.2.2 + 1) = g_sz σ.2.2.2 + g_szk σ.2.2.2 := rfl
  obtain ⟨r1, r2, r3, r4, r5⟩ := hR
  have hsz := hW.2.1 (by omega)
  have hx0 : ¬ x < 0 := by rw [Int32.lt_iff_toInt_lt]; show ¬ x.toInt < 0; omega
  have hxn : x.toNatClampNeg = n := by show x.toInt.toNat = n; omega
  have hcb : n * componentBytes (newarray.typeOf (g_aty t)) ≤ 536870912 := by
    have : componentBytes (newarray.typeOf (g_aty t)) ≤ 8 := by
      rcases (show t = 0 ∨ t = 1 ∨ t = 2 by omega) with rfl | rfl | rfl <;> decide
    calc n * componentBytes (newarray.typeOf (g_aty t)) ≤ 1000 * 8 := Nat.mul_le_mul hn this
      _ ≤ 536870912 := by decide
  refine va_newaK hF.1 hF.2.1 (hF.2.2.2.2.1 _ hw) rfl hd rfl hx0 hxn hcb (by omega) (by omega) hsz fun H1 cA e1 z1 o1 hAr hNm => ?_
  have hcA : cA = g_c G t := by
    rcases (show t = 0 ∨ t = 1 ∨ t = 2 by omega) with rfl | rfl | rfl
    · exact Option.some.inj (hNm.symm.trans (hU.1.2 0 _ rfl).2)
    · exact Option.some.inj (hNm.symm.trans (hU.1.2 1 _ rfl).2)
    · exact Option.some.inj (hNm.symm.trans (hU.1.2 2 _ rfl).2)
  have hgo := h p e R s m args below meth c H1 locs ls (cells + 1) (slots + n) n0 QQ hF hU ⟨r1, r2, r3, r4, r5⟩ ha hh hK (by show _ = σ.2.2.2 + 1; omega) (by show _ = g_sz (σ.2.2.2 + 1); omega) (g_Wk_new hW (by omega) ?_ (by rw [z1, hsz]) (fun q hq => o1 q (by rw [← hsz]; exact hq))) ⟨Nat.le_trans hS.1 (by omega), fun q h1 h2 => (o1 q (by have := hS.1; omega)).trans (hS.2.1 q h1 h2), hS.2.2⟩ hL
  · refine W.eq ?_ hgo
    show F0 m (pc + 2) ls _ = F0 m (pc + 2) ls (g_tr G (.ref σ.2.2.2) :: S.map (g_tr G))
    rw [g_tr_own (show σ.2.2.2 < 1000 by omega)]
  · rw [g_en_arr hs rfl]
    show H1[_]? = some (vp_cell _ _)
    rw [vp_cell_i, e1, hcA]
    have hz : (g_nw σ).1 σ.2.2.2 = fun _ => 0 := by funext b; simp [g_nw]
    rw [hz]
    rcases (show t = 0 ∨ t = 1 ∨ t = 2 by omega) with rfl | rfl | rfl <;> rfl
/-- a copy from a row of ints into one (the same, too) -/
theorem cz_acopy {idx k0 k1 m0 m1 a b n : Nat} {x y z : Int32} (hd : decode M.2.1 pc = .ok (.invokestatic idx, 3)) (hw : Cond.methodLink M.1.cls idx arraycopyName ∈ gw) (hw2 : Cond.native arraycopyName ∈ gw ∧ Cond.static arraycopyName ∈ gw ∧ Cond.initialized "java/lang/System" ∈ gw) (hk0 : k0 < σ.2.2.2) (hk1 : k1 < σ.2.2.2) (hs0 : g_sh k0 = .inl (0, m0)) (hs1 : g_sh k1 = .inl (0, m1)) (hx : x.toInt = (a : Int)) (hy : y.toInt = (b : Int)) (hz : z.toInt = (n : Int)) (h0 : a + n ≤ m0) (h1 : b + n ≤ m1) (hN : σ.2.2.2 = 42) (hf : 1 ≤ M.2.2.2.2.1) (hl : (S.map fun v => v.category).sum + 18 ≤ M.2.2.2.2.2) (hp : pc + 3 = pc') (h : Cc G M nE pc' L S (g_pr σ k1 (va_cpy (σ.1 k0) (σ.1 k1) a b n)) Q) : Cc G M nE pc L (.int z :: .int y :: .ref k1 :: .int x :: .ref k0 :: S) σ Q := by
  subst hp
  intro p e R s m args below meth c H locs ls cells slots n0 QQ hF hU hR ha hh hK hc1 hc2 hW hS hL
  refine W.eq (g2 := F0 m pc ls (.int z :: .int y :: .ref (g_a G + k1) :: .int x :: .ref (g_a G + k0) :: S.map (g_tr G))) (by simp only [List.map_cons]; rw [g_tr_own (Nat.lt_of_lt_of_le hk0 hW.2.2.2), g_tr_own (Nat.lt_of_lt_of_le hk1 hW.2.2.2)]; rfl) ?_
  have ex : x.toNatClampNeg = a := by show x.toInt.toNat = a; omega
  have ey : y.toNatClampNeg = b := by show y.toInt.toNat = b; omega
  have ez : z.toNatClampNeg = n := by show z.toInt.toNat = n; omega
  have ng : ∀ {u : Int32} {i : Nat}, u.toInt = (i : Int) → ¬ u < 0 := fun {u i} q => by rw [Int32.lt_iff_toInt_lt]; show ¬ u.toInt < 0; omega
  obtain ⟨r1, r2, r3, r4, r5⟩ := id hR
  have hcat : ((S.map (g_tr G)).map fun v => v.category) = S.map fun v => v.category := by
    rw [List.map_map]; congr 1; funext v; exact g_tr_cat G v
  refine va_copyi (H0 := s.heap) (A := g_A G) hF.1 hF.2.1 (hF.2.2.1.trans hL.1.symm) hF.2.2.2.1 (hF.2.2.2.2.1 _ hw) (hF.2.2.2.2.1 _ hw2.1) (hF.2.2.2.2.1 _ hw2.2.1) (hF.2.2.2.2.1 _ hw2.2.2) hU.1 hW.1 g_ws_D hS k0 k1 0 0 (ty := .int) (g_ws_r hk0 hs0) (g_ws_r hk1 hs1) rfl rfl rfl (ng hx) (ng hy) (ng hz) (by rw [ex, ez]; exact h0) (by rw [ey, ez]; exact h1) (fun _ _ => rfl) (Nat.le_trans hf r1) ?_ hd fun H1 locs1 hP1 hD1 hS1 => ?_
  · rw [hcat]
    exact Nat.le_trans hl r2
  · rw [ex, ey, ez] at hP1
    refine h p e R s m args below meth c H1 locs1 ls cells slots n0 QQ hF hU hR ha hh hK hc1 hc2 ⟨?_, fun q => absurd q (by show ¬ σ.2.2.2 < 42; omega), fun q hq => ?_, hW.2.2.2⟩ hS1 hL
    · rw [← g_ws_set (G := G) (σ := σ) (σ' := g_pr σ k1 (va_cpy (σ.1 k0) (σ.1 k1) a b n)) (k := k1) hk1 rfl (g_en_arr (f := va_cpy (σ.1 k0) (σ.1 k1) a b n) hs1 (by simp [g_pr])) (fun i hi => g_en_pr hi)]
      exact hP1
    · rw [hS1.2.1 q (by omega) (by show ¬ g_a G ≤ q; omega)]
      exact hh q hq
end
end
section
/-! calls: a body's end is a contract; links; the rule of a call -/
def g_ok (M : MD) : Prop := plainFor M.1 = true ∧ Cond.code M.1 M.2.1 M.2.2.1 M.2.2.2.1 ∈ gw ∧ Cond.initialized M.1.cls ∈ gw ∧ M.1.cls ≠ "java/lang/invoke/MethodHandle" ∧ M.1.cls ≠ "java/lang/invoke/VarHandle"
def g_wm (M : MD) : List Cond := Cond.code M.1 M.2.1 M.2.2.1 M.2.2.2.1 :: gw
def g_rm (M : MD) (mc ms : Nat) : Room := { frames := M.2.2.2.2.1, cells := mc, slots := ms, locals := M.2.2.2.2.2 }
def g_Pc (G : Wd) (σ : St) (vs : List Value) : Array Value → State → Prop := va_Pc (vs.map (g_tr G)) (fun U => g_Uw G U ∧ g_Wk G σ U.heap ∧ g_a G ≤ U.heap.size)
def g_Qc (G : Wd) (nE : Nat) (Q : Option Value → St → Prop) : Array Value → State → Outcome → State → Prop := fun _ st o t => (∃ (v : Option Value) (σ' : St), o = .returned (v.map (g_tr G)) ∧ Q v σ' ∧ σ'.2.2.2 = nE ∧ g_Wk G σ' t.heap) ∧ va_F (g_A G) st t
theorem g_wm_good {M : MD} (h : g_ok M) : GoodIn gw (g_wm M) := gw_goodc (fun w hw => (List.mem_cons.mp hw).elim (fun e => e ▸ h.2.1) (fun q => q))
theorem g_ent_at (G : Wd) : ∀ (vs : List Value) (n b i : Nat) (v : Value), (g_ent n vs)[i]? = some (some v) → (b + i, g_tr G v) ∈ lv_args b (vs.map (g_tr G)) := by
  intro vs
  induction vs with
  | nil =>
    intro n b i v h
    rw [g_ent, List.getElem?_replicate] at h
    split at h <;> cases h
  | cons a l ih =>
    intro n b i v h
    rw [List.map_cons, lv_args]
    rcases lv_cat a with hc | hc
    · have e : g_ent n (a :: l) = some a :: g_ent (n - 1) l := by rw [g_ent, hc]; rfl
      rw [e] at h
      rw [if_neg (by rw [g_tr_cat, hc]; decide)]
      cases i with
      | zero => cases h; exact List.mem_cons_self
      | succ i =>
        rw [List.getElem?_cons_succ] at h
        have := ih _ (b + 1) i v h
        rw [show b + (i + 1) = b + 1 + i by omega]
        exact List.mem_cons_of_mem _ this
    · have e : g_ent n (a :: l) = some a :: none :: g_ent (n - 2) l := by rw [g_ent, hc]; rfl
      rw [e] at h
      rw [if_pos (by rw [g_tr_cat, hc])]
      match i, h with
      | 0, h => cases h; exact List.mem_cons_self
      | 1, h => cases h
      | i + 2, h =>
        rw [List.getElem?_cons_succ, List.getElem?_cons_succ] at h
        have := ih _ (b + 2) i v h
        rw [show b + (i + 2) = b + 2 + i by omega]
        exact List.mem_cons_of_mem _ this
theorem g_LO_ent {G : Wd} {ls : Array Slot} {n : Nat} {vs : List Value} (h : lv_has ls n (lv_args 0 (vs.map (g_tr G)))) : g_LO G ls n (g_ent n vs) :=
  ⟨h.1, h.2.1, fun i v hi => h.2.2 (i, g_tr G v) (by have := g_ent_at G vs n 0 i v hi; rwa [Nat.zero_add] at this)⟩
theorem g_lgl (G : Wd) (vs : List Value) : (lg_sl (vs.map (g_tr G))).length = (lg_sl vs).length := by
  induction vs with
  | nil => rfl
  | cons a l ih =>
    simp only [lg_sl, List.map_cons, List.flatMap_cons, List.length_append, g_tr_cat] at ih ⊢
    rw [ih]
    by_cases h : a.category = 2 <;> simp [h]
/-- a method of a class that may have natives: this one is none -/
theorem g_ofW {l : Launch} {y : MethodName} {ws ws' : List Cond} {rm : Room} {Pc : Array Value → State → Prop} {Qc : Array Value → State → Outcome → State → Prop} {mc ms : Nat} {free : Addr → Prop} {cc : ByteArray} {maxL : Nat} {ret : Option FieldType} (hy : plainFor y = true) (hw : ws = Cond.code y cc maxL ret :: ws')
    (body : ∀ p e s m args below meth c s₁, BodyLoose p l y (headSpec ws rm) cc maxL ret e s m args below meth c s₁ → c.maxLocals = maxL → Pc args s →
      W p l e (headSpec ws rm).room s m args below meth c s.heap [] 0 0 (MQ below Qc args s mc ms free) (entryFrame m args maxL)) : Met l y ws rm Pc Qc mc ms free := by
  refine MetFree.of_bodySF (code := cc) (maxLocals := maxL) (ret := ret) hy (fun args s m h hn => ?_) (fun p e s m args below meth c s₁ B hml hP _ => ?_)
  · obtain ⟨meth, c, h1, h2, h3, h4, h5, h6, -, -⟩ := Cond.code_spec hn (atoms_spec (ws := ws) h _ (by rw [hw]; exact List.mem_cons_self))
    exact ⟨meth, c, h1, h2, h3, h4, h5, h6⟩
  · obtain ⟨t, a1, o, b1, b2, b3⟩ := body p e s m args below meth c s₁ B hml hP s₁ (by rw [B.state]; rfl) (Stand.of_body B)
    exact ⟨t, o, a1, b1, b2, ⟨b3.1, b3.2⟩⟩
/-- A BODY IS A CONTRACT -/
theorem g_met {G : Wd} {M : MD} {nE : Nat} {vs : List Value} {σ : St} {Q : Option Value → St → Prop} (hok : g_ok M) (hlen : (lg_sl vs).length ≤ M.2.2.1) (hle : σ.2.2.2 ≤ nE) (h : Cc G M nE 0 (g_ent M.2.2.1 vs) [] σ Q) : Met (g_l G) M.1 (g_wm M) (g_rm M (nE - σ.2.2.2) (g_sz nE - g_sz σ.2.2.2)) (g_Pc G σ vs) (g_Qc G nE Q) (nE - σ.2.2.2) (g_sz nE - g_sz σ.2.2.2) (g_A G) := by
  refine g_ofW (cc := M.2.1) (maxL := M.2.2.1) (ret := M.2.2.2.1) hok.1 rfl ?_
  intro p e s m args below meth c s₁ B hml hv
  obtain ⟨rfl, hU, hW, ha⟩ := hv
  have hts := atoms_spec (ws := g_wm M) B.pre
  have hown : s.vm.findClass M.1.cls = some m.cls := findClass_of_methodNamed B.named
  have hin : meth.name = M.1.name := (name_of_methodNamed B.named B.method).1
  have hl := lv_entry (vs.map (g_tr G)) (n := M.2.2.1) (by rw [g_lgl]; exact hlen)
  have hlocks := B.notSynchronized
  have hsz := g_sz_le hle
  rw [lg_entry_eq]
  refine h p e _ s m _ below meth c s.heap [] _ 0 0 σ.2.2.2 _ ⟨B.exec, B.bytes, hml, hown, fun w hw => hts w (List.mem_cons_of_mem _ hw), B.returns, B.notSynchronized, hin⟩ hU ⟨Nat.le_refl _, Nat.le_refl _, ?_, ?_, hle⟩ ha hW.2.2.1 ?_ (Nat.zero_add _) (Nat.zero_add _) hW va_S.rf (g_LO_ent hl)
  · show nE ≤ (nE - σ.2.2.2) + σ.2.2.2; omega
  · show g_sz nE ≤ (g_sz nE - g_sz σ.2.2.2) + g_sz σ.2.2.2; omega
  · intro v σ' H' locs' pc' ls' hq hn hW' hS' hd hr
    have hfree : ∀ q ∈ locs', g_A G q.base := hS'.2.2
    have hQ : ∀ t : State, t.heap = H' → s.WarmedH t.vm → g_Qc G nE Q (vs.map (g_tr G)).toArray s (.returned (v.map (g_tr G))) t := fun t ht _ => ⟨⟨v, σ', rfl, hq, hn, by rw [ht]; exact hW'⟩, hS'.F ht⟩
    match v, hd, hr, hQ with
    | none, hd, hr, hQ => exact W.vret B.exec B.bytes (B.returns.trans hr) hQ hfree hd
    | some (.int z), hd, hr, hQ =>
      obtain ⟨ty, h1, h2⟩ := hr
      exact W.zret B.exec B.bytes (B.returns.trans h1) h2 hQ hfree hd
    | some (.long z), hd, hr, hQ => exact W.lret B.exec B.bytes (B.returns.trans hr) hQ hfree hd
    | some (.ref z), hd, hr, hQ =>
      obtain ⟨n, h1⟩ := hr
      exact W.aret B.exec B.bytes (B.returns.trans h1) (Or.inl ⟨n, rfl⟩) (Or.inr ⟨_, rfl⟩) hQ hfree hd
theorem g_blind {G : Wd} {σ : St} {vs : List Value} : FrameBlind (g_Pc G σ vs) := fun a U g mk q => ⟨q.1, g_Uw.same (s := U) rfl q.2.1, q.2.2.1, q.2.2.2⟩
/-- a static call -/
def g_LkS (own : String) (ins : Instr) (n : Nat) (M' : MD) : Prop :=
  ∀ (p : Program) (l : Launch) (e : Env) (R : Room) (s : State) (m : MethodId) (args : Array Value) (below : List Frame) (meth : Method) (c : Code) (cc : ByteArray) (nL : Nat) (H : Heap) (locs : List Loc) (cells slots mc ms : Nat) (Pc : Array Value → State → Prop) (Qc : Array Value → State → Outcome → State → Prop) (free : Addr → Prop) (g : JFrame) (As rest : List Value),
    CallFix p m c cc nL s args gw own → (∀ w ∈ nw, va_Nw w s) → Met l M'.1 (g_wm M') (g_rm M' mc ms) Pc Qc mc ms free → M'.2.2.2.2.1 + 1 ≤ R.frames → 8 + (M'.2.2.1 + 11) + M'.2.2.2.2.2 ≤ R.locals → PreS s H Pc As → g.method = m → As.length = n → g.locals.size = nL → g.stack = As.reverse ++ rest → 2 * g.monitorRoom + (rest.map fun v => v.category).sum ≤ 8 → decode cc g.pc = .ok (ins, 3) → cells + mc ≤ R.cells ∧ slots + ms ≤ R.slots →
    va_Run p l e R s m args below meth c H locs cells slots mc ms g rest (Qc As.toArray) free
/-- a call on an object of a class -/
def g_LkV (own : String) (ins : Instr) (C : String) (n : Nat) (M' : MD) : Prop :=
  ∀ (p : Program) (l : Launch) (e : Env) (R : Room) (s : State) (m : MethodId) (args : Array Value) (below : List Frame) (meth : Method) (c : Code) (cc : ByteArray) (nL : Nat) (H : Heap) (locs : List Loc) (cells slots mc ms : Nat) (Pc : Array Value → State → Prop) (Qc : Array Value → State → Outcome → State → Prop) (free : Addr → Prop) (g : JFrame) (b : Addr) (As rest : List Value) (D : va_G) (tys : List (ClassId × FieldType)),
    CallFix p m c cc nL s args gw own → (∀ w ∈ nw, va_Nw w s) → va_K D classes tys s → Met l M'.1 (g_wm M') (g_rm M' mc ms) Pc Qc mc ms free → M'.2.2.2.2.1 + 1 ≤ R.frames → 8 + (M'.2.2.1 + 11) + M'.2.2.2.2.2 ≤ R.locals → PreV s H C b Pc As → g.method = m → As.length = n → g.locals.size = nL → g.stack = As.reverse ++ .ref b :: rest → 2 * g.monitorRoom + (rest.map fun v => v.category).sum ≤ 8 → decode cc g.pc = .ok (ins, 3) → cells + mc ≤ R.cells ∧ slots + ms ≤ R.slots →
    va_Run p l e R s m args below meth c H locs cells slots mc ms g rest (Qc (Value.ref b :: As).toArray) free
def g_np (d : String) (n : Nat) : Prop := (parseMethodDescriptor d).map (fun q => q.parameters.length) = some n
theorem g_lkS {own : String} {idx n : Nat} {M' : MD} (hok : g_ok M') (w1 : Cond.methodLink own idx M'.1 ∈ gw) (w2 : Cond.static M'.1 ∈ gw) (hn : g_np M'.1.desc n) : g_LkS own (.invokestatic idx) n M' := by
  intro p l e R s m args below meth c cc nL H locs cells slots mc ms Pc Qc free g As rest S _ hM hf hl hp hg hA hs hst hW hd hr
  exact va_runS S hM ⟨callB_of n S.2.2.2.2 (g_wm_good hok) rfl rfl rfl (S.2.2.2.2 _ hok.2.2.1) (S.2.2.2.2 _ w1) ⟨hok.2.2.2.1, hok.2.2.2.2, hn⟩ ⟨hf, hl⟩, S.2.2.2.2 _ w2⟩ hp hg hA hs hst hW hd hr
theorem g_lkSN {own host : String} {idx n : Nat} {M' : MD} (hok : g_ok M') (w1 : Cond.methodLinkNest own idx M'.1 host ∈ nw) (w2 : Cond.static M'.1 ∈ gw) (hn : g_np M'.1.desc n) : g_LkS own (.invokestatic idx) n M' := by
  intro p l e R s m args below meth c cc nL H locs cells slots mc ms Pc Qc free g As rest S hN hM hf hl hp hg hA hs hst hW hd hr
  exact va_runSN S hM ⟨va_cnB n S.2.2.2.2 (g_wm_good hok) rfl rfl rfl (hN _ w1) (S.2.2.2.2 _ hok.2.2.1) ⟨hok.2.2.2.1, hok.2.2.2.2, hn⟩ ⟨hf, hl⟩, S.2.2.2.2 _ w2, trivial⟩ hp hg hA hs hst hW hd hr
theorem g_lkV {own C : String} {idx n : Nat} {M' : MD} (hok : g_ok M') (w1 : Cond.methodLink own idx M'.1 ∈ gw) (w2 : Cond.instanceMethod M'.1 ∈ gw) (w3 : Cond.selects C M'.1 M'.1 ∈ gw) (hn : g_np M'.1.desc n) : g_LkV own (.invokevirtual idx) C n M' := by
  intro p l e R s m args below meth c cc nL H locs cells slots mc ms Pc Qc free g b As rest D tys S _ _ hM hf hl hp hg hA hs hst hW hd hr
  exact va_runV S hM ⟨callB_of n S.2.2.2.2 (g_wm_good hok) rfl rfl rfl (S.2.2.2.2 _ hok.2.2.1) (S.2.2.2.2 _ w1) ⟨hok.2.2.2.1, hok.2.2.2.2, hn⟩ ⟨hf, hl⟩, S.2.2.2.2 _ w2, S.2.2.2.2 _ w3⟩ hp hg hA hs hst hW hd hr
theorem g_lkVN {own C host : String} {idx n : Nat} {M' : MD} (hok : g_ok M') (w1 : Cond.methodLinkNest own idx M'.1 host ∈ nw) (w2 : Cond.instanceMethod M'.1 ∈ gw) (w3 : Cond.selects C M'.1 M'.1 ∈ gw) (hn : g_np M'.1.desc n) : g_LkV own (.invokevirtual idx) C n M' := by
  intro p l e R s m args below meth c cc nL H locs cells slots mc ms Pc Qc free g b As rest D tys S hN _ hM hf hl hp hg hA hs hst hW hd hr
  exact va_runVN S hM ⟨va_cnB n S.2.2.2.2 (g_wm_good hok) rfl rfl rfl (hN _ w1) (S.2.2.2.2 _ hok.2.2.1) ⟨hok.2.2.2.1, hok.2.2.2.2, hn⟩ ⟨hf, hl⟩, S.2.2.2.2 _ w2, S.2.2.2.2 _ w3⟩ hp hg hA hs hst hW hd hr
theorem g_lkI {own C : String} {idx n : Nat} {M' : MD} (hok : g_ok M') (hret : M'.2.2.2.1 = none) (w1 : Cond.methodLink own idx M'.1 ∈ gw) (w2 : Cond.instanceMethod M'.1 ∈ gw) (hi : M'.1.name = "<init>") (hn : g_np M'.1.desc n) : g_LkV own (.invokespecial idx) C n M' := by
  intro p l e R s m args below meth c cc nL H locs cells slots mc ms Pc Qc free g b As rest D tys S _ _ hM hf hl hp hg hA hs hst hW hd hr
  exact va_runI S hM ⟨callB_of (bytes := M'.2.1) (maxL := M'.2.2.1) (ret := none) (ws' := gw) n S.2.2.2.2 (g_wm_good hok) (by rw [g_wm, hret]) rfl rfl (S.2.2.2.2 _ hok.2.2.1) (S.2.2.2.2 _ w1) ⟨hok.2.2.2.1, hok.2.2.2.2, hn⟩ ⟨hf, hl⟩, hi, S.2.2.2.2 _ w2⟩ ⟨hp.1, hp.2.2⟩ hg hA hs hst hW hd hr
theorem g_lkIN {own C host : String} {idx n : Nat} {M' : MD} (hok : g_ok M') (hret : M'.2.2.2.1 = none) (w1 : Cond.methodLinkNest own idx M'.1 host ∈ nw) (w2 : Cond.instanceMethod M'.1 ∈ gw) (hi : M'.1.name = "<init>") (hn : g_np M'.1.desc n) : g_LkV own (.invokespecial idx) C n M' := by
  intro p l e R s m args below meth c cc nL H locs cells slots mc ms Pc Qc free g b As rest D tys S hN _ hM hf hl hp hg hA hs hst hW hd hr
  exact va_runIN S hM ⟨va_cnB (bytes := M'.2.1) (maxL := M'.2.2.1) (ret := none) (ws' := gw) n S.2.2.2.2 (g_wm_good hok) (by rw [g_wm, hret]) rfl rfl (hN _ w1) (S.2.2.2.2 _ hok.2.2.1) ⟨hok.2.2.2.1, hok.2.2.2.2, hn⟩ ⟨hf, hl⟩, hi, S.2.2.2.2 _ w2⟩ ⟨hp.1, hp.2.2⟩ hg hA hs hst hW hd hr
/-- inherited: the method that the class's own table names is another class's -/
theorem g_lkU {own C owner : String} {idx n : Nat} {x : MethodName} {M' : MD} (hok : g_ok M') (hy : M'.1 = ⟨owner, x.name, x.desc⟩) (w1 : Cond.methodLink own idx x ∈ gw) (w2 : Cond.sameMethod x.cls owner x.name x.desc ∈ gw) (w3 : Cond.selects C x M'.1 ∈ gw) (w4 : Cond.instanceMethod M'.1 ∈ gw) (hn : g_np x.desc n) : g_LkV own (.invokevirtual idx) C n M' := by
  intro p l e R s m args below meth c cc nL H locs cells slots mc ms Pc Qc free g b As rest D tys S _ _ hM hf hl hp hg hA hs hst hW hd hr
  have ho : M'.1.cls = owner := by rw [hy]
  refine va_runU (owner := owner) (x := x) S hM (va_cwU n S.2.2.2.2 ?_ rfl rfl rfl hy ⟨by rw [← ho]; exact hok.2.2.2.1, by rw [← ho]; exact hok.2.2.2.2, hn⟩ ⟨hf, hl⟩) hp hg hA hs hst hW hd hr
  refine gw_goodc (fun w hw => ?_)
  unfold va_wsU at hw
  rcases List.mem_append.mp hw with hw | hw
  · simp only [List.mem_cons, List.not_mem_nil, or_false] at hw
    rcases hw with rfl | rfl | rfl | rfl | rfl
    · exact w1
    · exact w2
    · exact w3
    · exact w4
    · exact hok.2.2.1
  · exact (g_wm_good hok w hw).1
theorem g_lkO {own C owner : String} {idx n m0 : Nat} {b0 : ByteArray} {r0 : Option FieldType} {x : MethodName} {M' : MD} (hok : g_ok M') (h0 : Cond.code ⟨owner, x.name, x.desc⟩ b0 m0 r0 ∈ gw) (w1 : Cond.methodLink own idx x ∈ gw) (w2 : Cond.sameMethod x.cls owner x.name x.desc ∈ gw) (w5 : Cond.instanceMethod ⟨owner, x.name, x.desc⟩ ∈ gw) (w3 : Cond.selects C x M'.1 ∈ gw) (w4 : Cond.instanceMethod M'.1 ∈ gw) (ho : owner ≠ "java/lang/invoke/MethodHandle" ∧ owner ≠ "java/lang/invoke/VarHandle") (hn : g_np x.desc n) : g_LkV own (.invokevirtual idx) C n M' := by
  intro p l e R s m args below meth c cc nL H locs cells slots mc ms Pc Qc free g b As rest D tys S _ _ hM hf hl hp hg hA hs hst hW hd hr
  refine va_runU (owner := owner) (x := x) S hM (va_cwO n S.2.2.2.2 ?_ rfl rfl rfl h0 ⟨ho.1, ho.2, hn⟩ ⟨hf, hl⟩) hp hg hA hs hst hW hd hr
  refine gw_goodc (fun w hw => ?_)
  unfold va_wsO at hw
  rcases List.mem_append.mp hw with hw | hw
  · simp only [List.mem_cons, List.not_mem_nil, or_false] at hw
    rcases hw with rfl | rfl | rfl | rfl | rfl | rfl
    · exact w1
    · exact w2
    · exact w5
    · exact w3
    · exact w4
    · exact hok.2.2.1
  · exact (g_wm_good hok w hw).1
/-- super -/
theorem g_lkSU {own C : String} {idx n ci : Nat} {T : u_T} {N : Nat} {M' : MD} (hok : g_ok M') (hc : classes[ci]? = some (C, T, N)) (w1 : Cond.methodLink own idx M'.1 ∈ gw) (w2 : Cond.sameMethod M'.1.cls M'.1.cls M'.1.name M'.1.desc ∈ gw) (w3 : Cond.superclass own M'.1.cls ∈ gw) (w4 : Cond.instanceMethod M'.1 ∈ gw) (hi : M'.1.name ≠ "<init>") (hn : g_np M'.1.desc n) : g_LkV own (.invokespecial idx) C n M' := by
  intro p l e R s m args below meth c cc nL H locs cells slots mc ms Pc Qc free g b As rest D tys S _ hK hM hf hl hp hg hA hs hst hW hd hr
  refine va_runSU (hK.1 ci _ hc).2 S hM (va_cwSU n S.2.2.2.2 ?_ rfl rfl rfl ⟨hi, hn⟩ ⟨hf, hl⟩) hp hg hA hs hst hW hd hr
  refine gw_goodc (fun w hw => ?_)
  unfold va_wsSU at hw
  rcases List.mem_append.mp hw with hw | hw
  · simp only [List.mem_cons, List.not_mem_nil, or_false] at hw
    rcases hw with rfl | rfl | rfl | rfl | rfl
    · exact w1
    · exact w2
    · exact w3
    · exact w4
    · exact hok.2.2.1
  · exact (g_wm_good hok w hw).1
/-- who is called: a cell of the class C -/
def g_rc (G : Wd) (σ : St) (k : Nat) (C : String) : Prop := ∀ (s : State) (H : Heap) (locs : List Loc), g_Uw G s → g_Wk G σ H → va_S (g_A G) s.heap H locs → (∀ q : Nat, q < g_a G → s.heap[q]? = (g_H G)[q]?) → g_a G ≤ s.heap.size → ∃ cell : Cell, H[g_ad G k]? = some cell ∧ cell.vm.isStatics = false ∧ s.vm.findClass C = some cell.cls
theorem g_rc_own {G : Wd} {σ : St} {k ci : Nat} {C : String} {T : u_T} {N : Nat} (hk : k < σ.2.2.2) (hs : g_sh k = .inr ci) (hc : classes[ci]? = some (C, T, N)) : g_rc G σ k C := by
  intro s H locs hU hW hS _ _
  rw [g_ad_lt (Nat.lt_of_lt_of_le hk hW.2.2.2)]
  exact va_recv hU.1 hW.1 hc (g_ws_o hk hs)
section
variable {G : Wd} {M M' : MD} {nE nE' pc pc' n : Nat} {L L' : List (Option Value)} {S As S0 : List Value} {σ : St} {Q Q' : Option Value → St → Prop} {ins : Instr}
theorem g_catm (G : Wd) (S : List Value) : ((S.map (g_tr G)).map fun v => v.category) = S.map fun v => v.category := by
  rw [List.map_map]; congr 1; funext v; exact g_tr_cat G v
/-- behind a call -/
theorem g_back {p : Program} {e : Env} {R : Room} {s : State} {m : MethodId} {args : Array Value} {below : List Frame} {meth : Method} {c : Code} {H : Heap} {locs : List Loc} {cells slots mc ms : Nat} {QQ : State → Prop} {ls : Array Slot} {st0 rest : List Value} {a : Array Value}
    (hr : va_Run p (g_l G) e R s m args below meth c H locs cells slots mc ms (F0 m pc ls st0) rest (g_Qc G nE' Q' a) (g_A G)) (hS : va_S (g_A G) s.heap H locs)
    (kk : ∀ (v : Option Value) (τ : St) (H1 : Heap) (locs1 : List Loc), Q' v τ → τ.2.2.2 = nE' → g_Wk G τ H1 → va_S (g_A G) s.heap H1 locs1 → W p (g_l G) e R s m args below meth c H1 locs1 (cells + mc) (slots + ms) QQ (F0 m (pc + 3) ls ((v.map (g_tr G)).toList ++ rest))) : W p (g_l G) e R s m args below meth c H locs cells slots QQ (F0 m pc ls st0) := by
  intro T hT X
  obtain ⟨v, st₀, t, T', Lc, h0, X', hLc, e1, e2, ⟨⟨w, τ, hv, hq, hn, hb⟩, hz, hk⟩, st⟩ := hr T hT X
  cases hv
  rw [h0] at hz hk
  obtain ⟨t2, a1, b1⟩ := kk w τ T'.heap (locs ++ Lc) hq hn (by rw [e1]; exact hb)
    ⟨Nat.le_trans hS.1 (by rw [e1]; exact hz), fun q h1 h2 => by rw [e1, hk q (Nat.lt_of_lt_of_le h1 hS.1) h2]; exact hS.2.1 q h1 h2, fun q hq => by
      rcases List.mem_append.mp hq with h | h
      · exact hS.2.2 q h
      · exact hLc q h⟩ T' rfl X'
  exact ⟨t2, st t2 a1, b1⟩
theorem cz_callS (hd : decode M.2.1 pc = .ok (ins, 3)) (hL : g_LkS M.1.cls ins n M') (hok : g_ok M') (hn : As.length = n) (hst : As.reverse ++ S = S0) (hlen : (lg_sl As).length ≤ M'.2.2.1) (hcat : (S.map fun v => v.category).sum ≤ 8) (hrm : M'.2.2.2.2.1 + 1 ≤ M.2.2.2.2.1 ∧ 8 + (M'.2.2.1 + 11) + M'.2.2.2.2.2 ≤ M.2.2.2.2.2) (hN : σ.2.2.2 ≤ nE' ∧ nE' ≤ nE) (hp : pc + 3 = pc') (hM : Cc G M' nE' 0 (g_ent M'.2.2.1 As) [] σ Q') (h : ∀ v τ, Q' v τ → τ.2.2.2 = nE' → Cc G M nE pc' L (v.toList ++ S) τ Q) : Cc G M nE pc L S0 σ Q := by
  subst hp; subst hst
  intro p e R s m args below meth c H locs ls cells slots n0 QQ hF hU hR ha hh hK hc1 hc2 hW hS hLo
  obtain ⟨r1, r2, r3, r4, r5⟩ := id hR
  have hz1 := g_sz_le hN.1
  have hz2 := g_sz_le hN.2
  have hmet := g_met hok hlen hN.1 hM
  have hrun := hL p (g_l G) e R s m args below meth c M.2.1 M.2.2.1 H locs cells slots (nE' - σ.2.2.2) (g_sz nE' - g_sz σ.2.2.2) _ _ _ (F0 m pc ls ((As.reverse ++ S).map (g_tr G))) (As.map (g_tr G)) (S.map (g_tr G)) ⟨hF.1, hF.2.1, hF.2.2.1, hF.2.2.2.1, hF.2.2.2.2.1⟩ hU.2.1 hmet (by omega) (by omega) ⟨g_blind, fun U hUh hWm => ⟨rfl, hU.warm hWm, by rw [hUh]; exact hW, by rw [hUh]; exact Nat.le_trans ha hS.1⟩⟩ rfl (by rw [List.length_map]; exact hn) hLo.1 (by show List.map _ _ = _; rw [List.map_append, List.map_reverse]) (by rw [g_catm]; show 2 * 0 + _ ≤ 8; omega) hd (by omega)
  refine g_back hrun hS (fun v τ H1 locs1 hq hn hW1 hS1 => ?_)
  have hgo := h v τ hq hn p e R s m args below meth c H1 locs1 ls (cells + (nE' - σ.2.2.2)) (slots + (g_sz nE' - g_sz σ.2.2.2)) n0 QQ hF hU hR ha hh hK (by omega) (by rw [hn]; omega) hW1 hS1 hLo
  refine W.eq ?_ hgo
  rw [List.map_append]
  cases v <;> rfl
theorem cz_callV {k : Nat} {C : String} (hd : decode M.2.1 pc = .ok (ins, 3)) (hL : g_LkV M.1.cls ins C n M') (hok : g_ok M') (hrc : g_rc G σ k C) (hn : As.length = n) (hst : As.reverse ++ .ref k :: S = S0) (hlen : (lg_sl (.ref k :: As)).length ≤ M'.2.2.1) (hcat : (S.map fun v => v.category).sum ≤ 8) (hrm : M'.2.2.2.2.1 + 1 ≤ M.2.2.2.2.1 ∧ 8 + (M'.2.2.1 + 11) + M'.2.2.2.2.2 ≤ M.2.2.2.2.2) (hN : σ.2.2.2 ≤ nE' ∧ nE' ≤ nE) (hp : pc + 3 = pc') (hM : Cc G M' nE' 0 (g_ent M'.2.2.1 (.ref k :: As)) [] σ Q') (h : ∀ v τ, Q' v τ → τ.2.2.2 = nE' → Cc G M nE pc' L (v.toList ++ S) τ Q) : Cc G M nE pc L S0 σ Q := by
  subst hp; subst hst
  intro p e R s m args below meth c H locs ls cells slots n0 QQ hF hU hR ha hh hK hc1 hc2 hW hS hLo
  obtain ⟨r1, r2, r3, r4, r5⟩ := id hR
  have hz1 := g_sz_le hN.1
  have hz2 := g_sz_le hN.2
  have hmet := g_met hok hlen hN.1 hM
  have hrun := hL p (g_l G) e R s m args below meth c M.2.1 M.2.2.1 H locs cells slots (nE' - σ.2.2.2) (g_sz nE' - g_sz σ.2.2.2) _ _ _ (F0 m pc ls ((As.reverse ++ .ref k :: S).map (g_tr G))) (g_ad G k) (As.map (g_tr G)) (S.map (g_tr G)) (g_D G) (g_ty G) ⟨hF.1, hF.2.1, hF.2.2.1, hF.2.2.2.1, hF.2.2.2.2.1⟩ hU.2.1 hU.1 hmet (by omega) (by omega) ⟨g_blind, hrc s H locs hU hW hS hh ha, fun U hUh hWm => ⟨rfl, hU.warm hWm, by rw [hUh]; exact hW, by rw [hUh]; exact Nat.le_trans ha hS.1⟩⟩ rfl (by rw [List.length_map]; exact hn) hLo.1 (by show List.map _ _ = _; rw [List.map_append, List.map_reverse]; rfl) (by rw [g_catm]; show 2 * 0 + _ ≤ 8; omega) hd (by omega)
  refine g_back hrun hS (fun v τ H1 locs1 hq hn hW1 hS1 => ?_)
  have hgo := h v τ hq hn p e R s m args below meth c H1 locs1 ls (cells + (nE' - σ.2.2.2)) (slots + (g_sz nE' - g_sz σ.2.2.2)) n0 QQ hF hU hR ha hh hK (by omega) (by rw [hn]; omega) hW1 hS1 hLo
  refine W.eq ?_ hgo
  rw [List.map_append]
  cases v <;> rfl
/-- the constructor of Object -/
theorem cz_obj {idx k : Nat} (hd : decode M.2.1 pc = .ok (.invokespecial idx, 3)) (w1 : Cond.methodLink M.1.cls idx objectInit ∈ gw) (w2 : Cond.instanceMethod objectInit ∈ gw ∧ Cond.code objectInit ⟨#[0xb1]⟩ 1 none ∈ gw) (hf : 1 ≤ M.2.2.2.2.1) (hl : (S.map fun v => v.category).sum + 12 ≤ M.2.2.2.2.2) (hp : pc + 3 = pc') (h : Cc G M nE pc' L S σ Q) : Cc G M nE pc L (.ref k :: S) σ Q := by
  subst hp
  intro p e R s m args below meth c H locs ls cells slots n0 QQ hF hU hR ha hh hK hc1 hc2 hW hS hL
  refine W.objInit hF.1 hF.2.1 hF.2.2.2.1 (hF.2.2.2.2.1 _ w1) (hF.2.2.2.2.1 _ w2.1) (hF.2.2.2.2.1 _ w2.2) rfl (hL.1.trans hF.2.2.1.symm) (by show List.map _ _ = _; rw [List.map_cons]; rfl) hd (Nat.le_trans hf hR.1) (by rw [g_catm]; show 2 * 0 + _ + 12 ≤ _; have := hR.2.1; omega) (h p e R s m args below meth c H locs ls cells slots n0 QQ hF hU hR ha hh hK hc1 hc2 hW hS hL)
end
end
section
def mX0_init : MD := (yX0_init, cX0_init, 1, none, 1, 12)
def mX0_beginWith : MD := (yX0_beginWith, cX0_beginWith, 2, none, 1, 23)
def mX0_addBill : MD := (yX0_addBill, cX0_addBill, 5, none, 0, 0)
def mX0_kindAt : MD := (yX0_kindAt, cX0_kindAt, 2, (some .int), 1, 22)
def mX0_dayAt : MD := (yX0_dayAt, cX0_dayAt, 2, (some .int), 1, 22)
def mX0_poundsAt : MD := (yX0_poundsAt, cX0_poundsAt, 2, (some .int), 1, 22)
def mX0_billPart : MD := (yX0_billPart, cX0_billPart, 3, (some .int), 0, 0)
def mX0_addNote : MD := (yX0_addNote, cX0_addNote, 7, none, 0, 0)
def mX0_notePart : MD := (yX0_notePart, cX0_notePart, 3, (some .int), 0, 0)
def mX0_keepPast : MD := (yX0_keepPast, cX0_keepPast, 1, none, 1, 18)
def mX0_stepBack : MD := (yX0_stepBack, cX0_stepBack, 1, none, 1, 18)
def mX0_copyFrom : MD := (yX0_copyFrom, cX0_copyFrom, 2, none, 1, 18)
def mX1_init : MD := (yX1_init, cX1_init, 1, none, 2, 32)
def mX1_drawnOn : MD := (yX1_drawnOn, cX1_drawnOn, 3, (some .int), 1, 21)
def mX2_init : MD := (yX2_init, cX2_init, 1, none, 4, 72)
def mX2_numbered : MD := (yX2_numbered, cX2_numbered, 2, (some (.object "BeforeThird$Plain")), 0, 0)
def mX3_init : MD := (yX3_init, cX3_init, 1, none, 2, 32)
def mX3_drawnOn : MD := (yX3_drawnOn, cX3_drawnOn, 3, (some .int), 1, 21)
def mX4_init : MD := (yX4_init, cX4_init, 1, none, 5, 92)
def mX4_lay : MD := (yX4_lay, cX4_lay, 4, none, 4, 94)
def mX4_put : MD := (yX4_put, cX4_put, 9, none, 3, 66)
def mX4_drawMore : MD := (yX4_drawMore, cX4_drawMore, 3, none, 0, 0)
def mX4_run : MD := (yX4_run, cX4_run, 4, none, 0, 0)
def mX4_mostSpending : MD := (yX4_mostSpending, cX4_mostSpending, 5, (some .int), 1, 22)
def mX4_leastMore : MD := (yX4_leastMore, cX4_leastMore, 6, (some .int), 1, 21)
def mX5_init : MD := (yX5_init, cX5_init, 1, none, 3, 52)
def mX5_poundsIn : MD := (yX5_poundsIn, cX5_poundsIn, 3, (some .int), 1, 22)
def mX6_init : MD := (yX6_init, cX6_init, 1, none, 1, 12)
def mX6_drawnOn : MD := (yX6_drawnOn, cX6_drawnOn, 2, (some .int), 0, 0)
def mX6_poundsIn : MD := (yX6_poundsIn, cX6_poundsIn, 3, (some .int), 0, 0)
def mX7_init : MD := (yX7_init, cX7_init, 1, none, 2, 32)
def mX7_poundsIn : MD := (yX7_poundsIn, cX7_poundsIn, 3, (some .int), 1, 22)
def mX8_init : MD := (yX8_init, cX8_init, 1, none, 2, 32)
def mX8_addByte : MD := (yX8_addByte, cX8_addByte, 2, none, 0, 0)
def mX8_itemsOrFault : MD := (yX8_itemsOrFault, cX8_itemsOrFault, 2, (some .int), 6, 128)
def mX8_takeItem : MD := (yX8_takeItem, cX8_takeItem, 2, (some .boolean), 5, 107)
def mX8_takeAccount : MD := (yX8_takeAccount, cX8_takeAccount, 1, (some .boolean), 3, 65)
def mX8_takeBill : MD := (yX8_takeBill, cX8_takeBill, 3, (some .boolean), 3, 65)
def mX8_takeFigure : MD := (yX8_takeFigure, cX8_takeFigure, 3, (some .boolean), 3, 65)
def mX8_takeNumber : MD := (yX8_takeNumber, cX8_takeNumber, 3, (some .boolean), 2, 43)
def mX8_takeStop : MD := (yX8_takeStop, cX8_takeStop, 1, (some .boolean), 2, 43)
def mX8_spells : MD := (yX8_spells, cX8_spells, 3, (some .boolean), 4, 85)
def mX8_takeToken : MD := (yX8_takeToken, cX8_takeToken, 2, none, 1, 22)
def mX8_skipRun : MD := (yX8_skipRun, cX8_skipRun, 3, none, 0, 0)
def mX8_byteAt : MD := (yX8_byteAt, cX8_byteAt, 2, (some .int), 0, 0)
def mX9_init : MD := (yX9_init, cX9_init, 1, none, 3, 52)
def mX9_poundsIn : MD := (yX9_poundsIn, cX9_poundsIn, 3, (some .int), 2, 44)
def mX10_init : MD := (yX10_init, cX10_init, 1, none, 6, 112)
def mX10_account : MD := (yX10_account, cX10_account, 3, (some .int), 2, 44)
def mX10_bill : MD := (yX10_bill, cX10_bill, 4, (some .int), 2, 44)
def mX10_type : MD := (yX10_type, cX10_type, 2, (some .int), 1, 22)
def mX10_clear : MD := (yX10_clear, cX10_clear, 2, (some .int), 0, 0)
def mX10_read : MD := (yX10_read, cX10_read, 2, (some .int), 7, 149)
def mX10_days : MD := (yX10_days, cX10_days, 4, (some .int), 5, 110)
def mX10_spend : MD := (yX10_spend, cX10_spend, 3, (some .int), 2, 38)
def mX10_jar : MD := (yX10_jar, cX10_jar, 4, (some .int), 2, 38)
def mX10_undo : MD := (yX10_undo, cX10_undo, 1, (some .int), 2, 38)
def mX10_of : MD := (yX10_of, cX10_of, 4, (some .int), 3, 66)
def mX10_now : MD := (yX10_now, cX10_now, 2, (some .int), 1, 22)
def mX10_truly : MD := (yX10_truly, cX10_truly, 4, (some .int), 3, 66)
def mX10_then : MD := (yX10_then, cX10_then, 3, (some .int), 6, 138)
def mX10_low : MD := (yX10_low, cX10_low, 3, (some .int), 6, 138)
def mX10_below : MD := (yX10_below, cX10_below, 1, (some .int), 6, 138)
def mX10_most : MD := (yX10_most, cX10_most, 3, (some .int), 5, 117)
def mX10_need : MD := (yX10_need, cX10_need, 3, (some .int), 5, 117)
def mX10_move : MD := (yX10_move, cX10_move, 6, (some .int), 5, 117)
def mX10_monthly : MD := (yX10_monthly, cX10_monthly, 8, (some .int), 3, 66)
def mX10_dear : MD := (yX10_dear, cX10_dear, 5, (some .int), 5, 117)
def mX10_note : MD := (yX10_note, cX10_note, 7, (some .int), 1, 26)
def mX10_forget : MD := (yX10_forget, cX10_forget, 2, (some .int), 0, 0)
def mX10_is : MD := (yX10_is, cX10_is, 2, (some .int), 6, 135)
def mX10_look : MD := (yX10_look, cX10_look, 7, (some .int), 6, 135)
def mX10_two : MD := (yX10_two, cX10_two, 7, (some .int), 6, 139)
def mX10_boiler : MD := (yX10_boiler, cX10_boiler, 6, (some .int), 6, 138)
def mX10_years : MD := (yX10_years, cX10_years, 6, (some .int), 5, 117)
def mX10_part : MD := (yX10_part, cX10_part, 2, (some .long), 1, 22)
def mX10_image : MD := (yX10_image, cX10_image, 2, (some .int), 2, 39)
def mX10_from : MD := (yX10_from, cX10_from, 2, (some .int), 2, 39)
def mX10_status : MD := (yX10_status, cX10_status, 2, (some .int), 1, 21)
def mX10_count : MD := (yX10_count, cX10_count, 2, (some .int), 1, 21)
def mX10_digest : MD := (yX10_digest, cX10_digest, 3, (some .long), 1, 26)
def mX10_digestOf : MD := (yX10_digestOf, cX10_digestOf, 7, (some .long), 0, 0)
def mX10_within : MD := (yX10_within, cX10_within, 3, (some .boolean), 0, 0)
def mX10_isBill : MD := (yX10_isBill, cX10_isBill, 3, (some .boolean), 1, 22)
def mX10_isBillNumber : MD := (yX10_isBillNumber, cX10_isBillNumber, 2, (some .boolean), 0, 0)
def mX10_refuseBad : MD := (yX10_refuseBad, cX10_refuseBad, 2, (some .int), 0, 0)
def mX10_refuseNo : MD := (yX10_refuseNo, cX10_refuseNo, 1, (some .int), 0, 0)
def mX10_refuseFull : MD := (yX10_refuseFull, cX10_refuseFull, 1, (some .int), 0, 0)
def mX10_imageAt : MD := (yX10_imageAt, cX10_imageAt, 2, (some (.object "BeforeThird$Book")), 0, 0)
def mX10_passDay : MD := (yX10_passDay, cX10_passDay, 2, none, 4, 89)
def mX10_drawnToday : MD := (yX10_drawnToday, cX10_drawnToday, 4, (some .int), 3, 66)
def mX10_foresee : MD := (yX10_foresee, cX10_foresee, 2, none, 5, 117)
def mX10_chargesAsLaid : MD := (yX10_chargesAsLaid, cX10_chargesAsLaid, 1, (some .int), 1, 23)
def mX10_kindsThatFit : MD := (yX10_kindsThatFit, cX10_kindsThatFit, 4, (some .int), 5, 112)
def mX10_fitsNotes : MD := (yX10_fitsNotes, cX10_fitsNotes, 4, (some .boolean), 4, 89)
def mX10_fitsNote : MD := (yX10_fitsNote, cX10_fitsNote, 4, (some .boolean), 3, 66)
def mX10_mostAlike : MD := (yX10_mostAlike, cX10_mostAlike, 6, (some .int), 4, 95)
def mX10_alikeTo : MD := (yX10_alikeTo, cX10_alikeTo, 10, (some .int), 3, 66)
def mX10_hasBit : MD := (yX10_hasBit, cX10_hasBit, 2, (some .boolean), 0, 0)
def mX10_layChargesByExtra : MD := (yX10_layChargesByExtra, cX10_layChargesByExtra, 3, none, 5, 117)
def mX10_isBestAgainst : MD := (yX10_isBestAgainst, cX10_isBestAgainst, 5, (some .boolean), 2, 45)
def mX10_gainOf : MD := (yX10_gainOf, cX10_gainOf, 4, (some .int), 1, 22)
def mX10_setTenths : MD := (yX10_setTenths, cX10_setTenths, 4, none, 0, 0)
def mX11_init : MD := (yX11_init, cX11_init, 1, none, 1, 21)
def mX11_begin : MD := (yX11_begin, cX11_begin, 2, none, 0, 0)
def mX11_in : MD := (yX11_in, cX11_in, 3, (some .boolean), 0, 0)
def mX11_bad : MD := (yX11_bad, cX11_bad, 1, (some .int), 0, 0)
def mX11_badBy : MD := (yX11_badBy, cX11_badBy, 2, (some .int), 0, 0)
def mX11_no : MD := (yX11_no, cX11_no, 1, (some .int), 0, 0)
def mX11_full : MD := (yX11_full, cX11_full, 1, (some .int), 0, 0)
def mX11_isBill : MD := (yX11_isBill, cX11_isBill, 2, (some .boolean), 1, 22)
def mX11_bring : MD := (yX11_bring, cX11_bring, 6, none, 0, 0)
def mX11_account : MD := (yX11_account, cX11_account, 3, (some .int), 1, 22)
def mX11_addBill : MD := (yX11_addBill, cX11_addBill, 5, (some .int), 0, 0)
def mX11_bill : MD := (yX11_bill, cX11_bill, 4, (some .int), 1, 24)
def mX11_type : MD := (yX11_type, cX11_type, 2, (some .int), 1, 22)
def mX11_clear : MD := (yX11_clear, cX11_clear, 2, (some .int), 0, 0)
def mX11_kindAt : MD := (yX11_kindAt, cX11_kindAt, 3, (some .int), 1, 22)
def mX11_nextToken : MD := (yX11_nextToken, cX11_nextToken, 2, none, 2, 44)
def mX11_isNumber : MD := (yX11_isNumber, cX11_isNumber, 3, (some .boolean), 3, 65)
def mX11_isBillItem : MD := (yX11_isBillItem, cX11_isBillItem, 3, (some .boolean), 4, 87)
def mX11_isOne : MD := (yX11_isOne, cX11_isOne, 4, (some .boolean), 4, 87)
def mX11_isItem : MD := (yX11_isItem, cX11_isItem, 2, (some .boolean), 5, 110)
def mX11_isRead : MD := (yX11_isRead, cX11_isRead, 1, (some .boolean), 6, 131)
def mX11_read : MD := (yX11_read, cX11_read, 1, (some .int), 7, 151)
def mX11_dayBy : MD := (yX11_dayBy, cX11_dayBy, 2, (some .int), 0, 0)
def mX11_poundsBy : MD := (yX11_poundsBy, cX11_poundsBy, 3, (some .int), 0, 0)
def mX11_drawn : MD := (yX11_drawn, cX11_drawn, 2, (some .int), 1, 22)
def mX11_goBy : MD := (yX11_goBy, cX11_goBy, 3, none, 2, 43)
def mX11_keepBack : MD := (yX11_keepBack, cX11_keepBack, 1, none, 1, 25)
def mX11_days : MD := (yX11_days, cX11_days, 4, (some .int), 3, 65)
def mX11_spend : MD := (yX11_spend, cX11_spend, 3, (some .int), 2, 45)
def mX11_jar : MD := (yX11_jar, cX11_jar, 2, (some .int), 2, 45)
def mX11_undo : MD := (yX11_undo, cX11_undo, 1, (some .int), 1, 25)
def mX11_of : MD := (yX11_of, cX11_of, 3, (some .int), 2, 43)
def mX11_now : MD := (yX11_now, cX11_now, 2, (some .int), 1, 22)
def mX11_truly : MD := (yX11_truly, cX11_truly, 4, (some .int), 2, 43)
def mX11_copyNow : MD := (yX11_copyNow, cX11_copyNow, 1, none, 1, 25)
def mX11_chargesOn : MD := (yX11_chargesOn, cX11_chargesOn, 5, (some .int), 3, 65)
def mX11_then : MD := (yX11_then, cX11_then, 4, (some .int), 4, 89)
def mX11_low : MD := (yX11_low, cX11_low, 7, (some .int), 3, 65)
def mX11_belowIn : MD := (yX11_belowIn, cX11_belowIn, 4, (some .int), 3, 65)
def mX11_below : MD := (yX11_below, cX11_below, 1, (some .int), 4, 88)
def mX11_most : MD := (yX11_most, cX11_most, 3, (some .int), 4, 88)
def mX11_need : MD := (yX11_need, cX11_need, 3, (some .int), 4, 88)
def mX11_move : MD := (yX11_move, cX11_move, 6, (some .int), 4, 89)
def mX11_monthly : MD := (yX11_monthly, cX11_monthly, 4, (some .int), 2, 43)
def mX11_dear : MD := (yX11_dear, cX11_dear, 6, (some .int), 4, 89)
def mX11_note : MD := (yX11_note, cX11_note, 7, (some .int), 2, 43)
def mX11_forget : MD := (yX11_forget, cX11_forget, 2, (some .int), 0, 0)
def mX11_kindsOf : MD := (yX11_kindsOf, cX11_kindsOf, 8, (some .int), 1, 22)
def mX11_is : MD := (yX11_is, cX11_is, 2, (some .int), 2, 49)
def mX11_alikeBy : MD := (yX11_alikeBy, cX11_alikeBy, 8, (some .int), 1, 22)
def mX11_look : MD := (yX11_look, cX11_look, 9, (some .int), 2, 49)
def mX11_gets : MD := (yX11_gets, cX11_gets, 4, (some .int), 4, 89)
def mX11_rests : MD := (yX11_rests, cX11_rests, 6, (some .boolean), 5, 112)
def mX11_two : MD := (yX11_two, cX11_two, 5, (some .int), 6, 137)
def mX11_boiler : MD := (yX11_boiler, cX11_boiler, 12, (some .int), 4, 89)
def mX11_years : MD := (yX11_years, cX11_years, 6, (some .int), 3, 65)
def mX11_part : MD := (yX11_part, cX11_part, 2, (some .long), 1, 20)
def mX11_image : MD := (yX11_image, cX11_image, 2, (some .int), 1, 25)
def mX11_from : MD := (yX11_from, cX11_from, 2, (some .int), 1, 25)
def mX11_status : MD := (yX11_status, cX11_status, 2, (some .int), 1, 22)
def mX11_counted : MD := (yX11_counted, cX11_counted, 2, (some .int), 0, 0)
def mX11_count : MD := (yX11_count, cX11_count, 2, (some .int), 1, 22)
def mX11_digest : MD := (yX11_digest, cX11_digest, 4, (some .long), 1, 21)
def mJ9_floorDiv_7cf53 : MD := (yJ9_floorDiv_7cf53, cJ9_floorDiv_7cf53, 3, (some .int), 0, 0)
def mJ9_floorMod_7cf53 : MD := (yJ9_floorMod_7cf53, cJ9_floorMod_7cf53, 3, (some .int), 0, 0)
def mJ9_max_7cf53 : MD := (yJ9_max_7cf53, cJ9_max_7cf53, 2, (some .int), 0, 0)
def mJ9_min_7cf53 : MD := (yJ9_min_7cf53, cJ9_min_7cf53, 2, (some .int), 0, 0)
def mJ0_length_8abf5 : MD := (yJ0_length_8abf5, cJ0_length_8abf5, 1, (some .int), 1, 20)
def mJ0_charAt_5068e : MD := (yJ0_charAt_5068e, cJ0_charAt_5068e, 2, (some .char), 3, 64)
def mJ0_coder_7d493 : MD := (yJ0_coder_7d493, cJ0_coder_7d493, 1, (some .byte), 0, 0)
def mJ0_isLatin1_aae02 : MD := (yJ0_isLatin1_aae02, cJ0_isLatin1_aae02, 1, (some .boolean), 0, 0)
def mJ0_checkIndex_df160 : MD := (yJ0_checkIndex_df160, cJ0_checkIndex_df160, 2, none, 1, 22)
def mJ1_charAt_3b067 : MD := (yJ1_charAt_3b067, cJ1_charAt_3b067, 2, (some .char), 2, 43)
def mJ7_fill_53178 : MD := (yJ7_fill_53178, cJ7_fill_53178, 4, none, 0, 0)
def mJ3_checkIndex_8e157 : MD := (yJ3_checkIndex_8e157, cJ3_checkIndex_8e157, 3, (some .int), 0, 0)
def mL_law : MD := (yL_law, cL_law, 4, (some .boolean), 8, 171)
theorem q_0 : Cond.selects RX10 yX10_refuseBad yX10_refuseBad ∈ gw := gw_in 0 (by decide +kernel) (by decide +kernel)
theorem q_1 : Cond.selects RX10 yX10_refuseFull yX10_refuseFull ∈ gw := gw_in 1 (by decide +kernel) (by decide +kernel)
theorem q_2 : Cond.selects RX8 yX8_takeToken yX8_takeToken ∈ gw := gw_in 2 (by decide +kernel) (by decide +kernel)
theorem q_3 : Cond.selects RX8 yX8_skipRun yX8_skipRun ∈ gw := gw_in 3 (by decide +kernel) (by decide +kernel)
theorem q_4 : Cond.selects RX8 yX8_byteAt yX8_byteAt ∈ gw := gw_in 4 (by decide +kernel) (by decide +kernel)
theorem q_5 : Cond.selects RX8 yX8_takeItem yX8_takeItem ∈ gw := gw_in 5 (by decide +kernel) (by decide +kernel)
theorem q_6 : Cond.selects RX8 yX8_spells yX8_spells ∈ gw := gw_in 6 (by decide +kernel) (by decide +kernel)
theorem q_7 : Cond.selects RX8 yX8_takeAccount yX8_takeAccount ∈ gw := gw_in 7 (by decide +kernel) (by decide +kernel)
theorem q_8 : Cond.selects RX8 yX8_takeNumber yX8_takeNumber ∈ gw := gw_in 8 (by decide +kernel) (by decide +kernel)
theorem q_9 : Cond.selects RX8 yX8_takeStop yX8_takeStop ∈ gw := gw_in 9 (by decide +kernel) (by decide +kernel)
theorem q_10 : Cond.selects RX8 yX8_takeBill yX8_takeBill ∈ gw := gw_in 10 (by decide +kernel) (by decide +kernel)
theorem q_11 : Cond.selects RX8 yX8_takeFigure yX8_takeFigure ∈ gw := gw_in 11 (by decide +kernel) (by decide +kernel)
theorem q_12 : Cond.selects RX10 yX10_passDay yX10_passDay ∈ gw := gw_in 12 (by decide +kernel) (by decide +kernel)
theorem q_13 : Cond.selects RX10 yX10_drawnToday yX10_drawnToday ∈ gw := gw_in 13 (by decide +kernel) (by decide +kernel)
theorem q_14 : Cond.selects RX0 yX0_billPart yX0_billPart ∈ gw := gw_in 14 (by decide +kernel) (by decide +kernel)
theorem q_15 : Cond.selects RX10 yX10_refuseNo yX10_refuseNo ∈ gw := gw_in 15 (by decide +kernel) (by decide +kernel)
theorem q_16 : Cond.selects RX10 yX10_isBillNumber yX10_isBillNumber ∈ gw := gw_in 16 (by decide +kernel) (by decide +kernel)
theorem q_17 : Cond.selects RX10 yX10_foresee yX10_foresee ∈ gw := gw_in 17 (by decide +kernel) (by decide +kernel)
theorem q_18 : Cond.selects RX10 yX10_chargesAsLaid yX10_chargesAsLaid ∈ gw := gw_in 18 (by decide +kernel) (by decide +kernel)
theorem q_19 : Cond.selects RX10 yX10_kindsThatFit yX10_kindsThatFit ∈ gw := gw_in 19 (by decide +kernel) (by decide +kernel)
theorem q_20 : Cond.selects RX10 yX10_fitsNotes yX10_fitsNotes ∈ gw := gw_in 20 (by decide +kernel) (by decide +kernel)
theorem q_21 : Cond.selects RX10 yX10_fitsNote yX10_fitsNote ∈ gw := gw_in 21 (by decide +kernel) (by decide +kernel)
theorem q_22 : Cond.selects RX10 yX10_mostAlike yX10_mostAlike ∈ gw := gw_in 22 (by decide +kernel) (by decide +kernel)
theorem q_23 : Cond.selects RX10 yX10_alikeTo yX10_alikeTo ∈ gw := gw_in 23 (by decide +kernel) (by decide +kernel)
theorem q_24 : Cond.selects RX10 yX10_layChargesByExtra yX10_layChargesByExtra ∈ gw := gw_in 24 (by decide +kernel) (by decide +kernel)
theorem q_25 : Cond.selects RX10 yX10_isBestAgainst yX10_isBestAgainst ∈ gw := gw_in 25 (by decide +kernel) (by decide +kernel)
theorem q_26 : Cond.selects RX10 yX10_gainOf yX10_gainOf ∈ gw := gw_in 26 (by decide +kernel) (by decide +kernel)
theorem q_27 : Cond.selects RX10 yX10_setTenths yX10_setTenths ∈ gw := gw_in 27 (by decide +kernel) (by decide +kernel)
theorem q_28 : Cond.selects RX10 yX10_imageAt yX10_imageAt ∈ gw := gw_in 28 (by decide +kernel) (by decide +kernel)
theorem q_29 : Cond.selects RX11 yX11_bad yX11_bad ∈ gw := gw_in 29 (by decide +kernel) (by decide +kernel)
theorem q_30 : Cond.selects RX11 yX11_full yX11_full ∈ gw := gw_in 30 (by decide +kernel) (by decide +kernel)
theorem q_31 : Cond.selects RX11 yX11_isRead yX11_isRead ∈ gw := gw_in 31 (by decide +kernel) (by decide +kernel)
theorem q_32 : Cond.selects RX11 yX11_nextToken yX11_nextToken ∈ gw := gw_in 32 (by decide +kernel) (by decide +kernel)
theorem q_33 : Cond.selects RX11 yX11_kindAt yX11_kindAt ∈ gw := gw_in 33 (by decide +kernel) (by decide +kernel)
theorem q_34 : Cond.selects RX11 yX11_isItem yX11_isItem ∈ gw := gw_in 34 (by decide +kernel) (by decide +kernel)
theorem q_35 : Cond.selects RX11 yX11_isOne yX11_isOne ∈ gw := gw_in 35 (by decide +kernel) (by decide +kernel)
theorem q_36 : Cond.selects RX11 yX11_isNumber yX11_isNumber ∈ gw := gw_in 36 (by decide +kernel) (by decide +kernel)
theorem q_37 : Cond.selects RX11 yX11_isBillItem yX11_isBillItem ∈ gw := gw_in 37 (by decide +kernel) (by decide +kernel)
theorem q_38 : Cond.selects RX11 yX11_keepBack yX11_keepBack ∈ gw := gw_in 38 (by decide +kernel) (by decide +kernel)
theorem q_39 : Cond.selects RX11 yX11_no yX11_no ∈ gw := gw_in 39 (by decide +kernel) (by decide +kernel)
theorem q_40 : Cond.selects RX11 yX11_isBill yX11_isBill ∈ gw := gw_in 40 (by decide +kernel) (by decide +kernel)
theorem q_41 : Cond.selects RX11 yX11_badBy yX11_badBy ∈ gw := gw_in 41 (by decide +kernel) (by decide +kernel)
theorem q_42 : Cond.selects RX11 yX11_copyNow yX11_copyNow ∈ gw := gw_in 42 (by decide +kernel) (by decide +kernel)
theorem q_43 : Cond.selects RX11 yX11_chargesOn yX11_chargesOn ∈ gw := gw_in 43 (by decide +kernel) (by decide +kernel)
theorem q_44 : Cond.selects RX11 yX11_belowIn yX11_belowIn ∈ gw := gw_in 44 (by decide +kernel) (by decide +kernel)
theorem q_45 : Cond.selects RX11 yX11_kindsOf yX11_kindsOf ∈ gw := gw_in 45 (by decide +kernel) (by decide +kernel)
theorem q_46 : Cond.selects RX11 yX11_alikeBy yX11_alikeBy ∈ gw := gw_in 46 (by decide +kernel) (by decide +kernel)
theorem q_47 : Cond.selects RX11 yX11_rests yX11_rests ∈ gw := gw_in 47 (by decide +kernel) (by decide +kernel)
theorem q_48 : Cond.selects RX11 yX11_gets yX11_gets ∈ gw := gw_in 48 (by decide +kernel) (by decide +kernel)
theorem q_49 : Cond.selects RX11 yX11_counted yX11_counted ∈ gw := gw_in 49 (by decide +kernel) (by decide +kernel)
theorem q_51 : Cond.initialized RX10 ∈ gw := gw_in 51 (by decide +kernel) (by decide +kernel)
theorem q_52 : Cond.initialized RX0 ∈ gw := gw_in 52 (by decide +kernel) (by decide +kernel)
theorem q_53 : Cond.initialized RX8 ∈ gw := gw_in 53 (by decide +kernel) (by decide +kernel)
theorem q_54 : Cond.initialized RX4 ∈ gw := gw_in 54 (by decide +kernel) (by decide +kernel)
theorem q_55 : Cond.initialized RX2 ∈ gw := gw_in 55 (by decide +kernel) (by decide +kernel)
theorem q_56 : Cond.initialized RX6 ∈ gw := gw_in 56 (by decide +kernel) (by decide +kernel)
theorem q_57 : Cond.initialized RX3 ∈ gw := gw_in 57 (by decide +kernel) (by decide +kernel)
theorem q_58 : Cond.initialized RX7 ∈ gw := gw_in 58 (by decide +kernel) (by decide +kernel)
theorem q_59 : Cond.initialized RX1 ∈ gw := gw_in 59 (by decide +kernel) (by decide +kernel)
theorem q_60 : Cond.initialized RX9 ∈ gw := gw_in 60 (by decide +kernel) (by decide +kernel)
theorem q_61 : Cond.initialized RX5 ∈ gw := gw_in 61 (by decide +kernel) (by decide +kernel)
theorem q_62 : Cond.initialized RX11 ∈ gw := gw_in 62 (by decide +kernel) (by decide +kernel)
theorem q_63 : Cond.initialized RJ7 ∈ gw := gw_in 63 (by decide +kernel) (by decide +kernel)
theorem q_64 : Cond.initialized RJ0 ∈ gw := gw_in 64 (by decide +kernel) (by decide +kernel)
theorem q_65 : Cond.initialized RJ1 ∈ gw := gw_in 65 (by decide +kernel) (by decide +kernel)
theorem q_66 : Cond.initialized RJ3 ∈ gw := gw_in 66 (by decide +kernel) (by decide +kernel)
theorem q_68 : Cond.initialized RJ10 ∈ gw := gw_in 68 (by decide +kernel) (by decide +kernel)
theorem q_69 : Cond.initialized RJ9 ∈ gw := gw_in 69 (by decide +kernel) (by decide +kernel)
theorem q_70 : Cond.classLink RL 7 RX10 ∈ gw := gw_in 70 (by decide +kernel) (by decide +kernel)
theorem q_71 : Cond.instantiable RX10 13 ∈ gw := gw_in 71 (by decide +kernel) (by decide +kernel)
theorem q_72 : Cond.methodLink RL 9 yX10_init ∈ gw := gw_in 72 (by decide +kernel) (by decide +kernel)
theorem q_73 : Cond.instanceMethod yX10_init ∈ gw := gw_in 73 (by decide +kernel) (by decide +kernel)
theorem q_74 : Cond.code yX10_init cX10_init 1 none ∈ gw := gw_in 74 (by decide +kernel) (by decide +kernel)
theorem q_75 : Cond.methodLink RX10 1 (⟨"java/lang/Object", "<init>", "()V"⟩ : MethodName) ∈ gw := gw_in 75 (by decide +kernel) (by decide +kernel)
theorem q_76 : Cond.instanceMethod (⟨"java/lang/Object", "<init>", "()V"⟩ : MethodName) ∈ gw := gw_in 76 (by decide +kernel) (by decide +kernel)
theorem q_77 : Cond.code objectInit ⟨#[0xb1]⟩ 1 none ∈ gw := gw_in 77 (by decide +kernel) (by decide +kernel)
theorem q_78 : Cond.classLink RX10 7 RX0 ∈ gw := gw_in 78 (by decide +kernel) (by decide +kernel)
theorem q_79 : Cond.instantiable RX0 7 ∈ gw := gw_in 79 (by decide +kernel) (by decide +kernel)
theorem q_80 : Cond.methodLink RX10 9 yX0_init ∈ gw := gw_in 80 (by decide +kernel) (by decide +kernel)
theorem q_81 : Cond.instanceMethod yX0_init ∈ gw := gw_in 81 (by decide +kernel) (by decide +kernel)
theorem q_82 : Cond.code yX0_init cX0_init 1 none ∈ gw := gw_in 82 (by decide +kernel) (by decide +kernel)
theorem q_83 : Cond.methodLink RX0 3 (⟨"java/lang/Object", "<init>", "()V"⟩ : MethodName) ∈ gw := gw_in 83 (by decide +kernel) (by decide +kernel)
theorem q_84 : Cond.fieldLink RX0 9 RX0 "figures" "[I" ∈ gw := gw_in 84 (by decide +kernel) (by decide +kernel)
theorem q_85 : Cond.fieldLinkNest RX4 66 RX0 "figures" "[I" RX10 ∈ nw := nw_in 85 (by decide +kernel) (by decide +kernel)
theorem q_86 : Cond.fieldLinkNest RX8 75 RX0 "figures" "[I" RX10 ∈ nw := nw_in 86 (by decide +kernel) (by decide +kernel)
theorem q_87 : Cond.fieldLinkNest RX10 99 RX0 "figures" "[I" RX10 ∈ nw := nw_in 87 (by decide +kernel) (by decide +kernel)
theorem q_88 : Cond.fieldLink RX0 15 RX0 "bills" "[I" ∈ gw := gw_in 88 (by decide +kernel) (by decide +kernel)
theorem q_89 : Cond.fieldLinkNest RX10 242 RX0 "bills" "[I" RX10 ∈ nw := nw_in 89 (by decide +kernel) (by decide +kernel)
theorem q_90 : Cond.fieldLink RX0 18 RX0 "notes" "[I" ∈ gw := gw_in 90 (by decide +kernel) (by decide +kernel)
theorem q_91 : Cond.fieldLinkNest RX10 245 RX0 "notes" "[I" RX10 ∈ nw := nw_in 91 (by decide +kernel) (by decide +kernel)
theorem q_92 : Cond.fieldLink RX0 21 RX0 "past" "[I" ∈ gw := gw_in 92 (by decide +kernel) (by decide +kernel)
theorem q_93 : Cond.fieldLinkNest RX10 61 RX0 "billCount" "I" RX10 ∈ nw := nw_in 93 (by decide +kernel) (by decide +kernel)
theorem q_94 : Cond.fieldLink RX0 30 RX0 "billCount" "I" ∈ gw := gw_in 94 (by decide +kernel) (by decide +kernel)
theorem q_95 : Cond.fieldLinkNest RX4 41 RX0 "billCount" "I" RX10 ∈ nw := nw_in 95 (by decide +kernel) (by decide +kernel)
theorem q_96 : Cond.fieldLinkNest RX8 58 RX0 "billCount" "I" RX10 ∈ nw := nw_in 96 (by decide +kernel) (by decide +kernel)
theorem q_97 : Cond.fieldLink RX0 34 RX0 "noteCount" "I" ∈ gw := gw_in 97 (by decide +kernel) (by decide +kernel)
theorem q_98 : Cond.fieldLinkNest RX10 178 RX0 "noteCount" "I" RX10 ∈ nw := nw_in 98 (by decide +kernel) (by decide +kernel)
theorem q_99 : Cond.fieldLink RX0 37 RX0 "pastCount" "I" ∈ gw := gw_in 99 (by decide +kernel) (by decide +kernel)
theorem q_100 : Cond.fieldLinkNest RX10 108 RX0 "pastCount" "I" RX10 ∈ nw := nw_in 100 (by decide +kernel) (by decide +kernel)
theorem q_116 : Cond.arrayClass FieldType.int ∈ gw := gw_in 116 (by decide +kernel) (by decide +kernel)
theorem q_117 : Cond.classLink RX10 26 RX8 ∈ gw := gw_in 117 (by decide +kernel) (by decide +kernel)
theorem q_118 : Cond.instantiable RX8 7 ∈ gw := gw_in 118 (by decide +kernel) (by decide +kernel)
theorem q_119 : Cond.methodLinkNest RX10 28 yX8_init RX10 ∈ nw := nw_in 119 (by decide +kernel) (by decide +kernel)
theorem q_120 : Cond.instanceMethod yX8_init ∈ gw := gw_in 120 (by decide +kernel) (by decide +kernel)
theorem q_121 : Cond.code yX8_init cX8_init 1 none ∈ gw := gw_in 121 (by decide +kernel) (by decide +kernel)
theorem q_122 : Cond.methodLink RX8 3 (⟨"java/lang/Object", "<init>", "()V"⟩ : MethodName) ∈ gw := gw_in 122 (by decide +kernel) (by decide +kernel)
theorem q_123 : Cond.classLink RX8 15 RX0 ∈ gw := gw_in 123 (by decide +kernel) (by decide +kernel)
theorem q_124 : Cond.methodLink RX8 17 yX0_init ∈ gw := gw_in 124 (by decide +kernel) (by decide +kernel)
theorem q_125 : Cond.fieldLink RX8 9 RX8 "text" "[B" ∈ gw := gw_in 125 (by decide +kernel) (by decide +kernel)
theorem q_126 : Cond.fieldLink RX8 18 RX8 "draft" "LBeforeThird$Book;" ∈ gw := gw_in 126 (by decide +kernel) (by decide +kernel)
theorem q_127 : Cond.fieldLinkNest RX10 89 RX8 "draft" "LBeforeThird$Book;" RX10 ∈ nw := nw_in 127 (by decide +kernel) (by decide +kernel)
theorem q_128 : Cond.fieldLink RX8 22 RX8 "length" "I" ∈ gw := gw_in 128 (by decide +kernel) (by decide +kernel)
theorem q_129 : Cond.fieldLinkNest RX10 80 RX8 "length" "I" RX10 ∈ nw := nw_in 129 (by decide +kernel) (by decide +kernel)
theorem q_130 : Cond.fieldLink RX8 43 RX8 "start" "I" ∈ gw := gw_in 130 (by decide +kernel) (by decide +kernel)
theorem q_131 : Cond.fieldLink RX8 26 RX8 "next" "I" ∈ gw := gw_in 131 (by decide +kernel) (by decide +kernel)
theorem q_132 : Cond.fieldLink RX8 36 RX8 "sort" "I" ∈ gw := gw_in 132 (by decide +kernel) (by decide +kernel)
theorem q_133 : Cond.fieldLink RX8 79 RX8 "value" "I" ∈ gw := gw_in 133 (by decide +kernel) (by decide +kernel)
theorem q_149 : Cond.arrayClass FieldType.boolean ∈ gw := gw_in 149 (by decide +kernel) (by decide +kernel)
theorem q_150 : Cond.arrayClass FieldType.byte ∈ gw := gw_in 150 (by decide +kernel) (by decide +kernel)
theorem q_151 : Cond.classLink RX10 33 RX4 ∈ gw := gw_in 151 (by decide +kernel) (by decide +kernel)
theorem q_152 : Cond.instantiable RX4 8 ∈ gw := gw_in 152 (by decide +kernel) (by decide +kernel)
theorem q_153 : Cond.methodLinkNest RX10 35 yX4_init RX10 ∈ nw := nw_in 153 (by decide +kernel) (by decide +kernel)
theorem q_154 : Cond.instanceMethod yX4_init ∈ gw := gw_in 154 (by decide +kernel) (by decide +kernel)
theorem q_155 : Cond.code yX4_init cX4_init 1 none ∈ gw := gw_in 155 (by decide +kernel) (by decide +kernel)
theorem q_156 : Cond.methodLink RX4 3 (⟨"java/lang/Object", "<init>", "()V"⟩ : MethodName) ∈ gw := gw_in 156 (by decide +kernel) (by decide +kernel)
theorem q_157 : Cond.classLink RX4 9 RX2 ∈ gw := gw_in 157 (by decide +kernel) (by decide +kernel)
theorem q_158 : Cond.instantiable RX2 6 ∈ gw := gw_in 158 (by decide +kernel) (by decide +kernel)
theorem q_159 : Cond.methodLinkNest RX4 11 yX2_init RX10 ∈ nw := nw_in 159 (by decide +kernel) (by decide +kernel)
theorem q_160 : Cond.instanceMethod yX2_init ∈ gw := gw_in 160 (by decide +kernel) (by decide +kernel)
theorem q_161 : Cond.code yX2_init cX2_init 1 none ∈ gw := gw_in 161 (by decide +kernel) (by decide +kernel)
theorem q_162 : Cond.methodLink RX2 1 (⟨"java/lang/Object", "<init>", "()V"⟩ : MethodName) ∈ gw := gw_in 162 (by decide +kernel) (by decide +kernel)
theorem q_163 : Cond.classLink RX2 7 RX6 ∈ gw := gw_in 163 (by decide +kernel) (by decide +kernel)
theorem q_164 : Cond.instantiable RX6 0 ∈ gw := gw_in 164 (by decide +kernel) (by decide +kernel)
theorem q_165 : Cond.methodLinkNest RX2 9 yX6_init RX10 ∈ nw := nw_in 165 (by decide +kernel) (by decide +kernel)
theorem q_166 : Cond.instanceMethod yX6_init ∈ gw := gw_in 166 (by decide +kernel) (by decide +kernel)
theorem q_167 : Cond.code yX6_init cX6_init 1 none ∈ gw := gw_in 167 (by decide +kernel) (by decide +kernel)
theorem q_168 : Cond.methodLink RX6 1 (⟨"java/lang/Object", "<init>", "()V"⟩ : MethodName) ∈ gw := gw_in 168 (by decide +kernel) (by decide +kernel)
theorem q_170 : Cond.classLink RX2 16 RX3 ∈ gw := gw_in 170 (by decide +kernel) (by decide +kernel)
theorem q_171 : Cond.instantiable RX3 0 ∈ gw := gw_in 171 (by decide +kernel) (by decide +kernel)
theorem q_172 : Cond.methodLinkNest RX2 18 yX3_init RX10 ∈ nw := nw_in 172 (by decide +kernel) (by decide +kernel)
theorem q_173 : Cond.instanceMethod yX3_init ∈ gw := gw_in 173 (by decide +kernel) (by decide +kernel)
theorem q_174 : Cond.code yX3_init cX3_init 1 none ∈ gw := gw_in 174 (by decide +kernel) (by decide +kernel)
theorem q_175 : Cond.methodLinkNest RX3 3 yX6_init RX10 ∈ nw := nw_in 175 (by decide +kernel) (by decide +kernel)
theorem q_176 : Cond.superclass RX3 RX6 ∈ gw := gw_in 176 (by decide +kernel) (by decide +kernel)
theorem q_177 : Cond.classLink RX2 23 RX7 ∈ gw := gw_in 177 (by decide +kernel) (by decide +kernel)
theorem q_178 : Cond.instantiable RX7 0 ∈ gw := gw_in 178 (by decide +kernel) (by decide +kernel)
theorem q_179 : Cond.methodLinkNest RX2 25 yX7_init RX10 ∈ nw := nw_in 179 (by decide +kernel) (by decide +kernel)
theorem q_180 : Cond.instanceMethod yX7_init ∈ gw := gw_in 180 (by decide +kernel) (by decide +kernel)
theorem q_181 : Cond.code yX7_init cX7_init 1 none ∈ gw := gw_in 181 (by decide +kernel) (by decide +kernel)
theorem q_182 : Cond.methodLinkNest RX7 1 yX6_init RX10 ∈ nw := nw_in 182 (by decide +kernel) (by decide +kernel)
theorem q_183 : Cond.superclass RX7 RX6 ∈ gw := gw_in 183 (by decide +kernel) (by decide +kernel)
theorem q_184 : Cond.classLink RX2 30 RX1 ∈ gw := gw_in 184 (by decide +kernel) (by decide +kernel)
theorem q_185 : Cond.instantiable RX1 0 ∈ gw := gw_in 185 (by decide +kernel) (by decide +kernel)
theorem q_186 : Cond.methodLinkNest RX2 32 yX1_init RX10 ∈ nw := nw_in 186 (by decide +kernel) (by decide +kernel)
theorem q_187 : Cond.instanceMethod yX1_init ∈ gw := gw_in 187 (by decide +kernel) (by decide +kernel)
theorem q_188 : Cond.code yX1_init cX1_init 1 none ∈ gw := gw_in 188 (by decide +kernel) (by decide +kernel)
theorem q_189 : Cond.methodLinkNest RX1 3 yX6_init RX10 ∈ nw := nw_in 189 (by decide +kernel) (by decide +kernel)
theorem q_190 : Cond.superclass RX1 RX6 ∈ gw := gw_in 190 (by decide +kernel) (by decide +kernel)
theorem q_191 : Cond.classLink RX2 37 RX9 ∈ gw := gw_in 191 (by decide +kernel) (by decide +kernel)
theorem q_192 : Cond.instantiable RX9 0 ∈ gw := gw_in 192 (by decide +kernel) (by decide +kernel)
theorem q_193 : Cond.methodLinkNest RX2 39 yX9_init RX10 ∈ nw := nw_in 193 (by decide +kernel) (by decide +kernel)
theorem q_194 : Cond.instanceMethod yX9_init ∈ gw := gw_in 194 (by decide +kernel) (by decide +kernel)
theorem q_195 : Cond.code yX9_init cX9_init 1 none ∈ gw := gw_in 195 (by decide +kernel) (by decide +kernel)
theorem q_196 : Cond.methodLinkNest RX9 1 yX7_init RX10 ∈ nw := nw_in 196 (by decide +kernel) (by decide +kernel)
theorem q_197 : Cond.superclass RX9 RX7 ∈ gw := gw_in 197 (by decide +kernel) (by decide +kernel)
theorem q_198 : Cond.classLink RX2 44 RX5 ∈ gw := gw_in 198 (by decide +kernel) (by decide +kernel)
theorem q_199 : Cond.instantiable RX5 0 ∈ gw := gw_in 199 (by decide +kernel) (by decide +kernel)
theorem q_200 : Cond.methodLinkNest RX2 46 yX5_init RX10 ∈ nw := nw_in 200 (by decide +kernel) (by decide +kernel)
theorem q_201 : Cond.instanceMethod yX5_init ∈ gw := gw_in 201 (by decide +kernel) (by decide +kernel)
theorem q_202 : Cond.code yX5_init cX5_init 1 none ∈ gw := gw_in 202 (by decide +kernel) (by decide +kernel)
theorem q_203 : Cond.methodLinkNest RX5 1 yX3_init RX10 ∈ nw := nw_in 203 (by decide +kernel) (by decide +kernel)
theorem q_205 : Cond.fieldLink RX2 10 RX2 "plain" "LBeforeThird$Plain;" ∈ gw := gw_in 205 (by decide +kernel) (by decide +kernel)
theorem q_206 : Cond.fieldLink RX2 19 RX2 "moved" "LBeforeThird$Moved;" ∈ gw := gw_in 206 (by decide +kernel) (by decide +kernel)
theorem q_207 : Cond.fieldLink RX2 26 RX2 "quarter" "LBeforeThird$Quarter;" ∈ gw := gw_in 207 (by decide +kernel) (by decide +kernel)
theorem q_208 : Cond.fieldLink RX2 33 RX2 "card" "LBeforeThird$Card;" ∈ gw := gw_in 208 (by decide +kernel) (by decide +kernel)
theorem q_209 : Cond.fieldLink RX2 40 RX2 "yearly" "LBeforeThird$Yearly;" ∈ gw := gw_in 209 (by decide +kernel) (by decide +kernel)
theorem q_210 : Cond.fieldLink RX2 47 RX2 "pay" "LBeforeThird$Pay;" ∈ gw := gw_in 210 (by decide +kernel) (by decide +kernel)
theorem q_224 : Cond.fieldLink RX4 12 RX4 "kinds" "LBeforeThird$Kinds;" ∈ gw := gw_in 224 (by decide +kernel) (by decide +kernel)
theorem q_225 : Cond.fieldLinkNest RX10 40 RX4 "kinds" "LBeforeThird$Kinds;" RX10 ∈ nw := nw_in 225 (by decide +kernel) (by decide +kernel)
theorem q_226 : Cond.fieldLink RX4 18 RX4 "draws" "[I" ∈ gw := gw_in 226 (by decide +kernel) (by decide +kernel)
theorem q_227 : Cond.fieldLink RX4 31 RX4 "length" "I" ∈ gw := gw_in 227 (by decide +kernel) (by decide +kernel)
theorem q_228 : Cond.fieldLink RX4 78 RX4 "left" "I" ∈ gw := gw_in 228 (by decide +kernel) (by decide +kernel)
theorem q_229 : Cond.fieldLinkNest RX10 146 RX4 "left" "I" RX10 ∈ nw := nw_in 229 (by decide +kernel) (by decide +kernel)
theorem q_230 : Cond.fieldLink RX4 81 RX4 "charges" "I" ∈ gw := gw_in 230 (by decide +kernel) (by decide +kernel)
theorem q_231 : Cond.fieldLinkNest RX10 149 RX4 "charges" "I" RX10 ∈ nw := nw_in 231 (by decide +kernel) (by decide +kernel)
theorem q_232 : Cond.fieldLink RX4 84 RX4 "least" "I" ∈ gw := gw_in 232 (by decide +kernel) (by decide +kernel)
theorem q_233 : Cond.fieldLinkNest RX10 152 RX4 "least" "I" RX10 ∈ nw := nw_in 233 (by decide +kernel) (by decide +kernel)
theorem q_234 : Cond.fieldLink RX4 87 RX4 "leastIn" "I" ∈ gw := gw_in 234 (by decide +kernel) (by decide +kernel)
theorem q_235 : Cond.fieldLinkNest RX10 155 RX4 "leastIn" "I" RX10 ∈ nw := nw_in 235 (by decide +kernel) (by decide +kernel)
theorem q_236 : Cond.fieldLink RX4 90 RX4 "belowIn" "I" ∈ gw := gw_in 236 (by decide +kernel) (by decide +kernel)
theorem q_237 : Cond.fieldLinkNest RX10 158 RX4 "belowIn" "I" RX10 ∈ nw := nw_in 237 (by decide +kernel) (by decide +kernel)
theorem q_255 : Cond.fieldLink RX10 10 RX10 "book" "LBeforeThird$Book;" ∈ gw := gw_in 255 (by decide +kernel) (by decide +kernel)
theorem q_256 : Cond.fieldLink RX10 16 RX10 "imageZero" "LBeforeThird$Book;" ∈ gw := gw_in 256 (by decide +kernel) (by decide +kernel)
theorem q_257 : Cond.fieldLink RX10 19 RX10 "imageOne" "LBeforeThird$Book;" ∈ gw := gw_in 257 (by decide +kernel) (by decide +kernel)
theorem q_258 : Cond.fieldLink RX10 22 RX10 "kept" "[Z" ∈ gw := gw_in 258 (by decide +kernel) (by decide +kernel)
theorem q_259 : Cond.fieldLink RX10 29 RX10 "reader" "LBeforeThird$Reader;" ∈ gw := gw_in 259 (by decide +kernel) (by decide +kernel)
theorem q_260 : Cond.fieldLink RX10 36 RX10 "outlook" "LBeforeThird$Outlook;" ∈ gw := gw_in 260 (by decide +kernel) (by decide +kernel)
theorem q_261 : Cond.fieldLink RX10 44 RX10 "kinds" "LBeforeThird$Kinds;" ∈ gw := gw_in 261 (by decide +kernel) (by decide +kernel)
theorem q_262 : Cond.fieldLink RX10 45 RX10 "chargesByExtra" "[I" ∈ gw := gw_in 262 (by decide +kernel) (by decide +kernel)
theorem q_263 : Cond.fieldLink RX10 220 RX10 "fractionAbove" "J" ∈ gw := gw_in 263 (by decide +kernel) (by decide +kernel)
theorem q_264 : Cond.fieldLink RX10 49 RX10 "fractionBelow" "J" ∈ gw := gw_in 264 (by decide +kernel) (by decide +kernel)
theorem q_265 : Cond.fieldLink RX10 227 RX10 "badCalls" "I" ∈ gw := gw_in 265 (by decide +kernel) (by decide +kernel)
theorem q_266 : Cond.fieldLink RX10 230 RX10 "noCalls" "I" ∈ gw := gw_in 266 (by decide +kernel) (by decide +kernel)
theorem q_267 : Cond.fieldLink RX10 233 RX10 "fullCalls" "I" ∈ gw := gw_in 267 (by decide +kernel) (by decide +kernel)
theorem q_295 : Cond.methodLink RL 13 yX10_account ∈ gw := gw_in 295 (by decide +kernel) (by decide +kernel)
theorem q_296 : Cond.instanceMethod yX10_account ∈ gw := gw_in 296 (by decide +kernel) (by decide +kernel)
theorem q_297 : Cond.selects RX10 yX10_account yX10_account ∈ gw := gw_in 297 (by decide +kernel) (by decide +kernel)
theorem q_298 : Cond.code yX10_account cX10_account 3 (some .int) ∈ gw := gw_in 298 (by decide +kernel) (by decide +kernel)
theorem q_299 : Cond.methodLink RX10 53 yX10_within ∈ gw := gw_in 299 (by decide +kernel) (by decide +kernel)
theorem q_300 : Cond.static yX10_within ∈ gw := gw_in 300 (by decide +kernel) (by decide +kernel)
theorem q_301 : Cond.code yX10_within cX10_within 3 (some .boolean) ∈ gw := gw_in 301 (by decide +kernel) (by decide +kernel)
theorem q_302 : Cond.methodLink RX10 57 yX10_refuseBad ∈ gw := gw_in 302 (by decide +kernel) (by decide +kernel)
theorem q_304 : Cond.instanceMethod yX10_refuseBad ∈ gw := gw_in 304 (by decide +kernel) (by decide +kernel)
theorem q_305 : Cond.code yX10_refuseBad cX10_refuseBad 2 (some .int) ∈ gw := gw_in 305 (by decide +kernel) (by decide +kernel)
theorem q_306 : Cond.methodLink RX10 65 yX0_beginWith ∈ gw := gw_in 306 (by decide +kernel) (by decide +kernel)
theorem q_307 : Cond.instanceMethod yX0_beginWith ∈ gw := gw_in 307 (by decide +kernel) (by decide +kernel)
theorem q_308 : Cond.selects RX0 yX0_beginWith yX0_beginWith ∈ gw := gw_in 308 (by decide +kernel) (by decide +kernel)
theorem q_309 : Cond.code yX0_beginWith cX0_beginWith 2 none ∈ gw := gw_in 309 (by decide +kernel) (by decide +kernel)
theorem q_310 : Cond.methodLink RX0 24 yJ7_fill_53178 ∈ gw := gw_in 310 (by decide +kernel) (by decide +kernel)
theorem q_311 : Cond.static yJ7_fill_53178 ∈ gw := gw_in 311 (by decide +kernel) (by decide +kernel)
theorem q_312 : Cond.code yJ7_fill_53178 cJ7_fill_53178 4 none ∈ gw := gw_in 312 (by decide +kernel) (by decide +kernel)
theorem q_313 : Cond.methodLink RL 18 yX10_bill ∈ gw := gw_in 313 (by decide +kernel) (by decide +kernel)
theorem q_314 : Cond.instanceMethod yX10_bill ∈ gw := gw_in 314 (by decide +kernel) (by decide +kernel)
theorem q_315 : Cond.selects RX10 yX10_bill yX10_bill ∈ gw := gw_in 315 (by decide +kernel) (by decide +kernel)
theorem q_316 : Cond.code yX10_bill cX10_bill 4 (some .int) ∈ gw := gw_in 316 (by decide +kernel) (by decide +kernel)
theorem q_317 : Cond.methodLink RX10 69 yX10_isBill ∈ gw := gw_in 317 (by decide +kernel) (by decide +kernel)
theorem q_318 : Cond.static yX10_isBill ∈ gw := gw_in 318 (by decide +kernel) (by decide +kernel)
theorem q_319 : Cond.code yX10_isBill cX10_isBill 3 (some .boolean) ∈ gw := gw_in 319 (by decide +kernel) (by decide +kernel)
theorem q_320 : Cond.methodLink RX10 72 yX10_refuseFull ∈ gw := gw_in 320 (by decide +kernel) (by decide +kernel)
theorem q_322 : Cond.instanceMethod yX10_refuseFull ∈ gw := gw_in 322 (by decide +kernel) (by decide +kernel)
theorem q_323 : Cond.code yX10_refuseFull cX10_refuseFull 1 (some .int) ∈ gw := gw_in 323 (by decide +kernel) (by decide +kernel)
theorem q_324 : Cond.methodLink RX10 76 yX0_addBill ∈ gw := gw_in 324 (by decide +kernel) (by decide +kernel)
theorem q_325 : Cond.instanceMethod yX0_addBill ∈ gw := gw_in 325 (by decide +kernel) (by decide +kernel)
theorem q_326 : Cond.selects RX0 yX0_addBill yX0_addBill ∈ gw := gw_in 326 (by decide +kernel) (by decide +kernel)
theorem q_327 : Cond.code yX0_addBill cX0_addBill 5 none ∈ gw := gw_in 327 (by decide +kernel) (by decide +kernel)
theorem q_328 : Cond.methodLink RL 23 yX10_type ∈ gw := gw_in 328 (by decide +kernel) (by decide +kernel)
theorem q_329 : Cond.instanceMethod yX10_type ∈ gw := gw_in 329 (by decide +kernel) (by decide +kernel)
theorem q_330 : Cond.selects RX10 yX10_type yX10_type ∈ gw := gw_in 330 (by decide +kernel) (by decide +kernel)
theorem q_331 : Cond.code yX10_type cX10_type 2 (some .int) ∈ gw := gw_in 331 (by decide +kernel) (by decide +kernel)
theorem q_332 : Cond.methodLink RX10 83 yX8_addByte ∈ gw := gw_in 332 (by decide +kernel) (by decide +kernel)
theorem q_333 : Cond.instanceMethod yX8_addByte ∈ gw := gw_in 333 (by decide +kernel) (by decide +kernel)
theorem q_334 : Cond.selects RX8 yX8_addByte yX8_addByte ∈ gw := gw_in 334 (by decide +kernel) (by decide +kernel)
theorem q_335 : Cond.code yX8_addByte cX8_addByte 2 none ∈ gw := gw_in 335 (by decide +kernel) (by decide +kernel)
theorem q_336 : Cond.methodLink RL 27 yX10_clear ∈ gw := gw_in 336 (by decide +kernel) (by decide +kernel)
theorem q_337 : Cond.instanceMethod yX10_clear ∈ gw := gw_in 337 (by decide +kernel) (by decide +kernel)
theorem q_338 : Cond.selects RX10 yX10_clear yX10_clear ∈ gw := gw_in 338 (by decide +kernel) (by decide +kernel)
theorem q_339 : Cond.code yX10_clear cX10_clear 2 (some .int) ∈ gw := gw_in 339 (by decide +kernel) (by decide +kernel)
theorem q_340 : Cond.methodLink RL 32 yX10_read ∈ gw := gw_in 340 (by decide +kernel) (by decide +kernel)
theorem q_341 : Cond.instanceMethod yX10_read ∈ gw := gw_in 341 (by decide +kernel) (by decide +kernel)
theorem q_342 : Cond.selects RX10 yX10_read yX10_read ∈ gw := gw_in 342 (by decide +kernel) (by decide +kernel)
theorem q_343 : Cond.code yX10_read cX10_read 2 (some .int) ∈ gw := gw_in 343 (by decide +kernel) (by decide +kernel)
theorem q_344 : Cond.methodLink RX10 86 yX8_itemsOrFault ∈ gw := gw_in 344 (by decide +kernel) (by decide +kernel)
theorem q_345 : Cond.instanceMethod yX8_itemsOrFault ∈ gw := gw_in 345 (by decide +kernel) (by decide +kernel)
theorem q_346 : Cond.selects RX8 yX8_itemsOrFault yX8_itemsOrFault ∈ gw := gw_in 346 (by decide +kernel) (by decide +kernel)
theorem q_347 : Cond.code yX8_itemsOrFault cX8_itemsOrFault 2 (some .int) ∈ gw := gw_in 347 (by decide +kernel) (by decide +kernel)
theorem q_348 : Cond.methodLink RX8 29 yX0_beginWith ∈ gw := gw_in 348 (by decide +kernel) (by decide +kernel)
theorem q_349 : Cond.methodLink RX8 33 yX8_takeToken ∈ gw := gw_in 349 (by decide +kernel) (by decide +kernel)
theorem q_351 : Cond.instanceMethod yX8_takeToken ∈ gw := gw_in 351 (by decide +kernel) (by decide +kernel)
theorem q_352 : Cond.code yX8_takeToken cX8_takeToken 2 none ∈ gw := gw_in 352 (by decide +kernel) (by decide +kernel)
theorem q_353 : Cond.methodLink RX8 106 yX8_skipRun ∈ gw := gw_in 353 (by decide +kernel) (by decide +kernel)
theorem q_355 : Cond.instanceMethod yX8_skipRun ∈ gw := gw_in 355 (by decide +kernel) (by decide +kernel)
theorem q_356 : Cond.code yX8_skipRun cX8_skipRun 3 none ∈ gw := gw_in 356 (by decide +kernel) (by decide +kernel)
theorem q_357 : Cond.methodLink RX8 98 yX8_byteAt ∈ gw := gw_in 357 (by decide +kernel) (by decide +kernel)
theorem q_359 : Cond.instanceMethod yX8_byteAt ∈ gw := gw_in 359 (by decide +kernel) (by decide +kernel)
theorem q_360 : Cond.code yX8_byteAt cX8_byteAt 2 (some .int) ∈ gw := gw_in 360 (by decide +kernel) (by decide +kernel)
theorem q_361 : Cond.methodLinkNest RX8 89 yX10_within RX10 ∈ nw := nw_in 361 (by decide +kernel) (by decide +kernel)
theorem q_362 : Cond.methodLink RX8 39 yX8_takeItem ∈ gw := gw_in 362 (by decide +kernel) (by decide +kernel)
theorem q_364 : Cond.instanceMethod yX8_takeItem ∈ gw := gw_in 364 (by decide +kernel) (by decide +kernel)
theorem q_365 : Cond.code yX8_takeItem cX8_takeItem 2 (some .boolean) ∈ gw := gw_in 365 (by decide +kernel) (by decide +kernel)
theorem q_367 : Cond.methodLink RX8 48 yX8_spells ∈ gw := gw_in 367 (by decide +kernel) (by decide +kernel)
theorem q_369 : Cond.instanceMethod yX8_spells ∈ gw := gw_in 369 (by decide +kernel) (by decide +kernel)
theorem q_370 : Cond.code yX8_spells cX8_spells 3 (some .boolean) ∈ gw := gw_in 370 (by decide +kernel) (by decide +kernel)
theorem q_371 : Cond.methodLink RX8 93 yJ0_length_8abf5 ∈ gw := gw_in 371 (by decide +kernel) (by decide +kernel)
theorem q_372 : Cond.instanceMethod yJ0_length_8abf5 ∈ gw := gw_in 372 (by decide +kernel) (by decide +kernel)
theorem q_373 : Cond.selects RJ0 yJ0_length_8abf5 yJ0_length_8abf5 ∈ gw := gw_in 373 (by decide +kernel) (by decide +kernel)
theorem q_374 : Cond.code yJ0_length_8abf5 cJ0_length_8abf5 1 (some .int) ∈ gw := gw_in 374 (by decide +kernel) (by decide +kernel)
theorem q_375 : Cond.methodLink RJ0 335 yJ0_coder_7d493 ∈ gw := gw_in 375 (by decide +kernel) (by decide +kernel)
theorem q_376 : Cond.instanceMethod yJ0_coder_7d493 ∈ gw := gw_in 376 (by decide +kernel) (by decide +kernel)
theorem q_377 : Cond.selects RJ0 yJ0_coder_7d493 yJ0_coder_7d493 ∈ gw := gw_in 377 (by decide +kernel) (by decide +kernel)
theorem q_378 : Cond.code yJ0_coder_7d493 cJ0_coder_7d493 1 (some .byte) ∈ gw := gw_in 378 (by decide +kernel) (by decide +kernel)
theorem q_381 : Cond.methodLink RX8 102 yJ0_charAt_5068e ∈ gw := gw_in 381 (by decide +kernel) (by decide +kernel)
theorem q_382 : Cond.instanceMethod yJ0_charAt_5068e ∈ gw := gw_in 382 (by decide +kernel) (by decide +kernel)
theorem q_383 : Cond.selects RJ0 yJ0_charAt_5068e yJ0_charAt_5068e ∈ gw := gw_in 383 (by decide +kernel) (by decide +kernel)
theorem q_384 : Cond.code yJ0_charAt_5068e cJ0_charAt_5068e 2 (some .char) ∈ gw := gw_in 384 (by decide +kernel) (by decide +kernel)
theorem q_385 : Cond.methodLink RJ0 492 yJ0_isLatin1_aae02 ∈ gw := gw_in 385 (by decide +kernel) (by decide +kernel)
theorem q_386 : Cond.instanceMethod yJ0_isLatin1_aae02 ∈ gw := gw_in 386 (by decide +kernel) (by decide +kernel)
theorem q_387 : Cond.selects RJ0 yJ0_isLatin1_aae02 yJ0_isLatin1_aae02 ∈ gw := gw_in 387 (by decide +kernel) (by decide +kernel)
theorem q_388 : Cond.code yJ0_isLatin1_aae02 cJ0_isLatin1_aae02 1 (some .boolean) ∈ gw := gw_in 388 (by decide +kernel) (by decide +kernel)
theorem q_389 : Cond.methodLink RJ0 495 yJ1_charAt_3b067 ∈ gw := gw_in 389 (by decide +kernel) (by decide +kernel)
theorem q_390 : Cond.static yJ1_charAt_3b067 ∈ gw := gw_in 390 (by decide +kernel) (by decide +kernel)
theorem q_391 : Cond.code yJ1_charAt_3b067 cJ1_charAt_3b067 2 (some .char) ∈ gw := gw_in 391 (by decide +kernel) (by decide +kernel)
theorem q_392 : Cond.methodLink RJ1 9 yJ0_checkIndex_df160 ∈ gw := gw_in 392 (by decide +kernel) (by decide +kernel)
theorem q_393 : Cond.static yJ0_checkIndex_df160 ∈ gw := gw_in 393 (by decide +kernel) (by decide +kernel)
theorem q_394 : Cond.code yJ0_checkIndex_df160 cJ0_checkIndex_df160 2 none ∈ gw := gw_in 394 (by decide +kernel) (by decide +kernel)
theorem q_397 : Cond.methodLink RJ0 1059 yJ3_checkIndex_8e157 ∈ gw := gw_in 397 (by decide +kernel) (by decide +kernel)
theorem q_398 : Cond.static yJ3_checkIndex_8e157 ∈ gw := gw_in 398 (by decide +kernel) (by decide +kernel)
theorem q_399 : Cond.code yJ3_checkIndex_8e157 cJ3_checkIndex_8e157 3 (some .int) ∈ gw := gw_in 399 (by decide +kernel) (by decide +kernel)
theorem q_419 : Cond.methodLink RX8 52 yX8_takeAccount ∈ gw := gw_in 419 (by decide +kernel) (by decide +kernel)
theorem q_421 : Cond.instanceMethod yX8_takeAccount ∈ gw := gw_in 421 (by decide +kernel) (by decide +kernel)
theorem q_422 : Cond.code yX8_takeAccount cX8_takeAccount 1 (some .boolean) ∈ gw := gw_in 422 (by decide +kernel) (by decide +kernel)
theorem q_423 : Cond.methodLink RX8 72 yX8_takeNumber ∈ gw := gw_in 423 (by decide +kernel) (by decide +kernel)
theorem q_425 : Cond.instanceMethod yX8_takeNumber ∈ gw := gw_in 425 (by decide +kernel) (by decide +kernel)
theorem q_426 : Cond.code yX8_takeNumber cX8_takeNumber 3 (some .boolean) ∈ gw := gw_in 426 (by decide +kernel) (by decide +kernel)
theorem q_427 : Cond.methodLink RX8 82 yX8_takeStop ∈ gw := gw_in 427 (by decide +kernel) (by decide +kernel)
theorem q_429 : Cond.instanceMethod yX8_takeStop ∈ gw := gw_in 429 (by decide +kernel) (by decide +kernel)
theorem q_430 : Cond.code yX8_takeStop cX8_takeStop 1 (some .boolean) ∈ gw := gw_in 430 (by decide +kernel) (by decide +kernel)
theorem q_432 : Cond.methodLink RX8 61 yX8_takeBill ∈ gw := gw_in 432 (by decide +kernel) (by decide +kernel)
theorem q_434 : Cond.instanceMethod yX8_takeBill ∈ gw := gw_in 434 (by decide +kernel) (by decide +kernel)
theorem q_435 : Cond.code yX8_takeBill cX8_takeBill 3 (some .boolean) ∈ gw := gw_in 435 (by decide +kernel) (by decide +kernel)
theorem q_436 : Cond.methodLink RX8 85 yX0_addBill ∈ gw := gw_in 436 (by decide +kernel) (by decide +kernel)
theorem q_438 : Cond.methodLink RX8 66 yX8_takeFigure ∈ gw := gw_in 438 (by decide +kernel) (by decide +kernel)
theorem q_440 : Cond.instanceMethod yX8_takeFigure ∈ gw := gw_in 440 (by decide +kernel) (by decide +kernel)
theorem q_441 : Cond.code yX8_takeFigure cX8_takeFigure 3 (some .boolean) ∈ gw := gw_in 441 (by decide +kernel) (by decide +kernel)
theorem q_443 : Cond.methodLink RX10 92 yX0_copyFrom ∈ gw := gw_in 443 (by decide +kernel) (by decide +kernel)
theorem q_444 : Cond.instanceMethod yX0_copyFrom ∈ gw := gw_in 444 (by decide +kernel) (by decide +kernel)
theorem q_445 : Cond.selects RX0 yX0_copyFrom yX0_copyFrom ∈ gw := gw_in 445 (by decide +kernel) (by decide +kernel)
theorem q_446 : Cond.code yX0_copyFrom cX0_copyFrom 2 none ∈ gw := gw_in 446 (by decide +kernel) (by decide +kernel)
theorem q_447 : Cond.methodLink RX0 44 (⟨RJ10, "arraycopy", "(Ljava/lang/Object;ILjava/lang/Object;II)V"⟩ : MethodName) ∈ gw := gw_in 447 (by decide +kernel) (by decide +kernel)
theorem q_448 : Cond.static (⟨RJ10, "arraycopy", "(Ljava/lang/Object;ILjava/lang/Object;II)V"⟩ : MethodName) ∈ gw := gw_in 448 (by decide +kernel) (by decide +kernel)
theorem q_449 : Cond.native (⟨RJ10, "arraycopy", "(Ljava/lang/Object;ILjava/lang/Object;II)V"⟩ : MethodName) ∈ gw := gw_in 449 (by decide +kernel) (by decide +kernel)
theorem q_450 : Cond.methodLink RL 36 yX10_days ∈ gw := gw_in 450 (by decide +kernel) (by decide +kernel)
theorem q_451 : Cond.instanceMethod yX10_days ∈ gw := gw_in 451 (by decide +kernel) (by decide +kernel)
theorem q_452 : Cond.selects RX10 yX10_days yX10_days ∈ gw := gw_in 452 (by decide +kernel) (by decide +kernel)
theorem q_453 : Cond.code yX10_days cX10_days 4 (some .int) ∈ gw := gw_in 453 (by decide +kernel) (by decide +kernel)
theorem q_454 : Cond.methodLink RX10 96 yX0_keepPast ∈ gw := gw_in 454 (by decide +kernel) (by decide +kernel)
theorem q_455 : Cond.instanceMethod yX0_keepPast ∈ gw := gw_in 455 (by decide +kernel) (by decide +kernel)
theorem q_456 : Cond.selects RX0 yX0_keepPast yX0_keepPast ∈ gw := gw_in 456 (by decide +kernel) (by decide +kernel)
theorem q_457 : Cond.code yX0_keepPast cX0_keepPast 1 none ∈ gw := gw_in 457 (by decide +kernel) (by decide +kernel)
theorem q_458 : Cond.methodLink RX10 102 yX10_passDay ∈ gw := gw_in 458 (by decide +kernel) (by decide +kernel)
theorem q_460 : Cond.instanceMethod yX10_passDay ∈ gw := gw_in 460 (by decide +kernel) (by decide +kernel)
theorem q_461 : Cond.code yX10_passDay cX10_passDay 2 none ∈ gw := gw_in 461 (by decide +kernel) (by decide +kernel)
theorem q_462 : Cond.methodLink RX10 248 yX10_drawnToday ∈ gw := gw_in 462 (by decide +kernel) (by decide +kernel)
theorem q_464 : Cond.instanceMethod yX10_drawnToday ∈ gw := gw_in 464 (by decide +kernel) (by decide +kernel)
theorem q_465 : Cond.code yX10_drawnToday cX10_drawnToday 4 (some .int) ∈ gw := gw_in 465 (by decide +kernel) (by decide +kernel)
theorem q_466 : Cond.methodLink RX10 118 yX0_kindAt ∈ gw := gw_in 466 (by decide +kernel) (by decide +kernel)
theorem q_467 : Cond.instanceMethod yX0_kindAt ∈ gw := gw_in 467 (by decide +kernel) (by decide +kernel)
theorem q_468 : Cond.selects RX0 yX0_kindAt yX0_kindAt ∈ gw := gw_in 468 (by decide +kernel) (by decide +kernel)
theorem q_469 : Cond.code yX0_kindAt cX0_kindAt 2 (some .int) ∈ gw := gw_in 469 (by decide +kernel) (by decide +kernel)
theorem q_470 : Cond.methodLink RX0 40 yX0_billPart ∈ gw := gw_in 470 (by decide +kernel) (by decide +kernel)
theorem q_472 : Cond.instanceMethod yX0_billPart ∈ gw := gw_in 472 (by decide +kernel) (by decide +kernel)
theorem q_473 : Cond.code yX0_billPart cX0_billPart 3 (some .int) ∈ gw := gw_in 473 (by decide +kernel) (by decide +kernel)
theorem q_474 : Cond.methodLink RX10 121 yX2_numbered ∈ gw := gw_in 474 (by decide +kernel) (by decide +kernel)
theorem q_475 : Cond.instanceMethod yX2_numbered ∈ gw := gw_in 475 (by decide +kernel) (by decide +kernel)
theorem q_476 : Cond.selects RX2 yX2_numbered yX2_numbered ∈ gw := gw_in 476 (by decide +kernel) (by decide +kernel)
theorem q_477 : Cond.code yX2_numbered cX2_numbered 2 (some (.object "BeforeThird$Plain")) ∈ gw := gw_in 477 (by decide +kernel) (by decide +kernel)
theorem q_478 : Cond.methodLink RX10 127 yX0_dayAt ∈ gw := gw_in 478 (by decide +kernel) (by decide +kernel)
theorem q_479 : Cond.instanceMethod yX0_dayAt ∈ gw := gw_in 479 (by decide +kernel) (by decide +kernel)
theorem q_480 : Cond.selects RX0 yX0_dayAt yX0_dayAt ∈ gw := gw_in 480 (by decide +kernel) (by decide +kernel)
theorem q_481 : Cond.code yX0_dayAt cX0_dayAt 2 (some .int) ∈ gw := gw_in 481 (by decide +kernel) (by decide +kernel)
theorem q_482 : Cond.methodLink RX10 133 yX6_drawnOn ∈ gw := gw_in 482 (by decide +kernel) (by decide +kernel)
theorem q_483 : Cond.instanceMethod yX6_drawnOn ∈ gw := gw_in 483 (by decide +kernel) (by decide +kernel)
theorem q_484 : Cond.selects RX6 yX6_drawnOn yX6_drawnOn ∈ gw := gw_in 484 (by decide +kernel) (by decide +kernel)
theorem q_485 : Cond.sameMethod RX6 RX6 "drawnOn" "(I)I" ∈ gw := gw_in 485 (by decide +kernel) (by decide +kernel)
theorem q_486 : Cond.selects RX1 yX6_drawnOn yX1_drawnOn ∈ gw := gw_in 486 (by decide +kernel) (by decide +kernel)
theorem q_487 : Cond.instanceMethod yX1_drawnOn ∈ gw := gw_in 487 (by decide +kernel) (by decide +kernel)
theorem q_488 : Cond.code yX1_drawnOn cX1_drawnOn 3 (some .int) ∈ gw := gw_in 488 (by decide +kernel) (by decide +kernel)
theorem q_489 : Cond.methodLink RX1 9 yX6_drawnOn ∈ gw := gw_in 489 (by decide +kernel) (by decide +kernel)
theorem q_490 : Cond.selects RX3 yX6_drawnOn yX3_drawnOn ∈ gw := gw_in 490 (by decide +kernel) (by decide +kernel)
theorem q_491 : Cond.instanceMethod yX3_drawnOn ∈ gw := gw_in 491 (by decide +kernel) (by decide +kernel)
theorem q_492 : Cond.code yX3_drawnOn cX3_drawnOn 3 (some .int) ∈ gw := gw_in 492 (by decide +kernel) (by decide +kernel)
theorem q_493 : Cond.methodLink RX3 9 yX6_drawnOn ∈ gw := gw_in 493 (by decide +kernel) (by decide +kernel)
theorem q_494 : Cond.selects RX5 yX6_drawnOn yX3_drawnOn ∈ gw := gw_in 494 (by decide +kernel) (by decide +kernel)
theorem q_495 : Cond.selects RX7 yX6_drawnOn yX6_drawnOn ∈ gw := gw_in 495 (by decide +kernel) (by decide +kernel)
theorem q_496 : Cond.selects RX9 yX6_drawnOn yX6_drawnOn ∈ gw := gw_in 496 (by decide +kernel) (by decide +kernel)
theorem q_497 : Cond.code yX6_drawnOn cX6_drawnOn 2 (some .int) ∈ gw := gw_in 497 (by decide +kernel) (by decide +kernel)
theorem q_498 : Cond.methodLink RX10 130 yX0_poundsAt ∈ gw := gw_in 498 (by decide +kernel) (by decide +kernel)
theorem q_499 : Cond.instanceMethod yX0_poundsAt ∈ gw := gw_in 499 (by decide +kernel) (by decide +kernel)
theorem q_500 : Cond.selects RX0 yX0_poundsAt yX0_poundsAt ∈ gw := gw_in 500 (by decide +kernel) (by decide +kernel)
theorem q_501 : Cond.code yX0_poundsAt cX0_poundsAt 2 (some .int) ∈ gw := gw_in 501 (by decide +kernel) (by decide +kernel)
theorem q_502 : Cond.methodLink RX10 138 yX6_poundsIn ∈ gw := gw_in 502 (by decide +kernel) (by decide +kernel)
theorem q_503 : Cond.instanceMethod yX6_poundsIn ∈ gw := gw_in 503 (by decide +kernel) (by decide +kernel)
theorem q_504 : Cond.selects RX6 yX6_poundsIn yX6_poundsIn ∈ gw := gw_in 504 (by decide +kernel) (by decide +kernel)
theorem q_505 : Cond.sameMethod RX6 RX6 "poundsIn" "(II)I" ∈ gw := gw_in 505 (by decide +kernel) (by decide +kernel)
theorem q_506 : Cond.selects RX1 yX6_poundsIn yX6_poundsIn ∈ gw := gw_in 506 (by decide +kernel) (by decide +kernel)
theorem q_507 : Cond.selects RX3 yX6_poundsIn yX6_poundsIn ∈ gw := gw_in 507 (by decide +kernel) (by decide +kernel)
theorem q_508 : Cond.selects RX5 yX6_poundsIn yX5_poundsIn ∈ gw := gw_in 508 (by decide +kernel) (by decide +kernel)
theorem q_509 : Cond.instanceMethod yX5_poundsIn ∈ gw := gw_in 509 (by decide +kernel) (by decide +kernel)
theorem q_510 : Cond.code yX5_poundsIn cX5_poundsIn 3 (some .int) ∈ gw := gw_in 510 (by decide +kernel) (by decide +kernel)
theorem q_511 : Cond.methodLink RX5 7 (⟨RX3, "poundsIn", "(II)I"⟩ : MethodName) ∈ gw := gw_in 511 (by decide +kernel) (by decide +kernel)
theorem q_514 : Cond.selects RX7 yX6_poundsIn yX7_poundsIn ∈ gw := gw_in 514 (by decide +kernel) (by decide +kernel)
theorem q_515 : Cond.instanceMethod yX7_poundsIn ∈ gw := gw_in 515 (by decide +kernel) (by decide +kernel)
theorem q_516 : Cond.code yX7_poundsIn cX7_poundsIn 3 (some .int) ∈ gw := gw_in 516 (by decide +kernel) (by decide +kernel)
theorem q_517 : Cond.methodLink RX7 7 yX6_poundsIn ∈ gw := gw_in 517 (by decide +kernel) (by decide +kernel)
theorem q_518 : Cond.selects RX9 yX6_poundsIn yX9_poundsIn ∈ gw := gw_in 518 (by decide +kernel) (by decide +kernel)
theorem q_519 : Cond.instanceMethod yX9_poundsIn ∈ gw := gw_in 519 (by decide +kernel) (by decide +kernel)
theorem q_520 : Cond.code yX9_poundsIn cX9_poundsIn 3 (some .int) ∈ gw := gw_in 520 (by decide +kernel) (by decide +kernel)
theorem q_521 : Cond.methodLink RX9 7 yX7_poundsIn ∈ gw := gw_in 521 (by decide +kernel) (by decide +kernel)
theorem q_522 : Cond.code yX6_poundsIn cX6_poundsIn 3 (some .int) ∈ gw := gw_in 522 (by decide +kernel) (by decide +kernel)
theorem q_523 : Cond.methodLink RL 40 yX10_spend ∈ gw := gw_in 523 (by decide +kernel) (by decide +kernel)
theorem q_524 : Cond.instanceMethod yX10_spend ∈ gw := gw_in 524 (by decide +kernel) (by decide +kernel)
theorem q_525 : Cond.selects RX10 yX10_spend yX10_spend ∈ gw := gw_in 525 (by decide +kernel) (by decide +kernel)
theorem q_526 : Cond.code yX10_spend cX10_spend 3 (some .int) ∈ gw := gw_in 526 (by decide +kernel) (by decide +kernel)
theorem q_527 : Cond.methodLink RL 44 yX10_jar ∈ gw := gw_in 527 (by decide +kernel) (by decide +kernel)
theorem q_528 : Cond.instanceMethod yX10_jar ∈ gw := gw_in 528 (by decide +kernel) (by decide +kernel)
theorem q_529 : Cond.selects RX10 yX10_jar yX10_jar ∈ gw := gw_in 529 (by decide +kernel) (by decide +kernel)
theorem q_530 : Cond.code yX10_jar cX10_jar 4 (some .int) ∈ gw := gw_in 530 (by decide +kernel) (by decide +kernel)
theorem q_531 : Cond.methodLink RX10 105 yX10_refuseNo ∈ gw := gw_in 531 (by decide +kernel) (by decide +kernel)
theorem q_533 : Cond.instanceMethod yX10_refuseNo ∈ gw := gw_in 533 (by decide +kernel) (by decide +kernel)
theorem q_534 : Cond.code yX10_refuseNo cX10_refuseNo 1 (some .int) ∈ gw := gw_in 534 (by decide +kernel) (by decide +kernel)
theorem q_535 : Cond.methodLink RL 48 yX10_undo ∈ gw := gw_in 535 (by decide +kernel) (by decide +kernel)
theorem q_536 : Cond.instanceMethod yX10_undo ∈ gw := gw_in 536 (by decide +kernel) (by decide +kernel)
theorem q_537 : Cond.selects RX10 yX10_undo yX10_undo ∈ gw := gw_in 537 (by decide +kernel) (by decide +kernel)
theorem q_538 : Cond.code yX10_undo cX10_undo 1 (some .int) ∈ gw := gw_in 538 (by decide +kernel) (by decide +kernel)
theorem q_539 : Cond.methodLink RX10 111 yX0_stepBack ∈ gw := gw_in 539 (by decide +kernel) (by decide +kernel)
theorem q_540 : Cond.instanceMethod yX0_stepBack ∈ gw := gw_in 540 (by decide +kernel) (by decide +kernel)
theorem q_541 : Cond.selects RX0 yX0_stepBack yX0_stepBack ∈ gw := gw_in 541 (by decide +kernel) (by decide +kernel)
theorem q_542 : Cond.code yX0_stepBack cX0_stepBack 1 none ∈ gw := gw_in 542 (by decide +kernel) (by decide +kernel)
theorem q_543 : Cond.methodLink RL 52 yX10_of ∈ gw := gw_in 543 (by decide +kernel) (by decide +kernel)
theorem q_544 : Cond.instanceMethod yX10_of ∈ gw := gw_in 544 (by decide +kernel) (by decide +kernel)
theorem q_545 : Cond.selects RX10 yX10_of yX10_of ∈ gw := gw_in 545 (by decide +kernel) (by decide +kernel)
theorem q_546 : Cond.code yX10_of cX10_of 4 (some .int) ∈ gw := gw_in 546 (by decide +kernel) (by decide +kernel)
theorem q_547 : Cond.methodLink RX10 114 yX10_isBillNumber ∈ gw := gw_in 547 (by decide +kernel) (by decide +kernel)
theorem q_549 : Cond.instanceMethod yX10_isBillNumber ∈ gw := gw_in 549 (by decide +kernel) (by decide +kernel)
theorem q_550 : Cond.code yX10_isBillNumber cX10_isBillNumber 2 (some .boolean) ∈ gw := gw_in 550 (by decide +kernel) (by decide +kernel)
theorem q_551 : Cond.methodLink RL 57 yX10_now ∈ gw := gw_in 551 (by decide +kernel) (by decide +kernel)
theorem q_552 : Cond.instanceMethod yX10_now ∈ gw := gw_in 552 (by decide +kernel) (by decide +kernel)
theorem q_553 : Cond.selects RX10 yX10_now yX10_now ∈ gw := gw_in 553 (by decide +kernel) (by decide +kernel)
theorem q_554 : Cond.code yX10_now cX10_now 2 (some .int) ∈ gw := gw_in 554 (by decide +kernel) (by decide +kernel)
theorem q_555 : Cond.constant RX10 142 (-100000) ∈ gw := gw_in 555 (by decide +kernel) (by decide +kernel)
theorem q_556 : Cond.methodLink RL 61 yX10_truly ∈ gw := gw_in 556 (by decide +kernel) (by decide +kernel)
theorem q_557 : Cond.instanceMethod yX10_truly ∈ gw := gw_in 557 (by decide +kernel) (by decide +kernel)
theorem q_558 : Cond.selects RX10 yX10_truly yX10_truly ∈ gw := gw_in 558 (by decide +kernel) (by decide +kernel)
theorem q_559 : Cond.code yX10_truly cX10_truly 4 (some .int) ∈ gw := gw_in 559 (by decide +kernel) (by decide +kernel)
theorem q_560 : Cond.methodLink RL 65 yX10_then ∈ gw := gw_in 560 (by decide +kernel) (by decide +kernel)
theorem q_561 : Cond.instanceMethod yX10_then ∈ gw := gw_in 561 (by decide +kernel) (by decide +kernel)
theorem q_562 : Cond.selects RX10 yX10_then yX10_then ∈ gw := gw_in 562 (by decide +kernel) (by decide +kernel)
theorem q_563 : Cond.code yX10_then cX10_then 3 (some .int) ∈ gw := gw_in 563 (by decide +kernel) (by decide +kernel)
theorem q_564 : Cond.methodLink RX10 143 yX10_foresee ∈ gw := gw_in 564 (by decide +kernel) (by decide +kernel)
theorem q_566 : Cond.instanceMethod yX10_foresee ∈ gw := gw_in 566 (by decide +kernel) (by decide +kernel)
theorem q_567 : Cond.code yX10_foresee cX10_foresee 2 none ∈ gw := gw_in 567 (by decide +kernel) (by decide +kernel)
theorem q_568 : Cond.methodLink RX10 161 yX4_lay ∈ gw := gw_in 568 (by decide +kernel) (by decide +kernel)
theorem q_569 : Cond.instanceMethod yX4_lay ∈ gw := gw_in 569 (by decide +kernel) (by decide +kernel)
theorem q_570 : Cond.selects RX4 yX4_lay yX4_lay ∈ gw := gw_in 570 (by decide +kernel) (by decide +kernel)
theorem q_571 : Cond.code yX4_lay cX4_lay 4 none ∈ gw := gw_in 571 (by decide +kernel) (by decide +kernel)
theorem q_572 : Cond.methodLink RX4 22 yJ9_min_7cf53 ∈ gw := gw_in 572 (by decide +kernel) (by decide +kernel)
theorem q_573 : Cond.static yJ9_min_7cf53 ∈ gw := gw_in 573 (by decide +kernel) (by decide +kernel)
theorem q_574 : Cond.code yJ9_min_7cf53 cJ9_min_7cf53 2 (some .int) ∈ gw := gw_in 574 (by decide +kernel) (by decide +kernel)
theorem q_575 : Cond.methodLink RX4 28 yJ9_max_7cf53 ∈ gw := gw_in 575 (by decide +kernel) (by decide +kernel)
theorem q_576 : Cond.static yJ9_max_7cf53 ∈ gw := gw_in 576 (by decide +kernel) (by decide +kernel)
theorem q_577 : Cond.code yJ9_max_7cf53 cJ9_max_7cf53 2 (some .int) ∈ gw := gw_in 577 (by decide +kernel) (by decide +kernel)
theorem q_578 : Cond.methodLink RX4 35 yJ7_fill_53178 ∈ gw := gw_in 578 (by decide +kernel) (by decide +kernel)
theorem q_579 : Cond.methodLink RX4 46 yX0_dayAt ∈ gw := gw_in 579 (by decide +kernel) (by decide +kernel)
theorem q_580 : Cond.methodLink RX4 50 yX4_put ∈ gw := gw_in 580 (by decide +kernel) (by decide +kernel)
theorem q_581 : Cond.instanceMethod yX4_put ∈ gw := gw_in 581 (by decide +kernel) (by decide +kernel)
theorem q_582 : Cond.selects RX4 yX4_put yX4_put ∈ gw := gw_in 582 (by decide +kernel) (by decide +kernel)
theorem q_583 : Cond.code yX4_put cX4_put 9 none ∈ gw := gw_in 583 (by decide +kernel) (by decide +kernel)
theorem q_584 : Cond.methodLink RX4 54 yX0_kindAt ∈ gw := gw_in 584 (by decide +kernel) (by decide +kernel)
theorem q_585 : Cond.methodLink RX4 57 yX2_numbered ∈ gw := gw_in 585 (by decide +kernel) (by decide +kernel)
theorem q_586 : Cond.methodLink RX4 61 yX6_drawnOn ∈ gw := gw_in 586 (by decide +kernel) (by decide +kernel)
theorem q_587 : Cond.methodLink RX4 69 yJ9_floorMod_7cf53 ∈ gw := gw_in 587 (by decide +kernel) (by decide +kernel)
theorem q_588 : Cond.static yJ9_floorMod_7cf53 ∈ gw := gw_in 588 (by decide +kernel) (by decide +kernel)
theorem q_589 : Cond.code yJ9_floorMod_7cf53 cJ9_floorMod_7cf53 3 (some .int) ∈ gw := gw_in 589 (by decide +kernel) (by decide +kernel)
theorem q_590 : Cond.methodLink RX4 72 yX0_poundsAt ∈ gw := gw_in 590 (by decide +kernel) (by decide +kernel)
theorem q_591 : Cond.methodLink RX4 75 yX6_poundsIn ∈ gw := gw_in 591 (by decide +kernel) (by decide +kernel)
theorem q_592 : Cond.methodLink RX10 199 yX4_run ∈ gw := gw_in 592 (by decide +kernel) (by decide +kernel)
theorem q_593 : Cond.instanceMethod yX4_run ∈ gw := gw_in 593 (by decide +kernel) (by decide +kernel)
theorem q_594 : Cond.selects RX4 yX4_run yX4_run ∈ gw := gw_in 594 (by decide +kernel) (by decide +kernel)
theorem q_595 : Cond.code yX4_run cX4_run 4 none ∈ gw := gw_in 595 (by decide +kernel) (by decide +kernel)
theorem q_596 : Cond.methodLink RL 69 yX10_low ∈ gw := gw_in 596 (by decide +kernel) (by decide +kernel)
theorem q_597 : Cond.instanceMethod yX10_low ∈ gw := gw_in 597 (by decide +kernel) (by decide +kernel)
theorem q_598 : Cond.selects RX10 yX10_low yX10_low ∈ gw := gw_in 598 (by decide +kernel) (by decide +kernel)
theorem q_599 : Cond.code yX10_low cX10_low 3 (some .int) ∈ gw := gw_in 599 (by decide +kernel) (by decide +kernel)
theorem q_600 : Cond.methodLink RL 73 yX10_below ∈ gw := gw_in 600 (by decide +kernel) (by decide +kernel)
theorem q_601 : Cond.instanceMethod yX10_below ∈ gw := gw_in 601 (by decide +kernel) (by decide +kernel)
theorem q_602 : Cond.selects RX10 yX10_below yX10_below ∈ gw := gw_in 602 (by decide +kernel) (by decide +kernel)
theorem q_603 : Cond.code yX10_below cX10_below 1 (some .int) ∈ gw := gw_in 603 (by decide +kernel) (by decide +kernel)
theorem q_604 : Cond.methodLink RL 77 yX10_most ∈ gw := gw_in 604 (by decide +kernel) (by decide +kernel)
theorem q_605 : Cond.instanceMethod yX10_most ∈ gw := gw_in 605 (by decide +kernel) (by decide +kernel)
theorem q_606 : Cond.selects RX10 yX10_most yX10_most ∈ gw := gw_in 606 (by decide +kernel) (by decide +kernel)
theorem q_607 : Cond.code yX10_most cX10_most 3 (some .int) ∈ gw := gw_in 607 (by decide +kernel) (by decide +kernel)
theorem q_608 : Cond.methodLink RX10 165 yX4_mostSpending ∈ gw := gw_in 608 (by decide +kernel) (by decide +kernel)
theorem q_609 : Cond.instanceMethod yX4_mostSpending ∈ gw := gw_in 609 (by decide +kernel) (by decide +kernel)
theorem q_610 : Cond.selects RX4 yX4_mostSpending yX4_mostSpending ∈ gw := gw_in 610 (by decide +kernel) (by decide +kernel)
theorem q_611 : Cond.code yX4_mostSpending cX4_mostSpending 5 (some .int) ∈ gw := gw_in 611 (by decide +kernel) (by decide +kernel)
theorem q_612 : Cond.methodLink RX4 93 yJ9_floorDiv_7cf53 ∈ gw := gw_in 612 (by decide +kernel) (by decide +kernel)
theorem q_613 : Cond.static yJ9_floorDiv_7cf53 ∈ gw := gw_in 613 (by decide +kernel) (by decide +kernel)
theorem q_614 : Cond.code yJ9_floorDiv_7cf53 cJ9_floorDiv_7cf53 3 (some .int) ∈ gw := gw_in 614 (by decide +kernel) (by decide +kernel)
theorem q_615 : Cond.methodLink RL 81 yX10_need ∈ gw := gw_in 615 (by decide +kernel) (by decide +kernel)
theorem q_616 : Cond.instanceMethod yX10_need ∈ gw := gw_in 616 (by decide +kernel) (by decide +kernel)
theorem q_617 : Cond.selects RX10 yX10_need yX10_need ∈ gw := gw_in 617 (by decide +kernel) (by decide +kernel)
theorem q_618 : Cond.code yX10_need cX10_need 3 (some .int) ∈ gw := gw_in 618 (by decide +kernel) (by decide +kernel)
theorem q_619 : Cond.methodLink RX10 168 yX4_leastMore ∈ gw := gw_in 619 (by decide +kernel) (by decide +kernel)
theorem q_620 : Cond.instanceMethod yX4_leastMore ∈ gw := gw_in 620 (by decide +kernel) (by decide +kernel)
theorem q_621 : Cond.selects RX4 yX4_leastMore yX4_leastMore ∈ gw := gw_in 621 (by decide +kernel) (by decide +kernel)
theorem q_622 : Cond.code yX4_leastMore cX4_leastMore 6 (some .int) ∈ gw := gw_in 622 (by decide +kernel) (by decide +kernel)
theorem q_623 : Cond.methodLink RL 85 yX10_move ∈ gw := gw_in 623 (by decide +kernel) (by decide +kernel)
theorem q_624 : Cond.instanceMethod yX10_move ∈ gw := gw_in 624 (by decide +kernel) (by decide +kernel)
theorem q_625 : Cond.selects RX10 yX10_move yX10_move ∈ gw := gw_in 625 (by decide +kernel) (by decide +kernel)
theorem q_626 : Cond.code yX10_move cX10_move 6 (some .int) ∈ gw := gw_in 626 (by decide +kernel) (by decide +kernel)
theorem q_627 : Cond.methodLink RX10 171 yX10_chargesAsLaid ∈ gw := gw_in 627 (by decide +kernel) (by decide +kernel)
theorem q_629 : Cond.instanceMethod yX10_chargesAsLaid ∈ gw := gw_in 629 (by decide +kernel) (by decide +kernel)
theorem q_630 : Cond.code yX10_chargesAsLaid cX10_chargesAsLaid 1 (some .int) ∈ gw := gw_in 630 (by decide +kernel) (by decide +kernel)
theorem q_631 : Cond.methodLink RX10 174 yX4_put ∈ gw := gw_in 631 (by decide +kernel) (by decide +kernel)
theorem q_632 : Cond.methodLink RL 89 yX10_monthly ∈ gw := gw_in 632 (by decide +kernel) (by decide +kernel)
theorem q_633 : Cond.instanceMethod yX10_monthly ∈ gw := gw_in 633 (by decide +kernel) (by decide +kernel)
theorem q_634 : Cond.selects RX10 yX10_monthly yX10_monthly ∈ gw := gw_in 634 (by decide +kernel) (by decide +kernel)
theorem q_635 : Cond.code yX10_monthly cX10_monthly 8 (some .int) ∈ gw := gw_in 635 (by decide +kernel) (by decide +kernel)
theorem q_636 : Cond.methodLink RL 93 yX10_dear ∈ gw := gw_in 636 (by decide +kernel) (by decide +kernel)
theorem q_637 : Cond.instanceMethod yX10_dear ∈ gw := gw_in 637 (by decide +kernel) (by decide +kernel)
theorem q_638 : Cond.selects RX10 yX10_dear yX10_dear ∈ gw := gw_in 638 (by decide +kernel) (by decide +kernel)
theorem q_639 : Cond.code yX10_dear cX10_dear 5 (some .int) ∈ gw := gw_in 639 (by decide +kernel) (by decide +kernel)
theorem q_640 : Cond.methodLink RL 97 yX10_note ∈ gw := gw_in 640 (by decide +kernel) (by decide +kernel)
theorem q_641 : Cond.instanceMethod yX10_note ∈ gw := gw_in 641 (by decide +kernel) (by decide +kernel)
theorem q_642 : Cond.selects RX10 yX10_note yX10_note ∈ gw := gw_in 642 (by decide +kernel) (by decide +kernel)
theorem q_643 : Cond.code yX10_note cX10_note 7 (some .int) ∈ gw := gw_in 643 (by decide +kernel) (by decide +kernel)
theorem q_644 : Cond.methodLink RX10 181 yX0_addNote ∈ gw := gw_in 644 (by decide +kernel) (by decide +kernel)
theorem q_645 : Cond.instanceMethod yX0_addNote ∈ gw := gw_in 645 (by decide +kernel) (by decide +kernel)
theorem q_646 : Cond.selects RX0 yX0_addNote yX0_addNote ∈ gw := gw_in 646 (by decide +kernel) (by decide +kernel)
theorem q_647 : Cond.code yX0_addNote cX0_addNote 7 none ∈ gw := gw_in 647 (by decide +kernel) (by decide +kernel)
theorem q_648 : Cond.methodLink RL 102 yX10_forget ∈ gw := gw_in 648 (by decide +kernel) (by decide +kernel)
theorem q_649 : Cond.instanceMethod yX10_forget ∈ gw := gw_in 649 (by decide +kernel) (by decide +kernel)
theorem q_650 : Cond.selects RX10 yX10_forget yX10_forget ∈ gw := gw_in 650 (by decide +kernel) (by decide +kernel)
theorem q_651 : Cond.code yX10_forget cX10_forget 2 (some .int) ∈ gw := gw_in 651 (by decide +kernel) (by decide +kernel)
theorem q_652 : Cond.methodLink RL 106 yX10_is ∈ gw := gw_in 652 (by decide +kernel) (by decide +kernel)
theorem q_653 : Cond.instanceMethod yX10_is ∈ gw := gw_in 653 (by decide +kernel) (by decide +kernel)
theorem q_654 : Cond.selects RX10 yX10_is yX10_is ∈ gw := gw_in 654 (by decide +kernel) (by decide +kernel)
theorem q_655 : Cond.code yX10_is cX10_is 2 (some .int) ∈ gw := gw_in 655 (by decide +kernel) (by decide +kernel)
theorem q_656 : Cond.methodLink RX10 185 yX10_kindsThatFit ∈ gw := gw_in 656 (by decide +kernel) (by decide +kernel)
theorem q_658 : Cond.instanceMethod yX10_kindsThatFit ∈ gw := gw_in 658 (by decide +kernel) (by decide +kernel)
theorem q_659 : Cond.code yX10_kindsThatFit cX10_kindsThatFit 4 (some .int) ∈ gw := gw_in 659 (by decide +kernel) (by decide +kernel)
theorem q_660 : Cond.methodLink RX10 251 yX10_fitsNotes ∈ gw := gw_in 660 (by decide +kernel) (by decide +kernel)
theorem q_662 : Cond.instanceMethod yX10_fitsNotes ∈ gw := gw_in 662 (by decide +kernel) (by decide +kernel)
theorem q_663 : Cond.code yX10_fitsNotes cX10_fitsNotes 4 (some .boolean) ∈ gw := gw_in 663 (by decide +kernel) (by decide +kernel)
theorem q_664 : Cond.methodLink RX10 255 yX0_notePart ∈ gw := gw_in 664 (by decide +kernel) (by decide +kernel)
theorem q_665 : Cond.instanceMethod yX0_notePart ∈ gw := gw_in 665 (by decide +kernel) (by decide +kernel)
theorem q_666 : Cond.selects RX0 yX0_notePart yX0_notePart ∈ gw := gw_in 666 (by decide +kernel) (by decide +kernel)
theorem q_667 : Cond.code yX0_notePart cX0_notePart 3 (some .int) ∈ gw := gw_in 667 (by decide +kernel) (by decide +kernel)
theorem q_668 : Cond.methodLink RX10 258 yX10_fitsNote ∈ gw := gw_in 668 (by decide +kernel) (by decide +kernel)
theorem q_670 : Cond.instanceMethod yX10_fitsNote ∈ gw := gw_in 670 (by decide +kernel) (by decide +kernel)
theorem q_671 : Cond.code yX10_fitsNote cX10_fitsNote 4 (some .boolean) ∈ gw := gw_in 671 (by decide +kernel) (by decide +kernel)
theorem q_672 : Cond.methodLink RL 110 yX10_look ∈ gw := gw_in 672 (by decide +kernel) (by decide +kernel)
theorem q_673 : Cond.instanceMethod yX10_look ∈ gw := gw_in 673 (by decide +kernel) (by decide +kernel)
theorem q_674 : Cond.selects RX10 yX10_look yX10_look ∈ gw := gw_in 674 (by decide +kernel) (by decide +kernel)
theorem q_675 : Cond.code yX10_look cX10_look 7 (some .int) ∈ gw := gw_in 675 (by decide +kernel) (by decide +kernel)
theorem q_676 : Cond.methodLink RX10 188 yX10_mostAlike ∈ gw := gw_in 676 (by decide +kernel) (by decide +kernel)
theorem q_678 : Cond.instanceMethod yX10_mostAlike ∈ gw := gw_in 678 (by decide +kernel) (by decide +kernel)
theorem q_679 : Cond.code yX10_mostAlike cX10_mostAlike 6 (some .int) ∈ gw := gw_in 679 (by decide +kernel) (by decide +kernel)
theorem q_680 : Cond.methodLink RX10 262 yX10_hasBit ∈ gw := gw_in 680 (by decide +kernel) (by decide +kernel)
theorem q_681 : Cond.static yX10_hasBit ∈ gw := gw_in 681 (by decide +kernel) (by decide +kernel)
theorem q_682 : Cond.code yX10_hasBit cX10_hasBit 2 (some .boolean) ∈ gw := gw_in 682 (by decide +kernel) (by decide +kernel)
theorem q_683 : Cond.methodLink RX10 265 yX10_alikeTo ∈ gw := gw_in 683 (by decide +kernel) (by decide +kernel)
theorem q_685 : Cond.instanceMethod yX10_alikeTo ∈ gw := gw_in 685 (by decide +kernel) (by decide +kernel)
theorem q_686 : Cond.code yX10_alikeTo cX10_alikeTo 10 (some .int) ∈ gw := gw_in 686 (by decide +kernel) (by decide +kernel)
theorem q_687 : Cond.methodLink RX10 269 yJ9_max_7cf53 ∈ gw := gw_in 687 (by decide +kernel) (by decide +kernel)
theorem q_688 : Cond.methodLink RL 114 yX10_two ∈ gw := gw_in 688 (by decide +kernel) (by decide +kernel)
theorem q_689 : Cond.instanceMethod yX10_two ∈ gw := gw_in 689 (by decide +kernel) (by decide +kernel)
theorem q_690 : Cond.selects RX10 yX10_two yX10_two ∈ gw := gw_in 690 (by decide +kernel) (by decide +kernel)
theorem q_691 : Cond.code yX10_two cX10_two 7 (some .int) ∈ gw := gw_in 691 (by decide +kernel) (by decide +kernel)
theorem q_692 : Cond.methodLink RX10 192 yX10_layChargesByExtra ∈ gw := gw_in 692 (by decide +kernel) (by decide +kernel)
theorem q_694 : Cond.instanceMethod yX10_layChargesByExtra ∈ gw := gw_in 694 (by decide +kernel) (by decide +kernel)
theorem q_695 : Cond.code yX10_layChargesByExtra cX10_layChargesByExtra 3 none ∈ gw := gw_in 695 (by decide +kernel) (by decide +kernel)
theorem q_696 : Cond.methodLink RX10 195 yX10_isBestAgainst ∈ gw := gw_in 696 (by decide +kernel) (by decide +kernel)
theorem q_698 : Cond.instanceMethod yX10_isBestAgainst ∈ gw := gw_in 698 (by decide +kernel) (by decide +kernel)
theorem q_699 : Cond.code yX10_isBestAgainst cX10_isBestAgainst 5 (some .boolean) ∈ gw := gw_in 699 (by decide +kernel) (by decide +kernel)
theorem q_700 : Cond.methodLink RX10 274 yX10_gainOf ∈ gw := gw_in 700 (by decide +kernel) (by decide +kernel)
theorem q_702 : Cond.instanceMethod yX10_gainOf ∈ gw := gw_in 702 (by decide +kernel) (by decide +kernel)
theorem q_703 : Cond.code yX10_gainOf cX10_gainOf 4 (some .int) ∈ gw := gw_in 703 (by decide +kernel) (by decide +kernel)
theorem q_704 : Cond.methodLink RL 118 yX10_boiler ∈ gw := gw_in 704 (by decide +kernel) (by decide +kernel)
theorem q_705 : Cond.instanceMethod yX10_boiler ∈ gw := gw_in 705 (by decide +kernel) (by decide +kernel)
theorem q_706 : Cond.selects RX10 yX10_boiler yX10_boiler ∈ gw := gw_in 706 (by decide +kernel) (by decide +kernel)
theorem q_707 : Cond.code yX10_boiler cX10_boiler 6 (some .int) ∈ gw := gw_in 707 (by decide +kernel) (by decide +kernel)
theorem q_708 : Cond.methodLink RX10 203 yX10_setTenths ∈ gw := gw_in 708 (by decide +kernel) (by decide +kernel)
theorem q_710 : Cond.instanceMethod yX10_setTenths ∈ gw := gw_in 710 (by decide +kernel) (by decide +kernel)
theorem q_711 : Cond.code yX10_setTenths cX10_setTenths 4 none ∈ gw := gw_in 711 (by decide +kernel) (by decide +kernel)
theorem q_712 : Cond.methodLink RL 122 yX10_years ∈ gw := gw_in 712 (by decide +kernel) (by decide +kernel)
theorem q_713 : Cond.instanceMethod yX10_years ∈ gw := gw_in 713 (by decide +kernel) (by decide +kernel)
theorem q_714 : Cond.selects RX10 yX10_years yX10_years ∈ gw := gw_in 714 (by decide +kernel) (by decide +kernel)
theorem q_715 : Cond.code yX10_years cX10_years 6 (some .int) ∈ gw := gw_in 715 (by decide +kernel) (by decide +kernel)
theorem q_716 : Cond.constant RX10 206 999999 ∈ gw := gw_in 716 (by decide +kernel) (by decide +kernel)
theorem q_717 : Cond.constantLong RX10 207 1103515245 ∈ gw := gw_in 717 (by decide +kernel) (by decide +kernel)
theorem q_718 : Cond.constantLong RX10 209 12345 ∈ gw := gw_in 718 (by decide +kernel) (by decide +kernel)
theorem q_719 : Cond.constantLong RX10 211 2147483648 ∈ gw := gw_in 719 (by decide +kernel) (by decide +kernel)
theorem q_720 : Cond.constantLong RX10 213 65536 ∈ gw := gw_in 720 (by decide +kernel) (by decide +kernel)
theorem q_721 : Cond.constantLong RX10 215 31 ∈ gw := gw_in 721 (by decide +kernel) (by decide +kernel)
theorem q_722 : Cond.methodLink RX10 217 yX4_drawMore ∈ gw := gw_in 722 (by decide +kernel) (by decide +kernel)
theorem q_723 : Cond.instanceMethod yX4_drawMore ∈ gw := gw_in 723 (by decide +kernel) (by decide +kernel)
theorem q_724 : Cond.selects RX4 yX4_drawMore yX4_drawMore ∈ gw := gw_in 724 (by decide +kernel) (by decide +kernel)
theorem q_725 : Cond.code yX4_drawMore cX4_drawMore 3 none ∈ gw := gw_in 725 (by decide +kernel) (by decide +kernel)
theorem q_726 : Cond.methodLink RL 126 yX10_part ∈ gw := gw_in 726 (by decide +kernel) (by decide +kernel)
theorem q_727 : Cond.instanceMethod yX10_part ∈ gw := gw_in 727 (by decide +kernel) (by decide +kernel)
theorem q_728 : Cond.selects RX10 yX10_part yX10_part ∈ gw := gw_in 728 (by decide +kernel) (by decide +kernel)
theorem q_729 : Cond.code yX10_part cX10_part 2 (some .long) ∈ gw := gw_in 729 (by decide +kernel) (by decide +kernel)
theorem q_730 : Cond.methodLink RL 131 yX10_image ∈ gw := gw_in 730 (by decide +kernel) (by decide +kernel)
theorem q_731 : Cond.instanceMethod yX10_image ∈ gw := gw_in 731 (by decide +kernel) (by decide +kernel)
theorem q_732 : Cond.selects RX10 yX10_image yX10_image ∈ gw := gw_in 732 (by decide +kernel) (by decide +kernel)
theorem q_733 : Cond.code yX10_image cX10_image 2 (some .int) ∈ gw := gw_in 733 (by decide +kernel) (by decide +kernel)
theorem q_734 : Cond.methodLink RX10 223 yX10_imageAt ∈ gw := gw_in 734 (by decide +kernel) (by decide +kernel)
theorem q_736 : Cond.instanceMethod yX10_imageAt ∈ gw := gw_in 736 (by decide +kernel) (by decide +kernel)
theorem q_737 : Cond.code yX10_imageAt cX10_imageAt 2 (some (.object "BeforeThird$Book")) ∈ gw := gw_in 737 (by decide +kernel) (by decide +kernel)
theorem q_738 : Cond.methodLink RL 135 yX10_from ∈ gw := gw_in 738 (by decide +kernel) (by decide +kernel)
theorem q_739 : Cond.instanceMethod yX10_from ∈ gw := gw_in 739 (by decide +kernel) (by decide +kernel)
theorem q_740 : Cond.selects RX10 yX10_from yX10_from ∈ gw := gw_in 740 (by decide +kernel) (by decide +kernel)
theorem q_741 : Cond.code yX10_from cX10_from 2 (some .int) ∈ gw := gw_in 741 (by decide +kernel) (by decide +kernel)
theorem q_742 : Cond.methodLink RL 139 yX10_status ∈ gw := gw_in 742 (by decide +kernel) (by decide +kernel)
theorem q_743 : Cond.instanceMethod yX10_status ∈ gw := gw_in 743 (by decide +kernel) (by decide +kernel)
theorem q_744 : Cond.selects RX10 yX10_status yX10_status ∈ gw := gw_in 744 (by decide +kernel) (by decide +kernel)
theorem q_745 : Cond.code yX10_status cX10_status 2 (some .int) ∈ gw := gw_in 745 (by decide +kernel) (by decide +kernel)
theorem q_746 : Cond.methodLink RL 143 yX10_count ∈ gw := gw_in 746 (by decide +kernel) (by decide +kernel)
theorem q_747 : Cond.instanceMethod yX10_count ∈ gw := gw_in 747 (by decide +kernel) (by decide +kernel)
theorem q_748 : Cond.selects RX10 yX10_count yX10_count ∈ gw := gw_in 748 (by decide +kernel) (by decide +kernel)
theorem q_749 : Cond.code yX10_count cX10_count 2 (some .int) ∈ gw := gw_in 749 (by decide +kernel) (by decide +kernel)
theorem q_750 : Cond.methodLink RL 147 yX10_digest ∈ gw := gw_in 750 (by decide +kernel) (by decide +kernel)
theorem q_751 : Cond.instanceMethod yX10_digest ∈ gw := gw_in 751 (by decide +kernel) (by decide +kernel)
theorem q_752 : Cond.selects RX10 yX10_digest yX10_digest ∈ gw := gw_in 752 (by decide +kernel) (by decide +kernel)
theorem q_753 : Cond.code yX10_digest cX10_digest 3 (some .long) ∈ gw := gw_in 753 (by decide +kernel) (by decide +kernel)
theorem q_754 : Cond.constantLong RX10 236 1373 ∈ gw := gw_in 754 (by decide +kernel) (by decide +kernel)
theorem q_755 : Cond.methodLink RX10 238 yX10_digestOf ∈ gw := gw_in 755 (by decide +kernel) (by decide +kernel)
theorem q_756 : Cond.static yX10_digestOf ∈ gw := gw_in 756 (by decide +kernel) (by decide +kernel)
theorem q_757 : Cond.code yX10_digestOf cX10_digestOf 7 (some .long) ∈ gw := gw_in 757 (by decide +kernel) (by decide +kernel)
theorem q_758 : Cond.classLink RL 10 RX11 ∈ gw := gw_in 758 (by decide +kernel) (by decide +kernel)
theorem q_759 : Cond.instantiable RX11 16 ∈ gw := gw_in 759 (by decide +kernel) (by decide +kernel)
theorem q_760 : Cond.methodLink RL 12 yX11_init ∈ gw := gw_in 760 (by decide +kernel) (by decide +kernel)
theorem q_761 : Cond.instanceMethod yX11_init ∈ gw := gw_in 761 (by decide +kernel) (by decide +kernel)
theorem q_762 : Cond.code yX11_init cX11_init 1 none ∈ gw := gw_in 762 (by decide +kernel) (by decide +kernel)
theorem q_763 : Cond.methodLink RX11 1 (⟨"java/lang/Object", "<init>", "()V"⟩ : MethodName) ∈ gw := gw_in 763 (by decide +kernel) (by decide +kernel)
theorem q_764 : Cond.methodLink RX11 36 yX11_begin ∈ gw := gw_in 764 (by decide +kernel) (by decide +kernel)
theorem q_765 : Cond.static yX11_begin ∈ gw := gw_in 765 (by decide +kernel) (by decide +kernel)
theorem q_766 : Cond.code yX11_begin cX11_begin 2 none ∈ gw := gw_in 766 (by decide +kernel) (by decide +kernel)
theorem q_767 : Cond.fieldLink RX11 7 RX11 "now" "[I" ∈ gw := gw_in 767 (by decide +kernel) (by decide +kernel)
theorem q_768 : Cond.fieldLink RX11 13 RX11 "tried" "[I" ∈ gw := gw_in 768 (by decide +kernel) (by decide +kernel)
theorem q_769 : Cond.fieldLink RX11 16 RX11 "read" "[I" ∈ gw := gw_in 769 (by decide +kernel) (by decide +kernel)
theorem q_770 : Cond.fieldLink RX11 19 RX11 "image" "[I" ∈ gw := gw_in 770 (by decide +kernel) (by decide +kernel)
theorem q_771 : Cond.fieldLink RX11 22 RX11 "isKept" "[Z" ∈ gw := gw_in 771 (by decide +kernel) (by decide +kernel)
theorem q_772 : Cond.fieldLink RX11 26 RX11 "refused" "[I" ∈ gw := gw_in 772 (by decide +kernel) (by decide +kernel)
theorem q_773 : Cond.fieldLink RX11 171 RX11 "upper" "J" ∈ gw := gw_in 773 (by decide +kernel) (by decide +kernel)
theorem q_774 : Cond.fieldLink RX11 29 RX11 "lower" "J" ∈ gw := gw_in 774 (by decide +kernel) (by decide +kernel)
theorem q_775 : Cond.fieldLink RX11 55 RX11 "letters" "I" ∈ gw := gw_in 775 (by decide +kernel) (by decide +kernel)
theorem q_776 : Cond.fieldLink RX11 33 RX11 "text" "[I" ∈ gw := gw_in 776 (by decide +kernel) (by decide +kernel)
theorem q_777 : Cond.fieldLink RX11 59 RX11 "position" "I" ∈ gw := gw_in 777 (by decide +kernel) (by decide +kernel)
theorem q_778 : Cond.fieldLink RX11 62 RX11 "tokenAt" "I" ∈ gw := gw_in 778 (by decide +kernel) (by decide +kernel)
theorem q_779 : Cond.fieldLink RX11 71 RX11 "token" "I" ∈ gw := gw_in 779 (by decide +kernel) (by decide +kernel)
theorem q_780 : Cond.fieldLink RX11 68 RX11 "number" "I" ∈ gw := gw_in 780 (by decide +kernel) (by decide +kernel)
theorem q_781 : Cond.fieldLink RX11 65 RX11 "word" "J" ∈ gw := gw_in 781 (by decide +kernel) (by decide +kernel)
theorem q_782 : Cond.fieldLink RX11 89 RX11 "items" "I" ∈ gw := gw_in 782 (by decide +kernel) (by decide +kernel)
theorem q_816 : Cond.methodLink RL 17 yX11_account ∈ gw := gw_in 816 (by decide +kernel) (by decide +kernel)
theorem q_817 : Cond.instanceMethod yX11_account ∈ gw := gw_in 817 (by decide +kernel) (by decide +kernel)
theorem q_818 : Cond.selects RX11 yX11_account yX11_account ∈ gw := gw_in 818 (by decide +kernel) (by decide +kernel)
theorem q_819 : Cond.code yX11_account cX11_account 3 (some .int) ∈ gw := gw_in 819 (by decide +kernel) (by decide +kernel)
theorem q_820 : Cond.methodLink RX11 40 yX11_in ∈ gw := gw_in 820 (by decide +kernel) (by decide +kernel)
theorem q_821 : Cond.static yX11_in ∈ gw := gw_in 821 (by decide +kernel) (by decide +kernel)
theorem q_822 : Cond.code yX11_in cX11_in 3 (some .boolean) ∈ gw := gw_in 822 (by decide +kernel) (by decide +kernel)
theorem q_823 : Cond.methodLink RX11 44 yX11_bad ∈ gw := gw_in 823 (by decide +kernel) (by decide +kernel)
theorem q_825 : Cond.instanceMethod yX11_bad ∈ gw := gw_in 825 (by decide +kernel) (by decide +kernel)
theorem q_826 : Cond.code yX11_bad cX11_bad 1 (some .int) ∈ gw := gw_in 826 (by decide +kernel) (by decide +kernel)
theorem q_827 : Cond.methodLink RL 22 yX11_bill ∈ gw := gw_in 827 (by decide +kernel) (by decide +kernel)
theorem q_828 : Cond.instanceMethod yX11_bill ∈ gw := gw_in 828 (by decide +kernel) (by decide +kernel)
theorem q_829 : Cond.selects RX11 yX11_bill yX11_bill ∈ gw := gw_in 829 (by decide +kernel) (by decide +kernel)
theorem q_830 : Cond.code yX11_bill cX11_bill 4 (some .int) ∈ gw := gw_in 830 (by decide +kernel) (by decide +kernel)
theorem q_831 : Cond.methodLink RX11 48 yX11_full ∈ gw := gw_in 831 (by decide +kernel) (by decide +kernel)
theorem q_833 : Cond.instanceMethod yX11_full ∈ gw := gw_in 833 (by decide +kernel) (by decide +kernel)
theorem q_834 : Cond.code yX11_full cX11_full 1 (some .int) ∈ gw := gw_in 834 (by decide +kernel) (by decide +kernel)
theorem q_835 : Cond.methodLink RX11 51 yX11_addBill ∈ gw := gw_in 835 (by decide +kernel) (by decide +kernel)
theorem q_836 : Cond.static yX11_addBill ∈ gw := gw_in 836 (by decide +kernel) (by decide +kernel)
theorem q_837 : Cond.code yX11_addBill cX11_addBill 5 (some .int) ∈ gw := gw_in 837 (by decide +kernel) (by decide +kernel)
theorem q_838 : Cond.methodLink RL 26 yX11_type ∈ gw := gw_in 838 (by decide +kernel) (by decide +kernel)
theorem q_839 : Cond.instanceMethod yX11_type ∈ gw := gw_in 839 (by decide +kernel) (by decide +kernel)
theorem q_840 : Cond.selects RX11 yX11_type yX11_type ∈ gw := gw_in 840 (by decide +kernel) (by decide +kernel)
theorem q_841 : Cond.code yX11_type cX11_type 2 (some .int) ∈ gw := gw_in 841 (by decide +kernel) (by decide +kernel)
theorem q_842 : Cond.methodLink RL 31 yX11_clear ∈ gw := gw_in 842 (by decide +kernel) (by decide +kernel)
theorem q_843 : Cond.instanceMethod yX11_clear ∈ gw := gw_in 843 (by decide +kernel) (by decide +kernel)
theorem q_844 : Cond.selects RX11 yX11_clear yX11_clear ∈ gw := gw_in 844 (by decide +kernel) (by decide +kernel)
theorem q_845 : Cond.code yX11_clear cX11_clear 2 (some .int) ∈ gw := gw_in 845 (by decide +kernel) (by decide +kernel)
theorem q_846 : Cond.methodLink RL 35 yX11_read ∈ gw := gw_in 846 (by decide +kernel) (by decide +kernel)
theorem q_847 : Cond.instanceMethod yX11_read ∈ gw := gw_in 847 (by decide +kernel) (by decide +kernel)
theorem q_848 : Cond.selects RX11 yX11_read yX11_read ∈ gw := gw_in 848 (by decide +kernel) (by decide +kernel)
theorem q_849 : Cond.code yX11_read cX11_read 1 (some .int) ∈ gw := gw_in 849 (by decide +kernel) (by decide +kernel)
theorem q_850 : Cond.methodLink RX11 110 yX11_isRead ∈ gw := gw_in 850 (by decide +kernel) (by decide +kernel)
theorem q_852 : Cond.instanceMethod yX11_isRead ∈ gw := gw_in 852 (by decide +kernel) (by decide +kernel)
theorem q_853 : Cond.code yX11_isRead cX11_isRead 1 (some .boolean) ∈ gw := gw_in 853 (by decide +kernel) (by decide +kernel)
theorem q_854 : Cond.methodLink RX11 82 yX11_nextToken ∈ gw := gw_in 854 (by decide +kernel) (by decide +kernel)
theorem q_856 : Cond.instanceMethod yX11_nextToken ∈ gw := gw_in 856 (by decide +kernel) (by decide +kernel)
theorem q_857 : Cond.code yX11_nextToken cX11_nextToken 2 none ∈ gw := gw_in 857 (by decide +kernel) (by decide +kernel)
theorem q_858 : Cond.methodLink RX11 74 yX11_kindAt ∈ gw := gw_in 858 (by decide +kernel) (by decide +kernel)
theorem q_860 : Cond.instanceMethod yX11_kindAt ∈ gw := gw_in 860 (by decide +kernel) (by decide +kernel)
theorem q_861 : Cond.code yX11_kindAt cX11_kindAt 3 (some .int) ∈ gw := gw_in 861 (by decide +kernel) (by decide +kernel)
theorem q_862 : Cond.constantLong RX11 78 256 ∈ gw := gw_in 862 (by decide +kernel) (by decide +kernel)
theorem q_863 : Cond.constantLong RX11 80 (-1) ∈ gw := gw_in 863 (by decide +kernel) (by decide +kernel)
theorem q_864 : Cond.methodLink RX11 107 yX11_isItem ∈ gw := gw_in 864 (by decide +kernel) (by decide +kernel)
theorem q_866 : Cond.instanceMethod yX11_isItem ∈ gw := gw_in 866 (by decide +kernel) (by decide +kernel)
theorem q_867 : Cond.code yX11_isItem cX11_isItem 2 (some .boolean) ∈ gw := gw_in 867 (by decide +kernel) (by decide +kernel)
theorem q_868 : Cond.constantLong RX11 92 27412351463812724 ∈ gw := gw_in 868 (by decide +kernel) (by decide +kernel)
theorem q_869 : Cond.methodLink RX11 94 yX11_isOne ∈ gw := gw_in 869 (by decide +kernel) (by decide +kernel)
theorem q_871 : Cond.instanceMethod yX11_isOne ∈ gw := gw_in 871 (by decide +kernel) (by decide +kernel)
theorem q_872 : Cond.code yX11_isOne cX11_isOne 4 (some .boolean) ∈ gw := gw_in 872 (by decide +kernel) (by decide +kernel)
theorem q_873 : Cond.methodLink RX11 85 yX11_isNumber ∈ gw := gw_in 873 (by decide +kernel) (by decide +kernel)
theorem q_875 : Cond.instanceMethod yX11_isNumber ∈ gw := gw_in 875 (by decide +kernel) (by decide +kernel)
theorem q_876 : Cond.code yX11_isNumber cX11_isNumber 3 (some .boolean) ∈ gw := gw_in 876 (by decide +kernel) (by decide +kernel)
theorem q_877 : Cond.constantLong RX11 97 1651076204 ∈ gw := gw_in 877 (by decide +kernel) (by decide +kernel)
theorem q_878 : Cond.methodLink RX11 99 yX11_isBillItem ∈ gw := gw_in 878 (by decide +kernel) (by decide +kernel)
theorem q_880 : Cond.instanceMethod yX11_isBillItem ∈ gw := gw_in 880 (by decide +kernel) (by decide +kernel)
theorem q_881 : Cond.code yX11_isBillItem cX11_isBillItem 3 (some .boolean) ∈ gw := gw_in 881 (by decide +kernel) (by decide +kernel)
theorem q_882 : Cond.constantLong RX11 103 495806934628 ∈ gw := gw_in 882 (by decide +kernel) (by decide +kernel)
theorem q_883 : Cond.constantLong RX11 105 6971762 ∈ gw := gw_in 883 (by decide +kernel) (by decide +kernel)
theorem q_884 : Cond.methodLink RX11 113 yX11_bring ∈ gw := gw_in 884 (by decide +kernel) (by decide +kernel)
theorem q_885 : Cond.static yX11_bring ∈ gw := gw_in 885 (by decide +kernel) (by decide +kernel)
theorem q_886 : Cond.code yX11_bring cX11_bring 6 none ∈ gw := gw_in 886 (by decide +kernel) (by decide +kernel)
theorem q_887 : Cond.methodLink RL 39 yX11_days ∈ gw := gw_in 887 (by decide +kernel) (by decide +kernel)
theorem q_888 : Cond.instanceMethod yX11_days ∈ gw := gw_in 888 (by decide +kernel) (by decide +kernel)
theorem q_889 : Cond.selects RX11 yX11_days yX11_days ∈ gw := gw_in 889 (by decide +kernel) (by decide +kernel)
theorem q_890 : Cond.code yX11_days cX11_days 4 (some .int) ∈ gw := gw_in 890 (by decide +kernel) (by decide +kernel)
theorem q_891 : Cond.methodLink RX11 129 yX11_keepBack ∈ gw := gw_in 891 (by decide +kernel) (by decide +kernel)
theorem q_893 : Cond.instanceMethod yX11_keepBack ∈ gw := gw_in 893 (by decide +kernel) (by decide +kernel)
theorem q_894 : Cond.code yX11_keepBack cX11_keepBack 1 none ∈ gw := gw_in 894 (by decide +kernel) (by decide +kernel)
theorem q_895 : Cond.methodLink RX11 132 yX11_goBy ∈ gw := gw_in 895 (by decide +kernel) (by decide +kernel)
theorem q_896 : Cond.static yX11_goBy ∈ gw := gw_in 896 (by decide +kernel) (by decide +kernel)
theorem q_897 : Cond.code yX11_goBy cX11_goBy 3 none ∈ gw := gw_in 897 (by decide +kernel) (by decide +kernel)
theorem q_898 : Cond.methodLink RX11 121 yX11_dayBy ∈ gw := gw_in 898 (by decide +kernel) (by decide +kernel)
theorem q_899 : Cond.static yX11_dayBy ∈ gw := gw_in 899 (by decide +kernel) (by decide +kernel)
theorem q_900 : Cond.code yX11_dayBy cX11_dayBy 2 (some .int) ∈ gw := gw_in 900 (by decide +kernel) (by decide +kernel)
theorem q_901 : Cond.methodLink RX11 125 yX11_drawn ∈ gw := gw_in 901 (by decide +kernel) (by decide +kernel)
theorem q_902 : Cond.static yX11_drawn ∈ gw := gw_in 902 (by decide +kernel) (by decide +kernel)
theorem q_903 : Cond.code yX11_drawn cX11_drawn 2 (some .int) ∈ gw := gw_in 903 (by decide +kernel) (by decide +kernel)
theorem q_904 : Cond.methodLink RX11 117 yX11_poundsBy ∈ gw := gw_in 904 (by decide +kernel) (by decide +kernel)
theorem q_905 : Cond.static yX11_poundsBy ∈ gw := gw_in 905 (by decide +kernel) (by decide +kernel)
theorem q_906 : Cond.code yX11_poundsBy cX11_poundsBy 3 (some .int) ∈ gw := gw_in 906 (by decide +kernel) (by decide +kernel)
theorem q_907 : Cond.methodLink RL 43 yX11_spend ∈ gw := gw_in 907 (by decide +kernel) (by decide +kernel)
theorem q_908 : Cond.instanceMethod yX11_spend ∈ gw := gw_in 908 (by decide +kernel) (by decide +kernel)
theorem q_909 : Cond.selects RX11 yX11_spend yX11_spend ∈ gw := gw_in 909 (by decide +kernel) (by decide +kernel)
theorem q_910 : Cond.code yX11_spend cX11_spend 3 (some .int) ∈ gw := gw_in 910 (by decide +kernel) (by decide +kernel)
theorem q_911 : Cond.methodLink RL 47 yX11_jar ∈ gw := gw_in 911 (by decide +kernel) (by decide +kernel)
theorem q_912 : Cond.instanceMethod yX11_jar ∈ gw := gw_in 912 (by decide +kernel) (by decide +kernel)
theorem q_913 : Cond.selects RX11 yX11_jar yX11_jar ∈ gw := gw_in 913 (by decide +kernel) (by decide +kernel)
theorem q_914 : Cond.code yX11_jar cX11_jar 2 (some .int) ∈ gw := gw_in 914 (by decide +kernel) (by decide +kernel)
theorem q_915 : Cond.methodLink RX11 136 yX11_no ∈ gw := gw_in 915 (by decide +kernel) (by decide +kernel)
theorem q_917 : Cond.instanceMethod yX11_no ∈ gw := gw_in 917 (by decide +kernel) (by decide +kernel)
theorem q_918 : Cond.code yX11_no cX11_no 1 (some .int) ∈ gw := gw_in 918 (by decide +kernel) (by decide +kernel)
theorem q_919 : Cond.methodLink RL 51 yX11_undo ∈ gw := gw_in 919 (by decide +kernel) (by decide +kernel)
theorem q_920 : Cond.instanceMethod yX11_undo ∈ gw := gw_in 920 (by decide +kernel) (by decide +kernel)
theorem q_921 : Cond.selects RX11 yX11_undo yX11_undo ∈ gw := gw_in 921 (by decide +kernel) (by decide +kernel)
theorem q_922 : Cond.code yX11_undo cX11_undo 1 (some .int) ∈ gw := gw_in 922 (by decide +kernel) (by decide +kernel)
theorem q_923 : Cond.methodLink RL 56 yX11_of ∈ gw := gw_in 923 (by decide +kernel) (by decide +kernel)
theorem q_924 : Cond.instanceMethod yX11_of ∈ gw := gw_in 924 (by decide +kernel) (by decide +kernel)
theorem q_925 : Cond.selects RX11 yX11_of yX11_of ∈ gw := gw_in 925 (by decide +kernel) (by decide +kernel)
theorem q_926 : Cond.code yX11_of cX11_of 3 (some .int) ∈ gw := gw_in 926 (by decide +kernel) (by decide +kernel)
theorem q_927 : Cond.methodLink RX11 139 yX11_isBill ∈ gw := gw_in 927 (by decide +kernel) (by decide +kernel)
theorem q_929 : Cond.instanceMethod yX11_isBill ∈ gw := gw_in 929 (by decide +kernel) (by decide +kernel)
theorem q_930 : Cond.code yX11_isBill cX11_isBill 2 (some .boolean) ∈ gw := gw_in 930 (by decide +kernel) (by decide +kernel)
theorem q_931 : Cond.methodLink RX11 143 yX11_badBy ∈ gw := gw_in 931 (by decide +kernel) (by decide +kernel)
theorem q_933 : Cond.instanceMethod yX11_badBy ∈ gw := gw_in 933 (by decide +kernel) (by decide +kernel)
theorem q_934 : Cond.code yX11_badBy cX11_badBy 2 (some .int) ∈ gw := gw_in 934 (by decide +kernel) (by decide +kernel)
theorem q_935 : Cond.methodLink RL 60 yX11_now ∈ gw := gw_in 935 (by decide +kernel) (by decide +kernel)
theorem q_936 : Cond.instanceMethod yX11_now ∈ gw := gw_in 936 (by decide +kernel) (by decide +kernel)
theorem q_937 : Cond.selects RX11 yX11_now yX11_now ∈ gw := gw_in 937 (by decide +kernel) (by decide +kernel)
theorem q_938 : Cond.code yX11_now cX11_now 2 (some .int) ∈ gw := gw_in 938 (by decide +kernel) (by decide +kernel)
theorem q_939 : Cond.constant RX11 146 (-100000) ∈ gw := gw_in 939 (by decide +kernel) (by decide +kernel)
theorem q_940 : Cond.methodLink RL 64 yX11_truly ∈ gw := gw_in 940 (by decide +kernel) (by decide +kernel)
theorem q_941 : Cond.instanceMethod yX11_truly ∈ gw := gw_in 941 (by decide +kernel) (by decide +kernel)
theorem q_942 : Cond.selects RX11 yX11_truly yX11_truly ∈ gw := gw_in 942 (by decide +kernel) (by decide +kernel)
theorem q_943 : Cond.code yX11_truly cX11_truly 4 (some .int) ∈ gw := gw_in 943 (by decide +kernel) (by decide +kernel)
theorem q_944 : Cond.methodLink RL 68 yX11_then ∈ gw := gw_in 944 (by decide +kernel) (by decide +kernel)
theorem q_945 : Cond.instanceMethod yX11_then ∈ gw := gw_in 945 (by decide +kernel) (by decide +kernel)
theorem q_946 : Cond.selects RX11 yX11_then yX11_then ∈ gw := gw_in 946 (by decide +kernel) (by decide +kernel)
theorem q_947 : Cond.code yX11_then cX11_then 4 (some .int) ∈ gw := gw_in 947 (by decide +kernel) (by decide +kernel)
theorem q_948 : Cond.methodLink RX11 147 yX11_copyNow ∈ gw := gw_in 948 (by decide +kernel) (by decide +kernel)
theorem q_950 : Cond.instanceMethod yX11_copyNow ∈ gw := gw_in 950 (by decide +kernel) (by decide +kernel)
theorem q_951 : Cond.code yX11_copyNow cX11_copyNow 1 none ∈ gw := gw_in 951 (by decide +kernel) (by decide +kernel)
theorem q_952 : Cond.methodLink RX11 150 yX11_chargesOn ∈ gw := gw_in 952 (by decide +kernel) (by decide +kernel)
theorem q_954 : Cond.instanceMethod yX11_chargesOn ∈ gw := gw_in 954 (by decide +kernel) (by decide +kernel)
theorem q_955 : Cond.code yX11_chargesOn cX11_chargesOn 5 (some .int) ∈ gw := gw_in 955 (by decide +kernel) (by decide +kernel)
theorem q_956 : Cond.methodLink RL 72 yX11_low ∈ gw := gw_in 956 (by decide +kernel) (by decide +kernel)
theorem q_957 : Cond.instanceMethod yX11_low ∈ gw := gw_in 957 (by decide +kernel) (by decide +kernel)
theorem q_958 : Cond.selects RX11 yX11_low yX11_low ∈ gw := gw_in 958 (by decide +kernel) (by decide +kernel)
theorem q_959 : Cond.code yX11_low cX11_low 7 (some .int) ∈ gw := gw_in 959 (by decide +kernel) (by decide +kernel)
theorem q_960 : Cond.methodLink RL 76 yX11_below ∈ gw := gw_in 960 (by decide +kernel) (by decide +kernel)
theorem q_961 : Cond.instanceMethod yX11_below ∈ gw := gw_in 961 (by decide +kernel) (by decide +kernel)
theorem q_962 : Cond.selects RX11 yX11_below yX11_below ∈ gw := gw_in 962 (by decide +kernel) (by decide +kernel)
theorem q_963 : Cond.code yX11_below cX11_below 1 (some .int) ∈ gw := gw_in 963 (by decide +kernel) (by decide +kernel)
theorem q_964 : Cond.methodLink RX11 153 yX11_belowIn ∈ gw := gw_in 964 (by decide +kernel) (by decide +kernel)
theorem q_966 : Cond.instanceMethod yX11_belowIn ∈ gw := gw_in 966 (by decide +kernel) (by decide +kernel)
theorem q_967 : Cond.code yX11_belowIn cX11_belowIn 4 (some .int) ∈ gw := gw_in 967 (by decide +kernel) (by decide +kernel)
theorem q_968 : Cond.methodLink RL 80 yX11_most ∈ gw := gw_in 968 (by decide +kernel) (by decide +kernel)
theorem q_969 : Cond.instanceMethod yX11_most ∈ gw := gw_in 969 (by decide +kernel) (by decide +kernel)
theorem q_970 : Cond.selects RX11 yX11_most yX11_most ∈ gw := gw_in 970 (by decide +kernel) (by decide +kernel)
theorem q_971 : Cond.code yX11_most cX11_most 3 (some .int) ∈ gw := gw_in 971 (by decide +kernel) (by decide +kernel)
theorem q_972 : Cond.methodLink RL 84 yX11_need ∈ gw := gw_in 972 (by decide +kernel) (by decide +kernel)
theorem q_973 : Cond.instanceMethod yX11_need ∈ gw := gw_in 973 (by decide +kernel) (by decide +kernel)
theorem q_974 : Cond.selects RX11 yX11_need yX11_need ∈ gw := gw_in 974 (by decide +kernel) (by decide +kernel)
theorem q_975 : Cond.code yX11_need cX11_need 3 (some .int) ∈ gw := gw_in 975 (by decide +kernel) (by decide +kernel)
theorem q_976 : Cond.methodLink RL 88 yX11_move ∈ gw := gw_in 976 (by decide +kernel) (by decide +kernel)
theorem q_977 : Cond.instanceMethod yX11_move ∈ gw := gw_in 977 (by decide +kernel) (by decide +kernel)
theorem q_978 : Cond.selects RX11 yX11_move yX11_move ∈ gw := gw_in 978 (by decide +kernel) (by decide +kernel)
theorem q_979 : Cond.code yX11_move cX11_move 6 (some .int) ∈ gw := gw_in 979 (by decide +kernel) (by decide +kernel)
theorem q_980 : Cond.methodLink RL 92 yX11_monthly ∈ gw := gw_in 980 (by decide +kernel) (by decide +kernel)
theorem q_981 : Cond.instanceMethod yX11_monthly ∈ gw := gw_in 981 (by decide +kernel) (by decide +kernel)
theorem q_982 : Cond.selects RX11 yX11_monthly yX11_monthly ∈ gw := gw_in 982 (by decide +kernel) (by decide +kernel)
theorem q_983 : Cond.code yX11_monthly cX11_monthly 4 (some .int) ∈ gw := gw_in 983 (by decide +kernel) (by decide +kernel)
theorem q_984 : Cond.methodLink RL 96 yX11_dear ∈ gw := gw_in 984 (by decide +kernel) (by decide +kernel)
theorem q_985 : Cond.instanceMethod yX11_dear ∈ gw := gw_in 985 (by decide +kernel) (by decide +kernel)
theorem q_986 : Cond.selects RX11 yX11_dear yX11_dear ∈ gw := gw_in 986 (by decide +kernel) (by decide +kernel)
theorem q_987 : Cond.code yX11_dear cX11_dear 6 (some .int) ∈ gw := gw_in 987 (by decide +kernel) (by decide +kernel)
theorem q_988 : Cond.methodLink RL 101 yX11_note ∈ gw := gw_in 988 (by decide +kernel) (by decide +kernel)
theorem q_989 : Cond.instanceMethod yX11_note ∈ gw := gw_in 989 (by decide +kernel) (by decide +kernel)
theorem q_990 : Cond.selects RX11 yX11_note yX11_note ∈ gw := gw_in 990 (by decide +kernel) (by decide +kernel)
theorem q_991 : Cond.code yX11_note cX11_note 7 (some .int) ∈ gw := gw_in 991 (by decide +kernel) (by decide +kernel)
theorem q_992 : Cond.methodLink RL 105 yX11_forget ∈ gw := gw_in 992 (by decide +kernel) (by decide +kernel)
theorem q_993 : Cond.instanceMethod yX11_forget ∈ gw := gw_in 993 (by decide +kernel) (by decide +kernel)
theorem q_994 : Cond.selects RX11 yX11_forget yX11_forget ∈ gw := gw_in 994 (by decide +kernel) (by decide +kernel)
theorem q_995 : Cond.code yX11_forget cX11_forget 2 (some .int) ∈ gw := gw_in 995 (by decide +kernel) (by decide +kernel)
theorem q_996 : Cond.methodLink RL 109 yX11_is ∈ gw := gw_in 996 (by decide +kernel) (by decide +kernel)
theorem q_997 : Cond.instanceMethod yX11_is ∈ gw := gw_in 997 (by decide +kernel) (by decide +kernel)
theorem q_998 : Cond.selects RX11 yX11_is yX11_is ∈ gw := gw_in 998 (by decide +kernel) (by decide +kernel)
theorem q_999 : Cond.code yX11_is cX11_is 2 (some .int) ∈ gw := gw_in 999 (by decide +kernel) (by decide +kernel)
theorem q_1000 : Cond.methodLink RX11 156 yX11_kindsOf ∈ gw := gw_in 1000 (by decide +kernel) (by decide +kernel)
theorem q_1002 : Cond.instanceMethod yX11_kindsOf ∈ gw := gw_in 1002 (by decide +kernel) (by decide +kernel)
theorem q_1003 : Cond.code yX11_kindsOf cX11_kindsOf 8 (some .int) ∈ gw := gw_in 1003 (by decide +kernel) (by decide +kernel)
theorem q_1004 : Cond.methodLink RL 113 yX11_look ∈ gw := gw_in 1004 (by decide +kernel) (by decide +kernel)
theorem q_1005 : Cond.instanceMethod yX11_look ∈ gw := gw_in 1005 (by decide +kernel) (by decide +kernel)
theorem q_1006 : Cond.selects RX11 yX11_look yX11_look ∈ gw := gw_in 1006 (by decide +kernel) (by decide +kernel)
theorem q_1007 : Cond.code yX11_look cX11_look 9 (some .int) ∈ gw := gw_in 1007 (by decide +kernel) (by decide +kernel)
theorem q_1008 : Cond.methodLink RX11 159 yX11_alikeBy ∈ gw := gw_in 1008 (by decide +kernel) (by decide +kernel)
theorem q_1010 : Cond.instanceMethod yX11_alikeBy ∈ gw := gw_in 1010 (by decide +kernel) (by decide +kernel)
theorem q_1011 : Cond.code yX11_alikeBy cX11_alikeBy 8 (some .int) ∈ gw := gw_in 1011 (by decide +kernel) (by decide +kernel)
theorem q_1012 : Cond.methodLink RL 117 yX11_two ∈ gw := gw_in 1012 (by decide +kernel) (by decide +kernel)
theorem q_1013 : Cond.instanceMethod yX11_two ∈ gw := gw_in 1013 (by decide +kernel) (by decide +kernel)
theorem q_1014 : Cond.selects RX11 yX11_two yX11_two ∈ gw := gw_in 1014 (by decide +kernel) (by decide +kernel)
theorem q_1015 : Cond.code yX11_two cX11_two 5 (some .int) ∈ gw := gw_in 1015 (by decide +kernel) (by decide +kernel)
theorem q_1016 : Cond.methodLink RX11 166 yX11_rests ∈ gw := gw_in 1016 (by decide +kernel) (by decide +kernel)
theorem q_1018 : Cond.instanceMethod yX11_rests ∈ gw := gw_in 1018 (by decide +kernel) (by decide +kernel)
theorem q_1019 : Cond.code yX11_rests cX11_rests 6 (some .boolean) ∈ gw := gw_in 1019 (by decide +kernel) (by decide +kernel)
theorem q_1020 : Cond.methodLink RX11 163 yX11_gets ∈ gw := gw_in 1020 (by decide +kernel) (by decide +kernel)
theorem q_1022 : Cond.instanceMethod yX11_gets ∈ gw := gw_in 1022 (by decide +kernel) (by decide +kernel)
theorem q_1023 : Cond.code yX11_gets cX11_gets 4 (some .int) ∈ gw := gw_in 1023 (by decide +kernel) (by decide +kernel)
theorem q_1024 : Cond.methodLink RL 121 yX11_boiler ∈ gw := gw_in 1024 (by decide +kernel) (by decide +kernel)
theorem q_1025 : Cond.instanceMethod yX11_boiler ∈ gw := gw_in 1025 (by decide +kernel) (by decide +kernel)
theorem q_1026 : Cond.selects RX11 yX11_boiler yX11_boiler ∈ gw := gw_in 1026 (by decide +kernel) (by decide +kernel)
theorem q_1027 : Cond.code yX11_boiler cX11_boiler 12 (some .int) ∈ gw := gw_in 1027 (by decide +kernel) (by decide +kernel)
theorem q_1028 : Cond.constantLong RX11 169 10 ∈ gw := gw_in 1028 (by decide +kernel) (by decide +kernel)
theorem q_1029 : Cond.methodLink RL 125 yX11_years ∈ gw := gw_in 1029 (by decide +kernel) (by decide +kernel)
theorem q_1030 : Cond.instanceMethod yX11_years ∈ gw := gw_in 1030 (by decide +kernel) (by decide +kernel)
theorem q_1031 : Cond.selects RX11 yX11_years yX11_years ∈ gw := gw_in 1031 (by decide +kernel) (by decide +kernel)
theorem q_1032 : Cond.code yX11_years cX11_years 6 (some .int) ∈ gw := gw_in 1032 (by decide +kernel) (by decide +kernel)
theorem q_1033 : Cond.constant RX11 174 999999 ∈ gw := gw_in 1033 (by decide +kernel) (by decide +kernel)
theorem q_1034 : Cond.constantLong RX11 175 1103515245 ∈ gw := gw_in 1034 (by decide +kernel) (by decide +kernel)
theorem q_1035 : Cond.constantLong RX11 177 12345 ∈ gw := gw_in 1035 (by decide +kernel) (by decide +kernel)
theorem q_1036 : Cond.constantLong RX11 179 2147483648 ∈ gw := gw_in 1036 (by decide +kernel) (by decide +kernel)
theorem q_1037 : Cond.constantLong RX11 181 65536 ∈ gw := gw_in 1037 (by decide +kernel) (by decide +kernel)
theorem q_1038 : Cond.constantLong RX11 183 31 ∈ gw := gw_in 1038 (by decide +kernel) (by decide +kernel)
theorem q_1039 : Cond.methodLink RL 130 yX11_part ∈ gw := gw_in 1039 (by decide +kernel) (by decide +kernel)
theorem q_1040 : Cond.instanceMethod yX11_part ∈ gw := gw_in 1040 (by decide +kernel) (by decide +kernel)
theorem q_1041 : Cond.selects RX11 yX11_part yX11_part ∈ gw := gw_in 1041 (by decide +kernel) (by decide +kernel)
theorem q_1042 : Cond.code yX11_part cX11_part 2 (some .long) ∈ gw := gw_in 1042 (by decide +kernel) (by decide +kernel)
theorem q_1043 : Cond.methodLink RL 134 yX11_image ∈ gw := gw_in 1043 (by decide +kernel) (by decide +kernel)
theorem q_1044 : Cond.instanceMethod yX11_image ∈ gw := gw_in 1044 (by decide +kernel) (by decide +kernel)
theorem q_1045 : Cond.selects RX11 yX11_image yX11_image ∈ gw := gw_in 1045 (by decide +kernel) (by decide +kernel)
theorem q_1046 : Cond.code yX11_image cX11_image 2 (some .int) ∈ gw := gw_in 1046 (by decide +kernel) (by decide +kernel)
theorem q_1047 : Cond.methodLink RL 138 yX11_from ∈ gw := gw_in 1047 (by decide +kernel) (by decide +kernel)
theorem q_1048 : Cond.instanceMethod yX11_from ∈ gw := gw_in 1048 (by decide +kernel) (by decide +kernel)
theorem q_1049 : Cond.selects RX11 yX11_from yX11_from ∈ gw := gw_in 1049 (by decide +kernel) (by decide +kernel)
theorem q_1050 : Cond.code yX11_from cX11_from 2 (some .int) ∈ gw := gw_in 1050 (by decide +kernel) (by decide +kernel)
theorem q_1051 : Cond.methodLink RL 142 yX11_status ∈ gw := gw_in 1051 (by decide +kernel) (by decide +kernel)
theorem q_1052 : Cond.instanceMethod yX11_status ∈ gw := gw_in 1052 (by decide +kernel) (by decide +kernel)
theorem q_1053 : Cond.selects RX11 yX11_status yX11_status ∈ gw := gw_in 1053 (by decide +kernel) (by decide +kernel)
theorem q_1054 : Cond.code yX11_status cX11_status 2 (some .int) ∈ gw := gw_in 1054 (by decide +kernel) (by decide +kernel)
theorem q_1055 : Cond.methodLink RL 146 yX11_count ∈ gw := gw_in 1055 (by decide +kernel) (by decide +kernel)
theorem q_1056 : Cond.instanceMethod yX11_count ∈ gw := gw_in 1056 (by decide +kernel) (by decide +kernel)
theorem q_1057 : Cond.selects RX11 yX11_count yX11_count ∈ gw := gw_in 1057 (by decide +kernel) (by decide +kernel)
theorem q_1058 : Cond.code yX11_count cX11_count 2 (some .int) ∈ gw := gw_in 1058 (by decide +kernel) (by decide +kernel)
theorem q_1059 : Cond.methodLink RX11 185 yX11_counted ∈ gw := gw_in 1059 (by decide +kernel) (by decide +kernel)
theorem q_1061 : Cond.instanceMethod yX11_counted ∈ gw := gw_in 1061 (by decide +kernel) (by decide +kernel)
theorem q_1062 : Cond.code yX11_counted cX11_counted 2 (some .int) ∈ gw := gw_in 1062 (by decide +kernel) (by decide +kernel)
theorem q_1063 : Cond.methodLink RL 151 yX11_digest ∈ gw := gw_in 1063 (by decide +kernel) (by decide +kernel)
theorem q_1064 : Cond.instanceMethod yX11_digest ∈ gw := gw_in 1064 (by decide +kernel) (by decide +kernel)
theorem q_1065 : Cond.selects RX11 yX11_digest yX11_digest ∈ gw := gw_in 1065 (by decide +kernel) (by decide +kernel)
theorem q_1066 : Cond.code yX11_digest cX11_digest 4 (some .long) ∈ gw := gw_in 1066 (by decide +kernel) (by decide +kernel)
theorem q_1067 : Cond.constantLong RX11 188 1373 ∈ gw := gw_in 1067 (by decide +kernel) (by decide +kernel)
theorem q_1068 : Cond.sameMethod RX7 RX7 "poundsIn" "(II)I" ∈ gw := gw_in 1068 (by decide +kernel) (by decide +kernel)
end
section
theorem okX0_init : g_ok mX0_init := ⟨by decide +kernel, q_82, q_52, by decide, by decide⟩
theorem okX0_beginWith : g_ok mX0_beginWith := ⟨by decide +kernel, q_309, q_52, by decide, by decide⟩
theorem okX0_addBill : g_ok mX0_addBill := ⟨by decide +kernel, q_327, q_52, by decide, by decide⟩
theorem okX0_kindAt : g_ok mX0_kindAt := ⟨by decide +kernel, q_469, q_52, by decide, by decide⟩
theorem okX0_dayAt : g_ok mX0_dayAt := ⟨by decide +kernel, q_481, q_52, by decide, by decide⟩
theorem okX0_poundsAt : g_ok mX0_poundsAt := ⟨by decide +kernel, q_501, q_52, by decide, by decide⟩
theorem okX0_billPart : g_ok mX0_billPart := ⟨by decide +kernel, q_473, q_52, by decide, by decide⟩
theorem okX0_addNote : g_ok mX0_addNote := ⟨by decide +kernel, q_647, q_52, by decide, by decide⟩
theorem okX0_notePart : g_ok mX0_notePart := ⟨by decide +kernel, q_667, q_52, by decide, by decide⟩
theorem okX0_keepPast : g_ok mX0_keepPast := ⟨by decide +kernel, q_457, q_52, by decide, by decide⟩
theorem okX0_stepBack : g_ok mX0_stepBack := ⟨by decide +kernel, q_542, q_52, by decide, by decide⟩
theorem okX0_copyFrom : g_ok mX0_copyFrom := ⟨by decide +kernel, q_446, q_52, by decide, by decide⟩
theorem okX1_init : g_ok mX1_init := ⟨by decide +kernel, q_188, q_59, by decide, by decide⟩
theorem okX1_drawnOn : g_ok mX1_drawnOn := ⟨by decide +kernel, q_488, q_59, by decide, by decide⟩
theorem okX2_init : g_ok mX2_init := ⟨by decide +kernel, q_161, q_55, by decide, by decide⟩
theorem okX2_numbered : g_ok mX2_numbered := ⟨by decide +kernel, q_477, q_55, by decide, by decide⟩
theorem okX3_init : g_ok mX3_init := ⟨by decide +kernel, q_174, q_57, by decide, by decide⟩
theorem okX3_drawnOn : g_ok mX3_drawnOn := ⟨by decide +kernel, q_492, q_57, by decide, by decide⟩
theorem okX4_init : g_ok mX4_init := ⟨by decide +kernel, q_155, q_54, by decide, by decide⟩
theorem okX4_lay : g_ok mX4_lay := ⟨by decide +kernel, q_571, q_54, by decide, by decide⟩
theorem okX4_put : g_ok mX4_put := ⟨by decide +kernel, q_583, q_54, by decide, by decide⟩
theorem okX4_drawMore : g_ok mX4_drawMore := ⟨by decide +kernel, q_725, q_54, by decide, by decide⟩
theorem okX4_run : g_ok mX4_run := ⟨by decide +kernel, q_595, q_54, by decide, by decide⟩
theorem okX4_mostSpending : g_ok mX4_mostSpending := ⟨by decide +kernel, q_611, q_54, by decide, by decide⟩
theorem okX4_leastMore : g_ok mX4_leastMore := ⟨by decide +kernel, q_622, q_54, by decide, by decide⟩
theorem okX5_init : g_ok mX5_init := ⟨by decide +kernel, q_202, q_61, by decide, by decide⟩
theorem okX5_poundsIn : g_ok mX5_poundsIn := ⟨by decide +kernel, q_510, q_61, by decide, by decide⟩
theorem okX6_init : g_ok mX6_init := ⟨by decide +kernel, q_167, q_56, by decide, by decide⟩
theorem okX6_drawnOn : g_ok mX6_drawnOn := ⟨by decide +kernel, q_497, q_56, by decide, by decide⟩
theorem okX6_poundsIn : g_ok mX6_poundsIn := ⟨by decide +kernel, q_522, q_56, by decide, by decide⟩
theorem okX7_init : g_ok mX7_init := ⟨by decide +kernel, q_181, q_58, by decide, by decide⟩
theorem okX7_poundsIn : g_ok mX7_poundsIn := ⟨by decide +kernel, q_516, q_58, by decide, by decide⟩
theorem okX8_init : g_ok mX8_init := ⟨by decide +kernel, q_121, q_53, by decide, by decide⟩
theorem okX8_addByte : g_ok mX8_addByte := ⟨by decide +kernel, q_335, q_53, by decide, by decide⟩
theorem okX8_itemsOrFault : g_ok mX8_itemsOrFault := ⟨by decide +kernel, q_347, q_53, by decide, by decide⟩
theorem okX8_takeItem : g_ok mX8_takeItem := ⟨by decide +kernel, q_365, q_53, by decide, by decide⟩
theorem okX8_takeAccount : g_ok mX8_takeAccount := ⟨by decide +kernel, q_422, q_53, by decide, by decide⟩
theorem okX8_takeBill : g_ok mX8_takeBill := ⟨by decide +kernel, q_435, q_53, by decide, by decide⟩
theorem okX8_takeFigure : g_ok mX8_takeFigure := ⟨by decide +kernel, q_441, q_53, by decide, by decide⟩
theorem okX8_takeNumber : g_ok mX8_takeNumber := ⟨by decide +kernel, q_426, q_53, by decide, by decide⟩
theorem okX8_takeStop : g_ok mX8_takeStop := ⟨by decide +kernel, q_430, q_53, by decide, by decide⟩
theorem okX8_spells : g_ok mX8_spells := ⟨by decide +kernel, q_370, q_53, by decide, by decide⟩
theorem okX8_takeToken : g_ok mX8_takeToken := ⟨by decide +kernel, q_352, q_53, by decide, by decide⟩
theorem okX8_skipRun : g_ok mX8_skipRun := ⟨by decide +kernel, q_356, q_53, by decide, by decide⟩
theorem okX8_byteAt : g_ok mX8_byteAt := ⟨by decide +kernel, q_360, q_53, by decide, by decide⟩
theorem okX9_init : g_ok mX9_init := ⟨by decide +kernel, q_195, q_60, by decide, by decide⟩
theorem okX9_poundsIn : g_ok mX9_poundsIn := ⟨by decide +kernel, q_520, q_60, by decide, by decide⟩
theorem okX10_init : g_ok mX10_init := ⟨by decide +kernel, q_74, q_51, by decide, by decide⟩
theorem okX10_account : g_ok mX10_account := ⟨by decide +kernel, q_298, q_51, by decide, by decide⟩
theorem okX10_bill : g_ok mX10_bill := ⟨by decide +kernel, q_316, q_51, by decide, by decide⟩
theorem okX10_type : g_ok mX10_type := ⟨by decide +kernel, q_331, q_51, by decide, by decide⟩
theorem okX10_clear : g_ok mX10_clear := ⟨by decide +kernel, q_339, q_51, by decide, by decide⟩
theorem okX10_read : g_ok mX10_read := ⟨by decide +kernel, q_343, q_51, by decide, by decide⟩
theorem okX10_days : g_ok mX10_days := ⟨by decide +kernel, q_453, q_51, by decide, by decide⟩
theorem okX10_spend : g_ok mX10_spend := ⟨by decide +kernel, q_526, q_51, by decide, by decide⟩
theorem okX10_jar : g_ok mX10_jar := ⟨by decide +kernel, q_530, q_51, by decide, by decide⟩
theorem okX10_undo : g_ok mX10_undo := ⟨by decide +kernel, q_538, q_51, by decide, by decide⟩
theorem okX10_of : g_ok mX10_of := ⟨by decide +kernel, q_546, q_51, by decide, by decide⟩
theorem okX10_now : g_ok mX10_now := ⟨by decide +kernel, q_554, q_51, by decide, by decide⟩
theorem okX10_truly : g_ok mX10_truly := ⟨by decide +kernel, q_559, q_51, by decide, by decide⟩
theorem okX10_then : g_ok mX10_then := ⟨by decide +kernel, q_563, q_51, by decide, by decide⟩
theorem okX10_low : g_ok mX10_low := ⟨by decide +kernel, q_599, q_51, by decide, by decide⟩
theorem okX10_below : g_ok mX10_below := ⟨by decide +kernel, q_603, q_51, by decide, by decide⟩
theorem okX10_most : g_ok mX10_most := ⟨by decide +kernel, q_607, q_51, by decide, by decide⟩
theorem okX10_need : g_ok mX10_need := ⟨by decide +kernel, q_618, q_51, by decide, by decide⟩
theorem okX10_move : g_ok mX10_move := ⟨by decide +kernel, q_626, q_51, by decide, by decide⟩
theorem okX10_monthly : g_ok mX10_monthly := ⟨by decide +kernel, q_635, q_51, by decide, by decide⟩
theorem okX10_dear : g_ok mX10_dear := ⟨by decide +kernel, q_639, q_51, by decide, by decide⟩
theorem okX10_note : g_ok mX10_note := ⟨by decide +kernel, q_643, q_51, by decide, by decide⟩
theorem okX10_forget : g_ok mX10_forget := ⟨by decide +kernel, q_651, q_51, by decide, by decide⟩
theorem okX10_is : g_ok mX10_is := ⟨by decide +kernel, q_655, q_51, by decide, by decide⟩
theorem okX10_look : g_ok mX10_look := ⟨by decide +kernel, q_675, q_51, by decide, by decide⟩
theorem okX10_two : g_ok mX10_two := ⟨by decide +kernel, q_691, q_51, by decide, by decide⟩
theorem okX10_boiler : g_ok mX10_boiler := ⟨by decide +kernel, q_707, q_51, by decide, by decide⟩
theorem okX10_years : g_ok mX10_years := ⟨by decide +kernel, q_715, q_51, by decide, by decide⟩
theorem okX10_part : g_ok mX10_part := ⟨by decide +kernel, q_729, q_51, by decide, by decide⟩
theorem okX10_image : g_ok mX10_image := ⟨by decide +kernel, q_733, q_51, by decide, by decide⟩
theorem okX10_from : g_ok mX10_from := ⟨by decide +kernel, q_741, q_51, by decide, by decide⟩
theorem okX10_status : g_ok mX10_status := ⟨by decide +kernel, q_745, q_51, by decide, by decide⟩
theorem okX10_count : g_ok mX10_count := ⟨by decide +kernel, q_749, q_51, by decide, by decide⟩
theorem okX10_digest : g_ok mX10_digest := ⟨by decide +kernel, q_753, q_51, by decide, by decide⟩
theorem okX10_digestOf : g_ok mX10_digestOf := ⟨by decide +kernel, q_757, q_51, by decide, by decide⟩
theorem okX10_within : g_ok mX10_within := ⟨by decide +kernel, q_301, q_51, by decide, by decide⟩
theorem okX10_isBill : g_ok mX10_isBill := ⟨by decide +kernel, q_319, q_51, by decide, by decide⟩
theorem okX10_isBillNumber : g_ok mX10_isBillNumber := ⟨by decide +kernel, q_550, q_51, by decide, by decide⟩
theorem okX10_refuseBad : g_ok mX10_refuseBad := ⟨by decide +kernel, q_305, q_51, by decide, by decide⟩
theorem okX10_refuseNo : g_ok mX10_refuseNo := ⟨by decide +kernel, q_534, q_51, by decide, by decide⟩
theorem okX10_refuseFull : g_ok mX10_refuseFull := ⟨by decide +kernel, q_323, q_51, by decide, by decide⟩
theorem okX10_imageAt : g_ok mX10_imageAt := ⟨by decide +kernel, q_737, q_51, by decide, by decide⟩
theorem okX10_passDay : g_ok mX10_passDay := ⟨by decide +kernel, q_461, q_51, by decide, by decide⟩
theorem okX10_drawnToday : g_ok mX10_drawnToday := ⟨by decide +kernel, q_465, q_51, by decide, by decide⟩
theorem okX10_foresee : g_ok mX10_foresee := ⟨by decide +kernel, q_567, q_51, by decide, by decide⟩
theorem okX10_chargesAsLaid : g_ok mX10_chargesAsLaid := ⟨by decide +kernel, q_630, q_51, by decide, by decide⟩
theorem okX10_kindsThatFit : g_ok mX10_kindsThatFit := ⟨by decide +kernel, q_659, q_51, by decide, by decide⟩
theorem okX10_fitsNotes : g_ok mX10_fitsNotes := ⟨by decide +kernel, q_663, q_51, by decide, by decide⟩
theorem okX10_fitsNote : g_ok mX10_fitsNote := ⟨by decide +kernel, q_671, q_51, by decide, by decide⟩
theorem okX10_mostAlike : g_ok mX10_mostAlike := ⟨by decide +kernel, q_679, q_51, by decide, by decide⟩
theorem okX10_alikeTo : g_ok mX10_alikeTo := ⟨by decide +kernel, q_686, q_51, by decide, by decide⟩
theorem okX10_hasBit : g_ok mX10_hasBit := ⟨by decide +kernel, q_682, q_51, by decide, by decide⟩
theorem okX10_layChargesByExtra : g_ok mX10_layChargesByExtra := ⟨by decide +kernel, q_695, q_51, by decide, by decide⟩
theorem okX10_isBestAgainst : g_ok mX10_isBestAgainst := ⟨by decide +kernel, q_699, q_51, by decide, by decide⟩
theorem okX10_gainOf : g_ok mX10_gainOf := ⟨by decide +kernel, q_703, q_51, by decide, by decide⟩
theorem okX10_setTenths : g_ok mX10_setTenths := ⟨by decide +kernel, q_711, q_51, by decide, by decide⟩
theorem okX11_init : g_ok mX11_init := ⟨by decide +kernel, q_762, q_62, by decide, by decide⟩
theorem okX11_begin : g_ok mX11_begin := ⟨by decide +kernel, q_766, q_62, by decide, by decide⟩
theorem okX11_in : g_ok mX11_in := ⟨by decide +kernel, q_822, q_62, by decide, by decide⟩
theorem okX11_bad : g_ok mX11_bad := ⟨by decide +kernel, q_826, q_62, by decide, by decide⟩
theorem okX11_badBy : g_ok mX11_badBy := ⟨by decide +kernel, q_934, q_62, by decide, by decide⟩
theorem okX11_no : g_ok mX11_no := ⟨by decide +kernel, q_918, q_62, by decide, by decide⟩
theorem okX11_full : g_ok mX11_full := ⟨by decide +kernel, q_834, q_62, by decide, by decide⟩
theorem okX11_isBill : g_ok mX11_isBill := ⟨by decide +kernel, q_930, q_62, by decide, by decide⟩
theorem okX11_bring : g_ok mX11_bring := ⟨by decide +kernel, q_886, q_62, by decide, by decide⟩
theorem okX11_account : g_ok mX11_account := ⟨by decide +kernel, q_819, q_62, by decide, by decide⟩
theorem okX11_addBill : g_ok mX11_addBill := ⟨by decide +kernel, q_837, q_62, by decide, by decide⟩
theorem okX11_bill : g_ok mX11_bill := ⟨by decide +kernel, q_830, q_62, by decide, by decide⟩
theorem okX11_type : g_ok mX11_type := ⟨by decide +kernel, q_841, q_62, by decide, by decide⟩
theorem okX11_clear : g_ok mX11_clear := ⟨by decide +kernel, q_845, q_62, by decide, by decide⟩
theorem okX11_kindAt : g_ok mX11_kindAt := ⟨by decide +kernel, q_861, q_62, by decide, by decide⟩
theorem okX11_nextToken : g_ok mX11_nextToken := ⟨by decide +kernel, q_857, q_62, by decide, by decide⟩
theorem okX11_isNumber : g_ok mX11_isNumber := ⟨by decide +kernel, q_876, q_62, by decide, by decide⟩
theorem okX11_isBillItem : g_ok mX11_isBillItem := ⟨by decide +kernel, q_881, q_62, by decide, by decide⟩
theorem okX11_isOne : g_ok mX11_isOne := ⟨by decide +kernel, q_872, q_62, by decide, by decide⟩
theorem okX11_isItem : g_ok mX11_isItem := ⟨by decide +kernel, q_867, q_62, by decide, by decide⟩
theorem okX11_isRead : g_ok mX11_isRead := ⟨by decide +kernel, q_853, q_62, by decide, by decide⟩
theorem okX11_read : g_ok mX11_read := ⟨by decide +kernel, q_849, q_62, by decide, by decide⟩
theorem okX11_dayBy : g_ok mX11_dayBy := ⟨by decide +kernel, q_900, q_62, by decide, by decide⟩
theorem okX11_poundsBy : g_ok mX11_poundsBy := ⟨by decide +kernel, q_906, q_62, by decide, by decide⟩
theorem okX11_drawn : g_ok mX11_drawn := ⟨by decide +kernel, q_903, q_62, by decide, by decide⟩
theorem okX11_goBy : g_ok mX11_goBy := ⟨by decide +kernel, q_897, q_62, by decide, by decide⟩
theorem okX11_keepBack : g_ok mX11_keepBack := ⟨by decide +kernel, q_894, q_62, by decide, by decide⟩
theorem okX11_days : g_ok mX11_days := ⟨by decide +kernel, q_890, q_62, by decide, by decide⟩
theorem okX11_spend : g_ok mX11_spend := ⟨by decide +kernel, q_910, q_62, by decide, by decide⟩
theorem okX11_jar : g_ok mX11_jar := ⟨by decide +kernel, q_914, q_62, by decide, by decide⟩
theorem okX11_undo : g_ok mX11_undo := ⟨by decide +kernel, q_922, q_62, by decide, by decide⟩
theorem okX11_of : g_ok mX11_of := ⟨by decide +kernel, q_926, q_62, by decide, by decide⟩
theorem okX11_now : g_ok mX11_now := ⟨by decide +kernel, q_938, q_62, by decide, by decide⟩
theorem okX11_truly : g_ok mX11_truly := ⟨by decide +kernel, q_943, q_62, by decide, by decide⟩
theorem okX11_copyNow : g_ok mX11_copyNow := ⟨by decide +kernel, q_951, q_62, by decide, by decide⟩
theorem okX11_chargesOn : g_ok mX11_chargesOn := ⟨by decide +kernel, q_955, q_62, by decide, by decide⟩
theorem okX11_then : g_ok mX11_then := ⟨by decide +kernel, q_947, q_62, by decide, by decide⟩
theorem okX11_low : g_ok mX11_low := ⟨by decide +kernel, q_959, q_62, by decide, by decide⟩
theorem okX11_belowIn : g_ok mX11_belowIn := ⟨by decide +kernel, q_967, q_62, by decide, by decide⟩
theorem okX11_below : g_ok mX11_below := ⟨by decide +kernel, q_963, q_62, by decide, by decide⟩
theorem okX11_most : g_ok mX11_most := ⟨by decide +kernel, q_971, q_62, by decide, by decide⟩
theorem okX11_need : g_ok mX11_need := ⟨by decide +kernel, q_975, q_62, by decide, by decide⟩
theorem okX11_move : g_ok mX11_move := ⟨by decide +kernel, q_979, q_62, by decide, by decide⟩
theorem okX11_monthly : g_ok mX11_monthly := ⟨by decide +kernel, q_983, q_62, by decide, by decide⟩
theorem okX11_dear : g_ok mX11_dear := ⟨by decide +kernel, q_987, q_62, by decide, by decide⟩
theorem okX11_note : g_ok mX11_note := ⟨by decide +kernel, q_991, q_62, by decide, by decide⟩
theorem okX11_forget : g_ok mX11_forget := ⟨by decide +kernel, q_995, q_62, by decide, by decide⟩
theorem okX11_kindsOf : g_ok mX11_kindsOf := ⟨by decide +kernel, q_1003, q_62, by decide, by decide⟩
theorem okX11_is : g_ok mX11_is := ⟨by decide +kernel, q_999, q_62, by decide, by decide⟩
theorem okX11_alikeBy : g_ok mX11_alikeBy := ⟨by decide +kernel, q_1011, q_62, by decide, by decide⟩
theorem okX11_look : g_ok mX11_look := ⟨by decide +kernel, q_1007, q_62, by decide, by decide⟩
theorem okX11_gets : g_ok mX11_gets := ⟨by decide +kernel, q_1023, q_62, by decide, by decide⟩
theorem okX11_rests : g_ok mX11_rests := ⟨by decide +kernel, q_1019, q_62, by decide, by decide⟩
theorem okX11_two : g_ok mX11_two := ⟨by decide +kernel, q_1015, q_62, by decide, by decide⟩
theorem okX11_boiler : g_ok mX11_boiler := ⟨by decide +kernel, q_1027, q_62, by decide, by decide⟩
theorem okX11_years : g_ok mX11_years := ⟨by decide +kernel, q_1032, q_62, by decide, by decide⟩
theorem okX11_part : g_ok mX11_part := ⟨by decide +kernel, q_1042, q_62, by decide, by decide⟩
theorem okX11_image : g_ok mX11_image := ⟨by decide +kernel, q_1046, q_62, by decide, by decide⟩
theorem okX11_from : g_ok mX11_from := ⟨by decide +kernel, q_1050, q_62, by decide, by decide⟩
theorem okX11_status : g_ok mX11_status := ⟨by decide +kernel, q_1054, q_62, by decide, by decide⟩
theorem okX11_counted : g_ok mX11_counted := ⟨by decide +kernel, q_1062, q_62, by decide, by decide⟩
theorem okX11_count : g_ok mX11_count := ⟨by decide +kernel, q_1058, q_62, by decide, by decide⟩
theorem okX11_digest : g_ok mX11_digest := ⟨by decide +kernel, q_1066, q_62, by decide, by decide⟩
theorem okJ9_floorDiv_7cf53 : g_ok mJ9_floorDiv_7cf53 := ⟨by decide +kernel, q_614, q_69, by decide, by decide⟩
theorem okJ9_floorMod_7cf53 : g_ok mJ9_floorMod_7cf53 := ⟨by decide +kernel, q_589, q_69, by decide, by decide⟩
theorem okJ9_max_7cf53 : g_ok mJ9_max_7cf53 := ⟨by decide +kernel, q_577, q_69, by decide, by decide⟩
theorem okJ9_min_7cf53 : g_ok mJ9_min_7cf53 := ⟨by decide +kernel, q_574, q_69, by decide, by decide⟩
theorem okJ0_length_8abf5 : g_ok mJ0_length_8abf5 := ⟨by decide +kernel, q_374, q_64, by decide, by decide⟩
theorem okJ0_charAt_5068e : g_ok mJ0_charAt_5068e := ⟨by decide +kernel, q_384, q_64, by decide, by decide⟩
theorem okJ0_coder_7d493 : g_ok mJ0_coder_7d493 := ⟨by decide +kernel, q_378, q_64, by decide, by decide⟩
theorem okJ0_isLatin1_aae02 : g_ok mJ0_isLatin1_aae02 := ⟨by decide +kernel, q_388, q_64, by decide, by decide⟩
theorem okJ0_checkIndex_df160 : g_ok mJ0_checkIndex_df160 := ⟨by decide +kernel, q_394, q_64, by decide, by decide⟩
theorem okJ1_charAt_3b067 : g_ok mJ1_charAt_3b067 := ⟨by decide +kernel, q_391, q_65, by decide, by decide⟩
theorem okJ7_fill_53178 : g_ok mJ7_fill_53178 := ⟨by decide +kernel, q_312, q_63, by decide, by decide⟩
theorem okJ3_checkIndex_8e157 : g_ok mJ3_checkIndex_8e157 := ⟨by decide +kernel, q_399, q_66, by decide, by decide⟩
theorem ff_X0_9 : g_Ff RX0 9 0 0 := ⟨RX0, TX0, 7, rfl, by decide, rfl, rfl, q_84⟩
theorem ff_X0_15 : g_Ff RX0 15 0 1 := ⟨RX0, TX0, 7, rfl, by decide, rfl, rfl, q_88⟩
theorem ff_X0_18 : g_Ff RX0 18 0 2 := ⟨RX0, TX0, 7, rfl, by decide, rfl, rfl, q_90⟩
theorem ff_X0_21 : g_Ff RX0 21 0 3 := ⟨RX0, TX0, 7, rfl, by decide, rfl, rfl, q_92⟩
theorem gf_X0_9 : g_Gf RX0 9 0 0 := ⟨RX0, TX0, 7, rfl, by decide, Or.inl q_84⟩
theorem pf_X0_30 : g_Pf RX0 30 0 4 := ⟨RX0, TX0, 7, rfl, by decide, rfl, Or.inl q_94⟩
theorem pf_X0_34 : g_Pf RX0 34 0 5 := ⟨RX0, TX0, 7, rfl, by decide, rfl, Or.inl q_97⟩
theorem pf_X0_37 : g_Pf RX0 37 0 6 := ⟨RX0, TX0, 7, rfl, by decide, rfl, Or.inl q_99⟩
theorem gf_X0_30 : g_Gf RX0 30 0 4 := ⟨RX0, TX0, 7, rfl, by decide, Or.inl q_94⟩
theorem gf_X0_15 : g_Gf RX0 15 0 1 := ⟨RX0, TX0, 7, rfl, by decide, Or.inl q_88⟩
theorem gf_X0_34 : g_Gf RX0 34 0 5 := ⟨RX0, TX0, 7, rfl, by decide, Or.inl q_97⟩
theorem gf_X0_18 : g_Gf RX0 18 0 2 := ⟨RX0, TX0, 7, rfl, by decide, Or.inl q_90⟩
theorem gf_X0_37 : g_Gf RX0 37 0 6 := ⟨RX0, TX0, 7, rfl, by decide, Or.inl q_99⟩
theorem gf_X0_21 : g_Gf RX0 21 0 3 := ⟨RX0, TX0, 7, rfl, by decide, Or.inl q_92⟩
theorem ff_X2_10 : g_Ff RX2 10 2 0 := ⟨RX2, TX2, 6, rfl, by decide, rfl, rfl, q_205⟩
theorem ff_X2_19 : g_Ff RX2 19 2 1 := ⟨RX2, TX2, 6, rfl, by decide, rfl, rfl, q_206⟩
theorem ff_X2_26 : g_Ff RX2 26 2 2 := ⟨RX2, TX2, 6, rfl, by decide, rfl, rfl, q_207⟩
theorem ff_X2_33 : g_Ff RX2 33 2 3 := ⟨RX2, TX2, 6, rfl, by decide, rfl, rfl, q_208⟩
theorem ff_X2_40 : g_Ff RX2 40 2 4 := ⟨RX2, TX2, 6, rfl, by decide, rfl, rfl, q_209⟩
theorem ff_X2_47 : g_Ff RX2 47 2 5 := ⟨RX2, TX2, 6, rfl, by decide, rfl, rfl, q_210⟩
theorem gf_X2_19 : g_Gf RX2 19 2 1 := ⟨RX2, TX2, 6, rfl, by decide, Or.inl q_206⟩
theorem gf_X2_26 : g_Gf RX2 26 2 2 := ⟨RX2, TX2, 6, rfl, by decide, Or.inl q_207⟩
theorem gf_X2_33 : g_Gf RX2 33 2 3 := ⟨RX2, TX2, 6, rfl, by decide, Or.inl q_208⟩
theorem gf_X2_40 : g_Gf RX2 40 2 4 := ⟨RX2, TX2, 6, rfl, by decide, Or.inl q_209⟩
theorem gf_X2_47 : g_Gf RX2 47 2 5 := ⟨RX2, TX2, 6, rfl, by decide, Or.inl q_210⟩
theorem gf_X2_10 : g_Gf RX2 10 2 0 := ⟨RX2, TX2, 6, rfl, by decide, Or.inl q_205⟩
theorem ff_X4_12 : g_Ff RX4 12 4 0 := ⟨RX4, TX4, 8, rfl, by decide, rfl, rfl, q_224⟩
theorem ff_X4_18 : g_Ff RX4 18 4 1 := ⟨RX4, TX4, 8, rfl, by decide, rfl, rfl, q_226⟩
theorem pf_X4_31 : g_Pf RX4 31 4 2 := ⟨RX4, TX4, 8, rfl, by decide, rfl, Or.inl q_227⟩
theorem gf_X4_18 : g_Gf RX4 18 4 1 := ⟨RX4, TX4, 8, rfl, by decide, Or.inl q_226⟩
theorem gf_X4_41 : g_Gf RX4 41 0 4 := ⟨RX0, TX0, 7, rfl, by decide, Or.inr ⟨_, q_95⟩⟩
theorem gf_X4_12 : g_Gf RX4 12 4 0 := ⟨RX4, TX4, 8, rfl, by decide, Or.inl q_224⟩
theorem gf_X4_66 : g_Gf RX4 66 0 0 := ⟨RX0, TX0, 7, rfl, by decide, Or.inr ⟨_, q_85⟩⟩
theorem gf_X4_31 : g_Gf RX4 31 4 2 := ⟨RX4, TX4, 8, rfl, by decide, Or.inl q_227⟩
theorem pf_X4_78 : g_Pf RX4 78 4 3 := ⟨RX4, TX4, 8, rfl, by decide, rfl, Or.inl q_228⟩
theorem pf_X4_81 : g_Pf RX4 81 4 4 := ⟨RX4, TX4, 8, rfl, by decide, rfl, Or.inl q_230⟩
theorem pf_X4_84 : g_Pf RX4 84 4 5 := ⟨RX4, TX4, 8, rfl, by decide, rfl, Or.inl q_232⟩
theorem pf_X4_87 : g_Pf RX4 87 4 6 := ⟨RX4, TX4, 8, rfl, by decide, rfl, Or.inl q_234⟩
theorem pf_X4_90 : g_Pf RX4 90 4 7 := ⟨RX4, TX4, 8, rfl, by decide, rfl, Or.inl q_236⟩
theorem gf_X4_78 : g_Gf RX4 78 4 3 := ⟨RX4, TX4, 8, rfl, by decide, Or.inl q_228⟩
theorem gf_X4_81 : g_Gf RX4 81 4 4 := ⟨RX4, TX4, 8, rfl, by decide, Or.inl q_230⟩
theorem gf_X4_90 : g_Gf RX4 90 4 7 := ⟨RX4, TX4, 8, rfl, by decide, Or.inl q_236⟩
theorem gf_X4_84 : g_Gf RX4 84 4 5 := ⟨RX4, TX4, 8, rfl, by decide, Or.inl q_232⟩
theorem ff_X8_9 : g_Ff RX8 9 8 0 := ⟨RX8, TX8, 7, rfl, by decide, rfl, rfl, q_125⟩
theorem ff_X8_18 : g_Ff RX8 18 8 1 := ⟨RX8, TX8, 7, rfl, by decide, rfl, rfl, q_126⟩
theorem gf_X8_22 : g_Gf RX8 22 8 2 := ⟨RX8, TX8, 7, rfl, by decide, Or.inl q_128⟩
theorem gf_X8_9 : g_Gf RX8 9 8 0 := ⟨RX8, TX8, 7, rfl, by decide, Or.inl q_125⟩
theorem pf_X8_22 : g_Pf RX8 22 8 2 := ⟨RX8, TX8, 7, rfl, by decide, rfl, Or.inl q_128⟩
theorem pf_X8_26 : g_Pf RX8 26 8 4 := ⟨RX8, TX8, 7, rfl, by decide, rfl, Or.inl q_131⟩
theorem gf_X8_18 : g_Gf RX8 18 8 1 := ⟨RX8, TX8, 7, rfl, by decide, Or.inl q_126⟩
theorem gf_X8_36 : g_Gf RX8 36 8 5 := ⟨RX8, TX8, 7, rfl, by decide, Or.inl q_132⟩
theorem gf_X8_43 : g_Gf RX8 43 8 3 := ⟨RX8, TX8, 7, rfl, by decide, Or.inl q_130⟩
theorem gf_X8_58 : g_Gf RX8 58 0 4 := ⟨RX0, TX0, 7, rfl, by decide, Or.inr ⟨_, q_96⟩⟩
theorem gf_X8_75 : g_Gf RX8 75 0 0 := ⟨RX0, TX0, 7, rfl, by decide, Or.inr ⟨_, q_86⟩⟩
theorem gf_X8_79 : g_Gf RX8 79 8 6 := ⟨RX8, TX8, 7, rfl, by decide, Or.inl q_133⟩
theorem gf_X8_26 : g_Gf RX8 26 8 4 := ⟨RX8, TX8, 7, rfl, by decide, Or.inl q_131⟩
theorem pf_X8_43 : g_Pf RX8 43 8 3 := ⟨RX8, TX8, 7, rfl, by decide, rfl, Or.inl q_130⟩
theorem pf_X8_36 : g_Pf RX8 36 8 5 := ⟨RX8, TX8, 7, rfl, by decide, rfl, Or.inl q_132⟩
theorem pf_X8_79 : g_Pf RX8 79 8 6 := ⟨RX8, TX8, 7, rfl, by decide, rfl, Or.inl q_133⟩
theorem ff_X10_10 : g_Ff RX10 10 10 0 := ⟨RX10, TX10, 13, rfl, by decide, rfl, rfl, q_255⟩
theorem ff_X10_16 : g_Ff RX10 16 10 1 := ⟨RX10, TX10, 13, rfl, by decide, rfl, rfl, q_256⟩
theorem ff_X10_19 : g_Ff RX10 19 10 2 := ⟨RX10, TX10, 13, rfl, by decide, rfl, rfl, q_257⟩
theorem ff_X10_22 : g_Ff RX10 22 10 3 := ⟨RX10, TX10, 13, rfl, by decide, rfl, rfl, q_258⟩
theorem ff_X10_29 : g_Ff RX10 29 10 4 := ⟨RX10, TX10, 13, rfl, by decide, rfl, rfl, q_259⟩
theorem ff_X10_36 : g_Ff RX10 36 10 5 := ⟨RX10, TX10, 13, rfl, by decide, rfl, rfl, q_260⟩
theorem gf_X10_36 : g_Gf RX10 36 10 5 := ⟨RX10, TX10, 13, rfl, by decide, Or.inl q_260⟩
theorem gf_X10_40 : g_Gf RX10 40 4 0 := ⟨RX4, TX4, 8, rfl, by decide, Or.inr ⟨_, q_225⟩⟩
theorem ff_X10_44 : g_Ff RX10 44 10 6 := ⟨RX10, TX10, 13, rfl, by decide, rfl, rfl, q_261⟩
theorem ff_X10_45 : g_Ff RX10 45 10 7 := ⟨RX10, TX10, 13, rfl, by decide, rfl, rfl, q_262⟩
theorem pf_X10_49 : g_Pf RX10 49 10 9 := ⟨RX10, TX10, 13, rfl, by decide, rfl, Or.inl q_264⟩
theorem gf_X10_10 : g_Gf RX10 10 10 0 := ⟨RX10, TX10, 13, rfl, by decide, Or.inl q_255⟩
theorem gf_X10_61 : g_Gf RX10 61 0 4 := ⟨RX0, TX0, 7, rfl, by decide, Or.inr ⟨_, q_93⟩⟩
theorem gf_X10_29 : g_Gf RX10 29 10 4 := ⟨RX10, TX10, 13, rfl, by decide, Or.inl q_259⟩
theorem gf_X10_80 : g_Gf RX10 80 8 2 := ⟨RX8, TX8, 7, rfl, by decide, Or.inr ⟨_, q_129⟩⟩
theorem pf_X10_80 : g_Pf RX10 80 8 2 := ⟨RX8, TX8, 7, rfl, by decide, rfl, Or.inr ⟨_, q_129⟩⟩
theorem gf_X10_89 : g_Gf RX10 89 8 1 := ⟨RX8, TX8, 7, rfl, by decide, Or.inr ⟨_, q_127⟩⟩
theorem gf_X10_99 : g_Gf RX10 99 0 0 := ⟨RX0, TX0, 7, rfl, by decide, Or.inr ⟨_, q_87⟩⟩
theorem gf_X10_108 : g_Gf RX10 108 0 6 := ⟨RX0, TX0, 7, rfl, by decide, Or.inr ⟨_, q_100⟩⟩
theorem gf_X10_44 : g_Gf RX10 44 10 6 := ⟨RX10, TX10, 13, rfl, by decide, Or.inl q_261⟩
theorem gf_X10_146 : g_Gf RX10 146 4 3 := ⟨RX4, TX4, 8, rfl, by decide, Or.inr ⟨_, q_229⟩⟩
theorem gf_X10_149 : g_Gf RX10 149 4 4 := ⟨RX4, TX4, 8, rfl, by decide, Or.inr ⟨_, q_231⟩⟩
theorem gf_X10_152 : g_Gf RX10 152 4 5 := ⟨RX4, TX4, 8, rfl, by decide, Or.inr ⟨_, q_233⟩⟩
theorem gf_X10_155 : g_Gf RX10 155 4 6 := ⟨RX4, TX4, 8, rfl, by decide, Or.inr ⟨_, q_235⟩⟩
theorem gf_X10_158 : g_Gf RX10 158 4 7 := ⟨RX4, TX4, 8, rfl, by decide, Or.inr ⟨_, q_237⟩⟩
theorem gf_X10_178 : g_Gf RX10 178 0 5 := ⟨RX0, TX0, 7, rfl, by decide, Or.inr ⟨_, q_98⟩⟩
theorem pf_X10_178 : g_Pf RX10 178 0 5 := ⟨RX0, TX0, 7, rfl, by decide, rfl, Or.inr ⟨_, q_98⟩⟩
theorem gf_X10_220 : g_Gf RX10 220 10 8 := ⟨RX10, TX10, 13, rfl, by decide, Or.inl q_263⟩
theorem gf_X10_49 : g_Gf RX10 49 10 9 := ⟨RX10, TX10, 13, rfl, by decide, Or.inl q_264⟩
theorem gf_X10_22 : g_Gf RX10 22 10 3 := ⟨RX10, TX10, 13, rfl, by decide, Or.inl q_258⟩
theorem gf_X10_227 : g_Gf RX10 227 10 10 := ⟨RX10, TX10, 13, rfl, by decide, Or.inl q_265⟩
theorem gf_X10_230 : g_Gf RX10 230 10 11 := ⟨RX10, TX10, 13, rfl, by decide, Or.inl q_266⟩
theorem gf_X10_233 : g_Gf RX10 233 10 12 := ⟨RX10, TX10, 13, rfl, by decide, Or.inl q_267⟩
theorem gf_X10_242 : g_Gf RX10 242 0 1 := ⟨RX0, TX0, 7, rfl, by decide, Or.inr ⟨_, q_89⟩⟩
theorem gf_X10_245 : g_Gf RX10 245 0 2 := ⟨RX0, TX0, 7, rfl, by decide, Or.inr ⟨_, q_91⟩⟩
theorem pf_X10_227 : g_Pf RX10 227 10 10 := ⟨RX10, TX10, 13, rfl, by decide, rfl, Or.inl q_265⟩
theorem pf_X10_230 : g_Pf RX10 230 10 11 := ⟨RX10, TX10, 13, rfl, by decide, rfl, Or.inl q_266⟩
theorem pf_X10_233 : g_Pf RX10 233 10 12 := ⟨RX10, TX10, 13, rfl, by decide, rfl, Or.inl q_267⟩
theorem gf_X10_16 : g_Gf RX10 16 10 1 := ⟨RX10, TX10, 13, rfl, by decide, Or.inl q_256⟩
theorem gf_X10_19 : g_Gf RX10 19 10 2 := ⟨RX10, TX10, 13, rfl, by decide, Or.inl q_257⟩
theorem gf_X10_45 : g_Gf RX10 45 10 7 := ⟨RX10, TX10, 13, rfl, by decide, Or.inl q_262⟩
theorem pf_X10_220 : g_Pf RX10 220 10 8 := ⟨RX10, TX10, 13, rfl, by decide, rfl, Or.inl q_263⟩
theorem ff_X11_7 : g_Ff RX11 7 11 0 := ⟨RX11, TX11, 16, rfl, by decide, rfl, rfl, q_767⟩
theorem ff_X11_13 : g_Ff RX11 13 11 1 := ⟨RX11, TX11, 16, rfl, by decide, rfl, rfl, q_768⟩
theorem ff_X11_16 : g_Ff RX11 16 11 2 := ⟨RX11, TX11, 16, rfl, by decide, rfl, rfl, q_769⟩
theorem ff_X11_19 : g_Ff RX11 19 11 3 := ⟨RX11, TX11, 16, rfl, by decide, rfl, rfl, q_770⟩
theorem ff_X11_22 : g_Ff RX11 22 11 4 := ⟨RX11, TX11, 16, rfl, by decide, rfl, rfl, q_771⟩
theorem ff_X11_26 : g_Ff RX11 26 11 5 := ⟨RX11, TX11, 16, rfl, by decide, rfl, rfl, q_772⟩
theorem pf_X11_29 : g_Pf RX11 29 11 7 := ⟨RX11, TX11, 16, rfl, by decide, rfl, Or.inl q_774⟩
theorem ff_X11_33 : g_Ff RX11 33 11 9 := ⟨RX11, TX11, 16, rfl, by decide, rfl, rfl, q_776⟩
theorem gf_X11_7 : g_Gf RX11 7 11 0 := ⟨RX11, TX11, 16, rfl, by decide, Or.inl q_767⟩
theorem gf_X11_26 : g_Gf RX11 26 11 5 := ⟨RX11, TX11, 16, rfl, by decide, Or.inl q_772⟩
theorem gf_X11_55 : g_Gf RX11 55 11 8 := ⟨RX11, TX11, 16, rfl, by decide, Or.inl q_775⟩
theorem gf_X11_33 : g_Gf RX11 33 11 9 := ⟨RX11, TX11, 16, rfl, by decide, Or.inl q_776⟩
theorem pf_X11_55 : g_Pf RX11 55 11 8 := ⟨RX11, TX11, 16, rfl, by decide, rfl, Or.inl q_775⟩
theorem gf_X11_59 : g_Gf RX11 59 11 10 := ⟨RX11, TX11, 16, rfl, by decide, Or.inl q_777⟩
theorem pf_X11_59 : g_Pf RX11 59 11 10 := ⟨RX11, TX11, 16, rfl, by decide, rfl, Or.inl q_777⟩
theorem pf_X11_62 : g_Pf RX11 62 11 11 := ⟨RX11, TX11, 16, rfl, by decide, rfl, Or.inl q_778⟩
theorem pf_X11_65 : g_Pf RX11 65 11 14 := ⟨RX11, TX11, 16, rfl, by decide, rfl, Or.inl q_781⟩
theorem pf_X11_68 : g_Pf RX11 68 11 13 := ⟨RX11, TX11, 16, rfl, by decide, rfl, Or.inl q_780⟩
theorem pf_X11_71 : g_Pf RX11 71 11 12 := ⟨RX11, TX11, 16, rfl, by decide, rfl, Or.inl q_779⟩
theorem gf_X11_71 : g_Gf RX11 71 11 12 := ⟨RX11, TX11, 16, rfl, by decide, Or.inl q_779⟩
theorem gf_X11_62 : g_Gf RX11 62 11 11 := ⟨RX11, TX11, 16, rfl, by decide, Or.inl q_778⟩
theorem gf_X11_65 : g_Gf RX11 65 11 14 := ⟨RX11, TX11, 16, rfl, by decide, Or.inl q_781⟩
theorem gf_X11_68 : g_Gf RX11 68 11 13 := ⟨RX11, TX11, 16, rfl, by decide, Or.inl q_780⟩
theorem gf_X11_16 : g_Gf RX11 16 11 2 := ⟨RX11, TX11, 16, rfl, by decide, Or.inl q_769⟩
theorem gf_X11_89 : g_Gf RX11 89 11 15 := ⟨RX11, TX11, 16, rfl, by decide, Or.inl q_782⟩
theorem pf_X11_89 : g_Pf RX11 89 11 15 := ⟨RX11, TX11, 16, rfl, by decide, rfl, Or.inl q_782⟩
theorem gf_X11_13 : g_Gf RX11 13 11 1 := ⟨RX11, TX11, 16, rfl, by decide, Or.inl q_768⟩
theorem pf_X11_171 : g_Pf RX11 171 11 6 := ⟨RX11, TX11, 16, rfl, by decide, rfl, Or.inl q_773⟩
theorem gf_X11_171 : g_Gf RX11 171 11 6 := ⟨RX11, TX11, 16, rfl, by decide, Or.inl q_773⟩
theorem gf_X11_29 : g_Gf RX11 29 11 7 := ⟨RX11, TX11, 16, rfl, by decide, Or.inl q_774⟩
theorem gf_X11_19 : g_Gf RX11 19 11 3 := ⟨RX11, TX11, 16, rfl, by decide, Or.inl q_770⟩
theorem gf_X11_22 : g_Gf RX11 22 11 4 := ⟨RX11, TX11, 16, rfl, by decide, Or.inl q_771⟩
theorem lo_X0_3 : Cond.methodLink RX0 3 objectInit ∈ gw := q_83
theorem lk_X0_24 : g_LkS RX0 (.invokestatic 24) 2 mJ7_fill_53178 := g_lkS okJ7_fill_53178 q_310 q_311 (by unfold g_np; decide +kernel)
theorem lk_X0_40 : g_LkV RX0 (.invokevirtual 40) RX0 2 mX0_billPart := g_lkV okX0_billPart q_470 q_472 q_14 (by unfold g_np; decide +kernel)
theorem la_X0_44 : Cond.methodLink RX0 44 arraycopyName ∈ gw := q_447
theorem lk_X1_3 : g_LkV RX1 (.invokespecial 3) RX6 0 mX6_init := g_lkIN okX6_init rfl q_189 q_166 rfl (by unfold g_np; decide +kernel)
theorem lk_X1_9_X1 : g_LkV RX1 (.invokespecial 9) RX1 1 mX6_drawnOn := g_lkSU (ci := 1) okX6_drawnOn rfl q_489 q_485 q_190 q_483 (by decide) (by unfold g_np; decide +kernel)
theorem lo_X2_1 : Cond.methodLink RX2 1 objectInit ∈ gw := q_162
theorem lk_X2_9 : g_LkV RX2 (.invokespecial 9) RX6 0 mX6_init := g_lkIN okX6_init rfl q_165 q_166 rfl (by unfold g_np; decide +kernel)
theorem lk_X2_18 : g_LkV RX2 (.invokespecial 18) RX3 0 mX3_init := g_lkIN okX3_init rfl q_172 q_173 rfl (by unfold g_np; decide +kernel)
theorem lk_X2_25 : g_LkV RX2 (.invokespecial 25) RX7 0 mX7_init := g_lkIN okX7_init rfl q_179 q_180 rfl (by unfold g_np; decide +kernel)
theorem lk_X2_32 : g_LkV RX2 (.invokespecial 32) RX1 0 mX1_init := g_lkIN okX1_init rfl q_186 q_187 rfl (by unfold g_np; decide +kernel)
theorem lk_X2_39 : g_LkV RX2 (.invokespecial 39) RX9 0 mX9_init := g_lkIN okX9_init rfl q_193 q_194 rfl (by unfold g_np; decide +kernel)
theorem lk_X2_46 : g_LkV RX2 (.invokespecial 46) RX5 0 mX5_init := g_lkIN okX5_init rfl q_200 q_201 rfl (by unfold g_np; decide +kernel)
theorem lk_X3_3 : g_LkV RX3 (.invokespecial 3) RX6 0 mX6_init := g_lkIN okX6_init rfl q_175 q_166 rfl (by unfold g_np; decide +kernel)
theorem lk_X3_9_X3 : g_LkV RX3 (.invokespecial 9) RX3 1 mX6_drawnOn := g_lkSU (ci := 3) okX6_drawnOn rfl q_493 q_485 q_176 q_483 (by decide) (by unfold g_np; decide +kernel)
theorem lk_X3_9_X5 : g_LkV RX3 (.invokespecial 9) RX5 1 mX6_drawnOn := g_lkSU (ci := 5) okX6_drawnOn rfl q_493 q_485 q_176 q_483 (by decide) (by unfold g_np; decide +kernel)
theorem lo_X4_3 : Cond.methodLink RX4 3 objectInit ∈ gw := q_156
theorem lk_X4_11 : g_LkV RX4 (.invokespecial 11) RX2 0 mX2_init := g_lkIN okX2_init rfl q_159 q_160 rfl (by unfold g_np; decide +kernel)
theorem lk_X4_22 : g_LkS RX4 (.invokestatic 22) 2 mJ9_min_7cf53 := g_lkS okJ9_min_7cf53 q_572 q_573 (by unfold g_np; decide +kernel)
theorem lk_X4_28 : g_LkS RX4 (.invokestatic 28) 2 mJ9_max_7cf53 := g_lkS okJ9_max_7cf53 q_575 q_576 (by unfold g_np; decide +kernel)
theorem lk_X4_35 : g_LkS RX4 (.invokestatic 35) 2 mJ7_fill_53178 := g_lkS okJ7_fill_53178 q_578 q_311 (by unfold g_np; decide +kernel)
theorem lk_X4_46 : g_LkV RX4 (.invokevirtual 46) RX0 1 mX0_dayAt := g_lkV okX0_dayAt q_579 q_479 q_480 (by unfold g_np; decide +kernel)
theorem lk_X4_50 : g_LkV RX4 (.invokevirtual 50) RX4 4 mX4_put := g_lkV okX4_put q_580 q_581 q_582 (by unfold g_np; decide +kernel)
theorem lk_X4_54 : g_LkV RX4 (.invokevirtual 54) RX0 1 mX0_kindAt := g_lkV okX0_kindAt q_584 q_467 q_468 (by unfold g_np; decide +kernel)
theorem lk_X4_57 : g_LkV RX4 (.invokevirtual 57) RX2 1 mX2_numbered := g_lkV okX2_numbered q_585 q_475 q_476 (by unfold g_np; decide +kernel)
theorem lk_X4_61_X6 : g_LkV RX4 (.invokevirtual 61) RX6 1 mX6_drawnOn := g_lkV okX6_drawnOn q_586 q_483 q_484 (by unfold g_np; decide +kernel)
theorem lk_X4_61_X1 : g_LkV RX4 (.invokevirtual 61) RX1 1 mX1_drawnOn := g_lkO (owner := RX6) (x := yX6_drawnOn) okX1_drawnOn q_497 q_586 q_485 q_483 q_486 q_487 (by decide) (by unfold g_np; decide +kernel)
theorem lk_X4_61_X3 : g_LkV RX4 (.invokevirtual 61) RX3 1 mX3_drawnOn := g_lkO (owner := RX6) (x := yX6_drawnOn) okX3_drawnOn q_497 q_586 q_485 q_483 q_490 q_491 (by decide) (by unfold g_np; decide +kernel)
theorem lk_X4_61_X5 : g_LkV RX4 (.invokevirtual 61) RX5 1 mX3_drawnOn := g_lkO (owner := RX6) (x := yX6_drawnOn) okX3_drawnOn q_497 q_586 q_485 q_483 q_494 q_491 (by decide) (by unfold g_np; decide +kernel)
theorem lk_X4_61_X7 : g_LkV RX4 (.invokevirtual 61) RX7 1 mX6_drawnOn := g_lkU (owner := RX6) (x := yX6_drawnOn) okX6_drawnOn rfl q_586 q_485 q_495 q_483 (by unfold g_np; decide +kernel)
theorem lk_X4_61_X9 : g_LkV RX4 (.invokevirtual 61) RX9 1 mX6_drawnOn := g_lkU (owner := RX6) (x := yX6_drawnOn) okX6_drawnOn rfl q_586 q_485 q_496 q_483 (by unfold g_np; decide +kernel)
theorem lk_X4_69 : g_LkS RX4 (.invokestatic 69) 2 mJ9_floorMod_7cf53 := g_lkS okJ9_floorMod_7cf53 q_587 q_588 (by unfold g_np; decide +kernel)
theorem lk_X4_72 : g_LkV RX4 (.invokevirtual 72) RX0 1 mX0_poundsAt := g_lkV okX0_poundsAt q_590 q_499 q_500 (by unfold g_np; decide +kernel)
theorem lk_X4_75_X6 : g_LkV RX4 (.invokevirtual 75) RX6 2 mX6_poundsIn := g_lkV okX6_poundsIn q_591 q_503 q_504 (by unfold g_np; decide +kernel)
theorem lk_X4_75_X1 : g_LkV RX4 (.invokevirtual 75) RX1 2 mX6_poundsIn := g_lkU (owner := RX6) (x := yX6_poundsIn) okX6_poundsIn rfl q_591 q_505 q_506 q_503 (by unfold g_np; decide +kernel)
theorem lk_X4_75_X3 : g_LkV RX4 (.invokevirtual 75) RX3 2 mX6_poundsIn := g_lkU (owner := RX6) (x := yX6_poundsIn) okX6_poundsIn rfl q_591 q_505 q_507 q_503 (by unfold g_np; decide +kernel)
theorem lk_X4_75_X5 : g_LkV RX4 (.invokevirtual 75) RX5 2 mX5_poundsIn := g_lkO (owner := RX6) (x := yX6_poundsIn) okX5_poundsIn q_522 q_591 q_505 q_503 q_508 q_509 (by decide) (by unfold g_np; decide +kernel)
theorem lk_X4_75_X7 : g_LkV RX4 (.invokevirtual 75) RX7 2 mX7_poundsIn := g_lkO (owner := RX6) (x := yX6_poundsIn) okX7_poundsIn q_522 q_591 q_505 q_503 q_514 q_515 (by decide) (by unfold g_np; decide +kernel)
theorem lk_X4_75_X9 : g_LkV RX4 (.invokevirtual 75) RX9 2 mX9_poundsIn := g_lkO (owner := RX6) (x := yX6_poundsIn) okX9_poundsIn q_522 q_591 q_505 q_503 q_518 q_519 (by decide) (by unfold g_np; decide +kernel)
theorem lk_X4_93 : g_LkS RX4 (.invokestatic 93) 2 mJ9_floorDiv_7cf53 := g_lkS okJ9_floorDiv_7cf53 q_612 q_613 (by unfold g_np; decide +kernel)
theorem lk_X5_1 : g_LkV RX5 (.invokespecial 1) RX3 0 mX3_init := g_lkIN okX3_init rfl q_203 q_173 rfl (by unfold g_np; decide +kernel)
-- TODO super X5_poundsIn 3 ('m', 'BeforeThird$Moved', 'poundsIn', '(II)I')
theorem lo_X6_1 : Cond.methodLink RX6 1 objectInit ∈ gw := q_168
theorem lk_X7_1 : g_LkV RX7 (.invokespecial 1) RX6 0 mX6_init := g_lkIN okX6_init rfl q_182 q_166 rfl (by unfold g_np; decide +kernel)
theorem lk_X7_7_X7 : g_LkV RX7 (.invokespecial 7) RX7 2 mX6_poundsIn := g_lkSU (ci := 7) okX6_poundsIn rfl q_517 q_505 q_183 q_503 (by decide) (by unfold g_np; decide +kernel)
theorem lk_X7_7_X9 : g_LkV RX7 (.invokespecial 7) RX9 2 mX6_poundsIn := g_lkSU (ci := 9) okX6_poundsIn rfl q_517 q_505 q_183 q_503 (by decide) (by unfold g_np; decide +kernel)
theorem lo_X8_3 : Cond.methodLink RX8 3 objectInit ∈ gw := q_122
theorem lk_X8_17 : g_LkV RX8 (.invokespecial 17) RX0 0 mX0_init := g_lkI okX0_init rfl q_124 q_81 rfl (by unfold g_np; decide +kernel)
theorem lk_X8_29 : g_LkV RX8 (.invokevirtual 29) RX0 1 mX0_beginWith := g_lkV okX0_beginWith q_348 q_307 q_308 (by unfold g_np; decide +kernel)
theorem lk_X8_33 : g_LkV RX8 (.invokevirtual 33) RX8 0 mX8_takeToken := g_lkV okX8_takeToken q_349 q_351 q_2 (by unfold g_np; decide +kernel)
theorem lk_X8_39 : g_LkV RX8 (.invokevirtual 39) RX8 1 mX8_takeItem := g_lkV okX8_takeItem q_362 q_364 q_5 (by unfold g_np; decide +kernel)
theorem lk_X8_48 : g_LkV RX8 (.invokevirtual 48) RX8 1 mX8_spells := g_lkV okX8_spells q_367 q_369 q_6 (by unfold g_np; decide +kernel)
theorem lk_X8_52 : g_LkV RX8 (.invokevirtual 52) RX8 0 mX8_takeAccount := g_lkV okX8_takeAccount q_419 q_421 q_7 (by unfold g_np; decide +kernel)
theorem lk_X8_61 : g_LkV RX8 (.invokevirtual 61) RX8 0 mX8_takeBill := g_lkV okX8_takeBill q_432 q_434 q_10 (by unfold g_np; decide +kernel)
theorem lk_X8_66 : g_LkV RX8 (.invokevirtual 66) RX8 2 mX8_takeFigure := g_lkV okX8_takeFigure q_438 q_440 q_11 (by unfold g_np; decide +kernel)
theorem lk_X8_72 : g_LkV RX8 (.invokevirtual 72) RX8 2 mX8_takeNumber := g_lkV okX8_takeNumber q_423 q_425 q_8 (by unfold g_np; decide +kernel)
theorem lk_X8_82 : g_LkV RX8 (.invokevirtual 82) RX8 0 mX8_takeStop := g_lkV okX8_takeStop q_427 q_429 q_9 (by unfold g_np; decide +kernel)
theorem lk_X8_85 : g_LkV RX8 (.invokevirtual 85) RX0 3 mX0_addBill := g_lkV okX0_addBill q_436 q_325 q_326 (by unfold g_np; decide +kernel)
theorem lk_X8_89 : g_LkS RX8 (.invokestatic 89) 3 mX10_within := g_lkSN okX10_within q_361 q_300 (by unfold g_np; decide +kernel)
theorem lk_X8_93 : g_LkV RX8 (.invokevirtual 93) RJ0 0 mJ0_length_8abf5 := g_lkV okJ0_length_8abf5 q_371 q_372 q_373 (by unfold g_np; decide +kernel)
theorem lk_X8_98 : g_LkV RX8 (.invokevirtual 98) RX8 1 mX8_byteAt := g_lkV okX8_byteAt q_357 q_359 q_4 (by unfold g_np; decide +kernel)
theorem lk_X8_102 : g_LkV RX8 (.invokevirtual 102) RJ0 1 mJ0_charAt_5068e := g_lkV okJ0_charAt_5068e q_381 q_382 q_383 (by unfold g_np; decide +kernel)
theorem lk_X8_106 : g_LkV RX8 (.invokevirtual 106) RX8 2 mX8_skipRun := g_lkV okX8_skipRun q_353 q_355 q_3 (by unfold g_np; decide +kernel)
theorem lk_X9_1 : g_LkV RX9 (.invokespecial 1) RX7 0 mX7_init := g_lkIN okX7_init rfl q_196 q_180 rfl (by unfold g_np; decide +kernel)
theorem lk_X9_7_X9 : g_LkV RX9 (.invokespecial 7) RX9 2 mX7_poundsIn := g_lkSU (ci := 9) okX7_poundsIn rfl q_521 q_1068 q_197 q_515 (by decide) (by unfold g_np; decide +kernel)
theorem lo_X10_1 : Cond.methodLink RX10 1 objectInit ∈ gw := q_75
theorem lk_X10_9 : g_LkV RX10 (.invokespecial 9) RX0 0 mX0_init := g_lkI okX0_init rfl q_80 q_81 rfl (by unfold g_np; decide +kernel)
theorem lk_X10_28 : g_LkV RX10 (.invokespecial 28) RX8 0 mX8_init := g_lkIN okX8_init rfl q_119 q_120 rfl (by unfold g_np; decide +kernel)
theorem lk_X10_35 : g_LkV RX10 (.invokespecial 35) RX4 0 mX4_init := g_lkIN okX4_init rfl q_153 q_154 rfl (by unfold g_np; decide +kernel)
theorem lk_X10_53 : g_LkS RX10 (.invokestatic 53) 3 mX10_within := g_lkS okX10_within q_299 q_300 (by unfold g_np; decide +kernel)
theorem lk_X10_57 : g_LkV RX10 (.invokevirtual 57) RX10 1 mX10_refuseBad := g_lkV okX10_refuseBad q_302 q_304 q_0 (by unfold g_np; decide +kernel)
theorem lk_X10_65 : g_LkV RX10 (.invokevirtual 65) RX0 1 mX0_beginWith := g_lkV okX0_beginWith q_306 q_307 q_308 (by unfold g_np; decide +kernel)
theorem lk_X10_69 : g_LkS RX10 (.invokestatic 69) 3 mX10_isBill := g_lkS okX10_isBill q_317 q_318 (by unfold g_np; decide +kernel)
theorem lk_X10_72 : g_LkV RX10 (.invokevirtual 72) RX10 0 mX10_refuseFull := g_lkV okX10_refuseFull q_320 q_322 q_1 (by unfold g_np; decide +kernel)
theorem lk_X10_76 : g_LkV RX10 (.invokevirtual 76) RX0 3 mX0_addBill := g_lkV okX0_addBill q_324 q_325 q_326 (by unfold g_np; decide +kernel)
theorem lk_X10_83 : g_LkV RX10 (.invokevirtual 83) RX8 1 mX8_addByte := g_lkV okX8_addByte q_332 q_333 q_334 (by unfold g_np; decide +kernel)
theorem lk_X10_86 : g_LkV RX10 (.invokevirtual 86) RX8 0 mX8_itemsOrFault := g_lkV okX8_itemsOrFault q_344 q_345 q_346 (by unfold g_np; decide +kernel)
theorem lk_X10_92 : g_LkV RX10 (.invokevirtual 92) RX0 1 mX0_copyFrom := g_lkV okX0_copyFrom q_443 q_444 q_445 (by unfold g_np; decide +kernel)
theorem lk_X10_96 : g_LkV RX10 (.invokevirtual 96) RX0 0 mX0_keepPast := g_lkV okX0_keepPast q_454 q_455 q_456 (by unfold g_np; decide +kernel)
theorem lk_X10_102 : g_LkV RX10 (.invokevirtual 102) RX10 0 mX10_passDay := g_lkV okX10_passDay q_458 q_460 q_12 (by unfold g_np; decide +kernel)
theorem lk_X10_105 : g_LkV RX10 (.invokevirtual 105) RX10 0 mX10_refuseNo := g_lkV okX10_refuseNo q_531 q_533 q_15 (by unfold g_np; decide +kernel)
theorem lk_X10_111 : g_LkV RX10 (.invokevirtual 111) RX0 0 mX0_stepBack := g_lkV okX0_stepBack q_539 q_540 q_541 (by unfold g_np; decide +kernel)
theorem lk_X10_114 : g_LkV RX10 (.invokevirtual 114) RX10 1 mX10_isBillNumber := g_lkV okX10_isBillNumber q_547 q_549 q_16 (by unfold g_np; decide +kernel)
theorem lk_X10_118 : g_LkV RX10 (.invokevirtual 118) RX0 1 mX0_kindAt := g_lkV okX0_kindAt q_466 q_467 q_468 (by unfold g_np; decide +kernel)
theorem lk_X10_121 : g_LkV RX10 (.invokevirtual 121) RX2 1 mX2_numbered := g_lkV okX2_numbered q_474 q_475 q_476 (by unfold g_np; decide +kernel)
theorem lk_X10_127 : g_LkV RX10 (.invokevirtual 127) RX0 1 mX0_dayAt := g_lkV okX0_dayAt q_478 q_479 q_480 (by unfold g_np; decide +kernel)
theorem lk_X10_130 : g_LkV RX10 (.invokevirtual 130) RX0 1 mX0_poundsAt := g_lkV okX0_poundsAt q_498 q_499 q_500 (by unfold g_np; decide +kernel)
theorem lk_X10_133_X6 : g_LkV RX10 (.invokevirtual 133) RX6 1 mX6_drawnOn := g_lkV okX6_drawnOn q_482 q_483 q_484 (by unfold g_np; decide +kernel)
theorem lk_X10_133_X1 : g_LkV RX10 (.invokevirtual 133) RX1 1 mX1_drawnOn := g_lkO (owner := RX6) (x := yX6_drawnOn) okX1_drawnOn q_497 q_482 q_485 q_483 q_486 q_487 (by decide) (by unfold g_np; decide +kernel)
theorem lk_X10_133_X3 : g_LkV RX10 (.invokevirtual 133) RX3 1 mX3_drawnOn := g_lkO (owner := RX6) (x := yX6_drawnOn) okX3_drawnOn q_497 q_482 q_485 q_483 q_490 q_491 (by decide) (by unfold g_np; decide +kernel)
theorem lk_X10_133_X5 : g_LkV RX10 (.invokevirtual 133) RX5 1 mX3_drawnOn := g_lkO (owner := RX6) (x := yX6_drawnOn) okX3_drawnOn q_497 q_482 q_485 q_483 q_494 q_491 (by decide) (by unfold g_np; decide +kernel)
theorem lk_X10_133_X7 : g_LkV RX10 (.invokevirtual 133) RX7 1 mX6_drawnOn := g_lkU (owner := RX6) (x := yX6_drawnOn) okX6_drawnOn rfl q_482 q_485 q_495 q_483 (by unfold g_np; decide +kernel)
theorem lk_X10_133_X9 : g_LkV RX10 (.invokevirtual 133) RX9 1 mX6_drawnOn := g_lkU (owner := RX6) (x := yX6_drawnOn) okX6_drawnOn rfl q_482 q_485 q_496 q_483 (by unfold g_np; decide +kernel)
theorem lk_X10_138_X6 : g_LkV RX10 (.invokevirtual 138) RX6 2 mX6_poundsIn := g_lkV okX6_poundsIn q_502 q_503 q_504 (by unfold g_np; decide +kernel)
theorem lk_X10_138_X1 : g_LkV RX10 (.invokevirtual 138) RX1 2 mX6_poundsIn := g_lkU (owner := RX6) (x := yX6_poundsIn) okX6_poundsIn rfl q_502 q_505 q_506 q_503 (by unfold g_np; decide +kernel)
theorem lk_X10_138_X3 : g_LkV RX10 (.invokevirtual 138) RX3 2 mX6_poundsIn := g_lkU (owner := RX6) (x := yX6_poundsIn) okX6_poundsIn rfl q_502 q_505 q_507 q_503 (by unfold g_np; decide +kernel)
theorem lk_X10_138_X5 : g_LkV RX10 (.invokevirtual 138) RX5 2 mX5_poundsIn := g_lkO (owner := RX6) (x := yX6_poundsIn) okX5_poundsIn q_522 q_502 q_505 q_503 q_508 q_509 (by decide) (by unfold g_np; decide +kernel)
theorem lk_X10_138_X7 : g_LkV RX10 (.invokevirtual 138) RX7 2 mX7_poundsIn := g_lkO (owner := RX6) (x := yX6_poundsIn) okX7_poundsIn q_522 q_502 q_505 q_503 q_514 q_515 (by decide) (by unfold g_np; decide +kernel)
theorem lk_X10_138_X9 : g_LkV RX10 (.invokevirtual 138) RX9 2 mX9_poundsIn := g_lkO (owner := RX6) (x := yX6_poundsIn) okX9_poundsIn q_522 q_502 q_505 q_503 q_518 q_519 (by decide) (by unfold g_np; decide +kernel)
theorem lk_X10_143 : g_LkV RX10 (.invokevirtual 143) RX10 1 mX10_foresee := g_lkV okX10_foresee q_564 q_566 q_17 (by unfold g_np; decide +kernel)
theorem lk_X10_161 : g_LkV RX10 (.invokevirtual 161) RX4 2 mX4_lay := g_lkV okX4_lay q_568 q_569 q_570 (by unfold g_np; decide +kernel)
theorem lk_X10_165 : g_LkV RX10 (.invokevirtual 165) RX4 1 mX4_mostSpending := g_lkV okX4_mostSpending q_608 q_609 q_610 (by unfold g_np; decide +kernel)
theorem lk_X10_168 : g_LkV RX10 (.invokevirtual 168) RX4 2 mX4_leastMore := g_lkV okX4_leastMore q_619 q_620 q_621 (by unfold g_np; decide +kernel)
theorem lk_X10_171 : g_LkV RX10 (.invokevirtual 171) RX10 0 mX10_chargesAsLaid := g_lkV okX10_chargesAsLaid q_627 q_629 q_18 (by unfold g_np; decide +kernel)
theorem lk_X10_174 : g_LkV RX10 (.invokevirtual 174) RX4 4 mX4_put := g_lkV okX4_put q_631 q_581 q_582 (by unfold g_np; decide +kernel)
theorem lk_X10_181 : g_LkV RX10 (.invokevirtual 181) RX0 5 mX0_addNote := g_lkV okX0_addNote q_644 q_645 q_646 (by unfold g_np; decide +kernel)
theorem lk_X10_185 : g_LkV RX10 (.invokevirtual 185) RX10 1 mX10_kindsThatFit := g_lkV okX10_kindsThatFit q_656 q_658 q_19 (by unfold g_np; decide +kernel)
theorem lk_X10_188 : g_LkV RX10 (.invokevirtual 188) RX10 3 mX10_mostAlike := g_lkV okX10_mostAlike q_676 q_678 q_22 (by unfold g_np; decide +kernel)
theorem lk_X10_192 : g_LkV RX10 (.invokevirtual 192) RX10 1 mX10_layChargesByExtra := g_lkV okX10_layChargesByExtra q_692 q_694 q_24 (by unfold g_np; decide +kernel)
theorem lk_X10_195 : g_LkV RX10 (.invokevirtual 195) RX10 2 mX10_isBestAgainst := g_lkV okX10_isBestAgainst q_696 q_698 q_25 (by unfold g_np; decide +kernel)
theorem lk_X10_199 : g_LkV RX10 (.invokevirtual 199) RX4 2 mX4_run := g_lkV okX4_run q_592 q_593 q_594 (by unfold g_np; decide +kernel)
theorem lk_X10_203 : g_LkV RX10 (.invokevirtual 203) RX10 1 mX10_setTenths := g_lkV okX10_setTenths q_708 q_710 q_27 (by unfold g_np; decide +kernel)
theorem lk_X10_217 : g_LkV RX10 (.invokevirtual 217) RX4 2 mX4_drawMore := g_lkV okX4_drawMore q_722 q_723 q_724 (by unfold g_np; decide +kernel)
theorem lk_X10_223 : g_LkV RX10 (.invokevirtual 223) RX10 1 mX10_imageAt := g_lkV okX10_imageAt q_734 q_736 q_28 (by unfold g_np; decide +kernel)
theorem lk_X10_238 : g_LkS RX10 (.invokestatic 238) 3 mX10_digestOf := g_lkS okX10_digestOf q_755 q_756 (by unfold g_np; decide +kernel)
theorem lk_X10_248 : g_LkV RX10 (.invokevirtual 248) RX10 0 mX10_drawnToday := g_lkV okX10_drawnToday q_462 q_464 q_13 (by unfold g_np; decide +kernel)
theorem lk_X10_251 : g_LkV RX10 (.invokevirtual 251) RX10 2 mX10_fitsNotes := g_lkV okX10_fitsNotes q_660 q_662 q_20 (by unfold g_np; decide +kernel)
theorem lk_X10_255 : g_LkV RX10 (.invokevirtual 255) RX0 2 mX0_notePart := g_lkV okX0_notePart q_664 q_665 q_666 (by unfold g_np; decide +kernel)
theorem lk_X10_258 : g_LkV RX10 (.invokevirtual 258) RX10 3 mX10_fitsNote := g_lkV okX10_fitsNote q_668 q_670 q_21 (by unfold g_np; decide +kernel)
theorem lk_X10_262 : g_LkS RX10 (.invokestatic 262) 2 mX10_hasBit := g_lkS okX10_hasBit q_680 q_681 (by unfold g_np; decide +kernel)
theorem lk_X10_265 : g_LkV RX10 (.invokevirtual 265) RX10 4 mX10_alikeTo := g_lkV okX10_alikeTo q_683 q_685 q_23 (by unfold g_np; decide +kernel)
theorem lk_X10_269 : g_LkS RX10 (.invokestatic 269) 2 mJ9_max_7cf53 := g_lkS okJ9_max_7cf53 q_687 q_576 (by unfold g_np; decide +kernel)
theorem lk_X10_274 : g_LkV RX10 (.invokevirtual 274) RX10 2 mX10_gainOf := g_lkV okX10_gainOf q_700 q_702 q_26 (by unfold g_np; decide +kernel)
theorem lo_X11_1 : Cond.methodLink RX11 1 objectInit ∈ gw := q_763
theorem lk_X11_36 : g_LkS RX11 (.invokestatic 36) 1 mX11_begin := g_lkS okX11_begin q_764 q_765 (by unfold g_np; decide +kernel)
theorem lk_X11_40 : g_LkS RX11 (.invokestatic 40) 3 mX11_in := g_lkS okX11_in q_820 q_821 (by unfold g_np; decide +kernel)
theorem lk_X11_44 : g_LkV RX11 (.invokevirtual 44) RX11 0 mX11_bad := g_lkV okX11_bad q_823 q_825 q_29 (by unfold g_np; decide +kernel)
theorem lk_X11_48 : g_LkV RX11 (.invokevirtual 48) RX11 0 mX11_full := g_lkV okX11_full q_831 q_833 q_30 (by unfold g_np; decide +kernel)
theorem lk_X11_51 : g_LkS RX11 (.invokestatic 51) 4 mX11_addBill := g_lkS okX11_addBill q_835 q_836 (by unfold g_np; decide +kernel)
theorem lk_X11_74 : g_LkV RX11 (.invokevirtual 74) RX11 1 mX11_kindAt := g_lkV okX11_kindAt q_858 q_860 q_33 (by unfold g_np; decide +kernel)
theorem lk_X11_82 : g_LkV RX11 (.invokevirtual 82) RX11 0 mX11_nextToken := g_lkV okX11_nextToken q_854 q_856 q_32 (by unfold g_np; decide +kernel)
theorem lk_X11_85 : g_LkV RX11 (.invokevirtual 85) RX11 2 mX11_isNumber := g_lkV okX11_isNumber q_873 q_875 q_36 (by unfold g_np; decide +kernel)
theorem lk_X11_94 : g_LkV RX11 (.invokevirtual 94) RX11 3 mX11_isOne := g_lkV okX11_isOne q_869 q_871 q_35 (by unfold g_np; decide +kernel)
theorem lk_X11_99 : g_LkV RX11 (.invokevirtual 99) RX11 0 mX11_isBillItem := g_lkV okX11_isBillItem q_878 q_880 q_37 (by unfold g_np; decide +kernel)
theorem lk_X11_107 : g_LkV RX11 (.invokevirtual 107) RX11 0 mX11_isItem := g_lkV okX11_isItem q_864 q_866 q_34 (by unfold g_np; decide +kernel)
theorem lk_X11_110 : g_LkV RX11 (.invokevirtual 110) RX11 0 mX11_isRead := g_lkV okX11_isRead q_850 q_852 q_31 (by unfold g_np; decide +kernel)
theorem lk_X11_113 : g_LkS RX11 (.invokestatic 113) 5 mX11_bring := g_lkS okX11_bring q_884 q_885 (by unfold g_np; decide +kernel)
theorem lk_X11_117 : g_LkS RX11 (.invokestatic 117) 3 mX11_poundsBy := g_lkS okX11_poundsBy q_904 q_905 (by unfold g_np; decide +kernel)
theorem lk_X11_121 : g_LkS RX11 (.invokestatic 121) 2 mX11_dayBy := g_lkS okX11_dayBy q_898 q_899 (by unfold g_np; decide +kernel)
theorem lk_X11_125 : g_LkS RX11 (.invokestatic 125) 2 mX11_drawn := g_lkS okX11_drawn q_901 q_902 (by unfold g_np; decide +kernel)
theorem lk_X11_129 : g_LkV RX11 (.invokevirtual 129) RX11 0 mX11_keepBack := g_lkV okX11_keepBack q_891 q_893 q_38 (by unfold g_np; decide +kernel)
theorem lk_X11_132 : g_LkS RX11 (.invokestatic 132) 2 mX11_goBy := g_lkS okX11_goBy q_895 q_896 (by unfold g_np; decide +kernel)
theorem lk_X11_136 : g_LkV RX11 (.invokevirtual 136) RX11 0 mX11_no := g_lkV okX11_no q_915 q_917 q_39 (by unfold g_np; decide +kernel)
theorem lk_X11_139 : g_LkV RX11 (.invokevirtual 139) RX11 1 mX11_isBill := g_lkV okX11_isBill q_927 q_929 q_40 (by unfold g_np; decide +kernel)
theorem lk_X11_143 : g_LkV RX11 (.invokevirtual 143) RX11 1 mX11_badBy := g_lkV okX11_badBy q_931 q_933 q_41 (by unfold g_np; decide +kernel)
theorem lk_X11_147 : g_LkV RX11 (.invokevirtual 147) RX11 0 mX11_copyNow := g_lkV okX11_copyNow q_948 q_950 q_42 (by unfold g_np; decide +kernel)
theorem lk_X11_150 : g_LkV RX11 (.invokevirtual 150) RX11 2 mX11_chargesOn := g_lkV okX11_chargesOn q_952 q_954 q_43 (by unfold g_np; decide +kernel)
theorem lk_X11_153 : g_LkV RX11 (.invokevirtual 153) RX11 2 mX11_belowIn := g_lkV okX11_belowIn q_964 q_966 q_44 (by unfold g_np; decide +kernel)
theorem lk_X11_156 : g_LkV RX11 (.invokevirtual 156) RX11 1 mX11_kindsOf := g_lkV okX11_kindsOf q_1000 q_1002 q_45 (by unfold g_np; decide +kernel)
theorem lk_X11_159 : g_LkV RX11 (.invokevirtual 159) RX11 4 mX11_alikeBy := g_lkV okX11_alikeBy q_1008 q_1010 q_46 (by unfold g_np; decide +kernel)
theorem lk_X11_163 : g_LkV RX11 (.invokevirtual 163) RX11 3 mX11_gets := g_lkV okX11_gets q_1020 q_1022 q_48 (by unfold g_np; decide +kernel)
theorem lk_X11_166 : g_LkV RX11 (.invokevirtual 166) RX11 3 mX11_rests := g_lkV okX11_rests q_1016 q_1018 q_47 (by unfold g_np; decide +kernel)
theorem lk_X11_185 : g_LkV RX11 (.invokevirtual 185) RX11 1 mX11_counted := g_lkV okX11_counted q_1059 q_1061 q_49 (by unfold g_np; decide +kernel)
theorem lk_J0_335 : g_LkV RJ0 (.invokevirtual 335) RJ0 0 mJ0_coder_7d493 := g_lkV okJ0_coder_7d493 q_375 q_376 q_377 (by unfold g_np; decide +kernel)
theorem lk_J0_492 : g_LkV RJ0 (.invokevirtual 492) RJ0 0 mJ0_isLatin1_aae02 := g_lkV okJ0_isLatin1_aae02 q_385 q_386 q_387 (by unfold g_np; decide +kernel)
theorem lk_J0_495 : g_LkS RJ0 (.invokestatic 495) 2 mJ1_charAt_3b067 := g_lkS okJ1_charAt_3b067 q_389 q_390 (by unfold g_np; decide +kernel)
theorem lk_J0_1059 : g_LkS RJ0 (.invokestatic 1059) 3 mJ3_checkIndex_8e157 := g_lkS okJ3_checkIndex_8e157 q_397 q_398 (by unfold g_np; decide +kernel)
theorem lk_J1_9 : g_LkS RJ1 (.invokestatic 9) 2 mJ0_checkIndex_df160 := g_lkS okJ0_checkIndex_df160 q_392 q_393 (by unfold g_np; decide +kernel)
theorem lk_L_9 : g_LkV RL (.invokespecial 9) RX10 0 mX10_init := g_lkI okX10_init rfl q_72 q_73 rfl (by unfold g_np; decide +kernel)
theorem lk_L_12 : g_LkV RL (.invokespecial 12) RX11 0 mX11_init := g_lkI okX11_init rfl q_760 q_761 rfl (by unfold g_np; decide +kernel)
theorem lk_L_13 : g_LkV RL (.invokevirtual 13) RX10 1 mX10_account := g_lkV okX10_account q_295 q_296 q_297 (by unfold g_np; decide +kernel)
theorem lk_L_17 : g_LkV RL (.invokevirtual 17) RX11 1 mX11_account := g_lkV okX11_account q_816 q_817 q_818 (by unfold g_np; decide +kernel)
theorem lk_L_18 : g_LkV RL (.invokevirtual 18) RX10 3 mX10_bill := g_lkV okX10_bill q_313 q_314 q_315 (by unfold g_np; decide +kernel)
theorem lk_L_22 : g_LkV RL (.invokevirtual 22) RX11 3 mX11_bill := g_lkV okX11_bill q_827 q_828 q_829 (by unfold g_np; decide +kernel)
theorem lk_L_23 : g_LkV RL (.invokevirtual 23) RX10 1 mX10_type := g_lkV okX10_type q_328 q_329 q_330 (by unfold g_np; decide +kernel)
theorem lk_L_26 : g_LkV RL (.invokevirtual 26) RX11 1 mX11_type := g_lkV okX11_type q_838 q_839 q_840 (by unfold g_np; decide +kernel)
theorem lk_L_27 : g_LkV RL (.invokevirtual 27) RX10 0 mX10_clear := g_lkV okX10_clear q_336 q_337 q_338 (by unfold g_np; decide +kernel)
theorem lk_L_31 : g_LkV RL (.invokevirtual 31) RX11 0 mX11_clear := g_lkV okX11_clear q_842 q_843 q_844 (by unfold g_np; decide +kernel)
theorem lk_L_32 : g_LkV RL (.invokevirtual 32) RX10 0 mX10_read := g_lkV okX10_read q_340 q_341 q_342 (by unfold g_np; decide +kernel)
theorem lk_L_35 : g_LkV RL (.invokevirtual 35) RX11 0 mX11_read := g_lkV okX11_read q_846 q_847 q_848 (by unfold g_np; decide +kernel)
theorem lk_L_36 : g_LkV RL (.invokevirtual 36) RX10 1 mX10_days := g_lkV okX10_days q_450 q_451 q_452 (by unfold g_np; decide +kernel)
theorem lk_L_39 : g_LkV RL (.invokevirtual 39) RX11 1 mX11_days := g_lkV okX11_days q_887 q_888 q_889 (by unfold g_np; decide +kernel)
theorem lk_L_40 : g_LkV RL (.invokevirtual 40) RX10 1 mX10_spend := g_lkV okX10_spend q_523 q_524 q_525 (by unfold g_np; decide +kernel)
theorem lk_L_43 : g_LkV RL (.invokevirtual 43) RX11 1 mX11_spend := g_lkV okX11_spend q_907 q_908 q_909 (by unfold g_np; decide +kernel)
theorem lk_L_44 : g_LkV RL (.invokevirtual 44) RX10 1 mX10_jar := g_lkV okX10_jar q_527 q_528 q_529 (by unfold g_np; decide +kernel)
theorem lk_L_47 : g_LkV RL (.invokevirtual 47) RX11 1 mX11_jar := g_lkV okX11_jar q_911 q_912 q_913 (by unfold g_np; decide +kernel)
theorem lk_L_48 : g_LkV RL (.invokevirtual 48) RX10 0 mX10_undo := g_lkV okX10_undo q_535 q_536 q_537 (by unfold g_np; decide +kernel)
theorem lk_L_51 : g_LkV RL (.invokevirtual 51) RX11 0 mX11_undo := g_lkV okX11_undo q_919 q_920 q_921 (by unfold g_np; decide +kernel)
theorem lk_L_52 : g_LkV RL (.invokevirtual 52) RX10 2 mX10_of := g_lkV okX10_of q_543 q_544 q_545 (by unfold g_np; decide +kernel)
theorem lk_L_56 : g_LkV RL (.invokevirtual 56) RX11 2 mX11_of := g_lkV okX11_of q_923 q_924 q_925 (by unfold g_np; decide +kernel)
theorem lk_L_57 : g_LkV RL (.invokevirtual 57) RX10 1 mX10_now := g_lkV okX10_now q_551 q_552 q_553 (by unfold g_np; decide +kernel)
theorem lk_L_60 : g_LkV RL (.invokevirtual 60) RX11 1 mX11_now := g_lkV okX11_now q_935 q_936 q_937 (by unfold g_np; decide +kernel)
theorem lk_L_61 : g_LkV RL (.invokevirtual 61) RX10 0 mX10_truly := g_lkV okX10_truly q_556 q_557 q_558 (by unfold g_np; decide +kernel)
theorem lk_L_64 : g_LkV RL (.invokevirtual 64) RX11 0 mX11_truly := g_lkV okX11_truly q_940 q_941 q_942 (by unfold g_np; decide +kernel)
theorem lk_L_65 : g_LkV RL (.invokevirtual 65) RX10 2 mX10_then := g_lkV okX10_then q_560 q_561 q_562 (by unfold g_np; decide +kernel)
theorem lk_L_68 : g_LkV RL (.invokevirtual 68) RX11 2 mX11_then := g_lkV okX11_then q_944 q_945 q_946 (by unfold g_np; decide +kernel)
theorem lk_L_69 : g_LkV RL (.invokevirtual 69) RX10 2 mX10_low := g_lkV okX10_low q_596 q_597 q_598 (by unfold g_np; decide +kernel)
theorem lk_L_72 : g_LkV RL (.invokevirtual 72) RX11 2 mX11_low := g_lkV okX11_low q_956 q_957 q_958 (by unfold g_np; decide +kernel)
theorem lk_L_73 : g_LkV RL (.invokevirtual 73) RX10 0 mX10_below := g_lkV okX10_below q_600 q_601 q_602 (by unfold g_np; decide +kernel)
theorem lk_L_76 : g_LkV RL (.invokevirtual 76) RX11 0 mX11_below := g_lkV okX11_below q_960 q_961 q_962 (by unfold g_np; decide +kernel)
theorem lk_L_77 : g_LkV RL (.invokevirtual 77) RX10 1 mX10_most := g_lkV okX10_most q_604 q_605 q_606 (by unfold g_np; decide +kernel)
theorem lk_L_80 : g_LkV RL (.invokevirtual 80) RX11 1 mX11_most := g_lkV okX11_most q_968 q_969 q_970 (by unfold g_np; decide +kernel)
theorem lk_L_81 : g_LkV RL (.invokevirtual 81) RX10 1 mX10_need := g_lkV okX10_need q_615 q_616 q_617 (by unfold g_np; decide +kernel)
theorem lk_L_84 : g_LkV RL (.invokevirtual 84) RX11 1 mX11_need := g_lkV okX11_need q_972 q_973 q_974 (by unfold g_np; decide +kernel)
theorem lk_L_85 : g_LkV RL (.invokevirtual 85) RX10 0 mX10_move := g_lkV okX10_move q_623 q_624 q_625 (by unfold g_np; decide +kernel)
theorem lk_L_88 : g_LkV RL (.invokevirtual 88) RX11 0 mX11_move := g_lkV okX11_move q_976 q_977 q_978 (by unfold g_np; decide +kernel)
theorem lk_L_89 : g_LkV RL (.invokevirtual 89) RX10 1 mX10_monthly := g_lkV okX10_monthly q_632 q_633 q_634 (by unfold g_np; decide +kernel)
theorem lk_L_92 : g_LkV RL (.invokevirtual 92) RX11 1 mX11_monthly := g_lkV okX11_monthly q_980 q_981 q_982 (by unfold g_np; decide +kernel)
theorem lk_L_93 : g_LkV RL (.invokevirtual 93) RX10 0 mX10_dear := g_lkV okX10_dear q_636 q_637 q_638 (by unfold g_np; decide +kernel)
theorem lk_L_96 : g_LkV RL (.invokevirtual 96) RX11 0 mX11_dear := g_lkV okX11_dear q_984 q_985 q_986 (by unfold g_np; decide +kernel)
theorem lk_L_97 : g_LkV RL (.invokevirtual 97) RX10 5 mX10_note := g_lkV okX10_note q_640 q_641 q_642 (by unfold g_np; decide +kernel)
theorem lk_L_101 : g_LkV RL (.invokevirtual 101) RX11 5 mX11_note := g_lkV okX11_note q_988 q_989 q_990 (by unfold g_np; decide +kernel)
theorem lk_L_102 : g_LkV RL (.invokevirtual 102) RX10 0 mX10_forget := g_lkV okX10_forget q_648 q_649 q_650 (by unfold g_np; decide +kernel)
theorem lk_L_105 : g_LkV RL (.invokevirtual 105) RX11 0 mX11_forget := g_lkV okX11_forget q_992 q_993 q_994 (by unfold g_np; decide +kernel)
theorem lk_L_106 : g_LkV RL (.invokevirtual 106) RX10 1 mX10_is := g_lkV okX10_is q_652 q_653 q_654 (by unfold g_np; decide +kernel)
theorem lk_L_109 : g_LkV RL (.invokevirtual 109) RX11 1 mX11_is := g_lkV okX11_is q_996 q_997 q_998 (by unfold g_np; decide +kernel)
theorem lk_L_110 : g_LkV RL (.invokevirtual 110) RX10 1 mX10_look := g_lkV okX10_look q_672 q_673 q_674 (by unfold g_np; decide +kernel)
theorem lk_L_113 : g_LkV RL (.invokevirtual 113) RX11 1 mX11_look := g_lkV okX11_look q_1004 q_1005 q_1006 (by unfold g_np; decide +kernel)
theorem lk_L_114 : g_LkV RL (.invokevirtual 114) RX10 2 mX10_two := g_lkV okX10_two q_688 q_689 q_690 (by unfold g_np; decide +kernel)
theorem lk_L_117 : g_LkV RL (.invokevirtual 117) RX11 2 mX11_two := g_lkV okX11_two q_1012 q_1013 q_1014 (by unfold g_np; decide +kernel)
theorem lk_L_118 : g_LkV RL (.invokevirtual 118) RX10 3 mX10_boiler := g_lkV okX10_boiler q_704 q_705 q_706 (by unfold g_np; decide +kernel)
theorem lk_L_121 : g_LkV RL (.invokevirtual 121) RX11 3 mX11_boiler := g_lkV okX11_boiler q_1024 q_1025 q_1026 (by unfold g_np; decide +kernel)
theorem lk_L_122 : g_LkV RL (.invokevirtual 122) RX10 2 mX10_years := g_lkV okX10_years q_712 q_713 q_714 (by unfold g_np; decide +kernel)
theorem lk_L_125 : g_LkV RL (.invokevirtual 125) RX11 2 mX11_years := g_lkV okX11_years q_1029 q_1030 q_1031 (by unfold g_np; decide +kernel)
theorem lk_L_126 : g_LkV RL (.invokevirtual 126) RX10 1 mX10_part := g_lkV okX10_part q_726 q_727 q_728 (by unfold g_np; decide +kernel)
theorem lk_L_130 : g_LkV RL (.invokevirtual 130) RX11 1 mX11_part := g_lkV okX11_part q_1039 q_1040 q_1041 (by unfold g_np; decide +kernel)
theorem lk_L_131 : g_LkV RL (.invokevirtual 131) RX10 1 mX10_image := g_lkV okX10_image q_730 q_731 q_732 (by unfold g_np; decide +kernel)
theorem lk_L_134 : g_LkV RL (.invokevirtual 134) RX11 1 mX11_image := g_lkV okX11_image q_1043 q_1044 q_1045 (by unfold g_np; decide +kernel)
theorem lk_L_135 : g_LkV RL (.invokevirtual 135) RX10 1 mX10_from := g_lkV okX10_from q_738 q_739 q_740 (by unfold g_np; decide +kernel)
theorem lk_L_138 : g_LkV RL (.invokevirtual 138) RX11 1 mX11_from := g_lkV okX11_from q_1047 q_1048 q_1049 (by unfold g_np; decide +kernel)
theorem lk_L_139 : g_LkV RL (.invokevirtual 139) RX10 1 mX10_status := g_lkV okX10_status q_742 q_743 q_744 (by unfold g_np; decide +kernel)
theorem lk_L_142 : g_LkV RL (.invokevirtual 142) RX11 1 mX11_status := g_lkV okX11_status q_1051 q_1052 q_1053 (by unfold g_np; decide +kernel)
theorem lk_L_143 : g_LkV RL (.invokevirtual 143) RX10 1 mX10_count := g_lkV okX10_count q_746 q_747 q_748 (by unfold g_np; decide +kernel)
theorem lk_L_146 : g_LkV RL (.invokevirtual 146) RX11 1 mX11_count := g_lkV okX11_count q_1055 q_1056 q_1057 (by unfold g_np; decide +kernel)
theorem lk_L_147 : g_LkV RL (.invokevirtual 147) RX10 0 mX10_digest := g_lkV okX10_digest q_750 q_751 q_752 (by unfold g_np; decide +kernel)
theorem lk_L_151 : g_LkV RL (.invokevirtual 151) RX11 0 mX11_digest := g_lkV okX11_digest q_1063 q_1064 q_1065 (by unfold g_np; decide +kernel)
theorem g_oi : Cond.instanceMethod objectInit ∈ gw ∧ Cond.code objectInit ⟨#[0xb1]⟩ 1 none ∈ gw := ⟨q_76, q_77⟩
theorem g_ac : Cond.native arraycopyName ∈ gw ∧ Cond.static arraycopyName ∈ gw ∧ Cond.initialized "java/lang/System" ∈ gw := ⟨q_449, q_448, q_68⟩
theorem nf_L_7 : g_Nf RL 7 10 := ⟨RX10, TX10, 13, rfl, q_70, q_71, q_51⟩
theorem nf_X10_7 : g_Nf RX10 7 0 := ⟨RX0, TX0, 7, rfl, q_78, q_79, q_52⟩
theorem ka_0 : Cond.arrayClass (newarray.typeOf (g_aty 0)) ∈ gw := q_116
theorem nf_X10_26 : g_Nf RX10 26 8 := ⟨RX8, TX8, 7, rfl, q_117, q_118, q_53⟩
theorem nf_X8_15 : g_Nf RX8 15 0 := ⟨RX0, TX0, 7, rfl, q_123, q_79, q_52⟩
theorem ka_2 : Cond.arrayClass (newarray.typeOf (g_aty 2)) ∈ gw := q_149
theorem ka_1 : Cond.arrayClass (newarray.typeOf (g_aty 1)) ∈ gw := q_150
theorem nf_X10_33 : g_Nf RX10 33 4 := ⟨RX4, TX4, 8, rfl, q_151, q_152, q_54⟩
theorem nf_X4_9 : g_Nf RX4 9 2 := ⟨RX2, TX2, 6, rfl, q_157, q_158, q_55⟩
theorem nf_X2_7 : g_Nf RX2 7 6 := ⟨RX6, TX6, 0, rfl, q_163, q_164, q_56⟩
theorem nf_X2_16 : g_Nf RX2 16 3 := ⟨RX3, TX3, 0, rfl, q_170, q_171, q_57⟩
theorem nf_X2_23 : g_Nf RX2 23 7 := ⟨RX7, TX7, 0, rfl, q_177, q_178, q_58⟩
theorem nf_X2_30 : g_Nf RX2 30 1 := ⟨RX1, TX1, 0, rfl, q_184, q_185, q_59⟩
theorem nf_X2_37 : g_Nf RX2 37 9 := ⟨RX9, TX9, 0, rfl, q_191, q_192, q_60⟩
theorem nf_X2_44 : g_Nf RX2 44 5 := ⟨RX5, TX5, 0, rfl, q_198, q_199, q_61⟩
theorem k_X10_142 : Cond.constant RX10 142 (-100000) ∈ gw := q_555
theorem k_X10_206 : Cond.constant RX10 206 999999 ∈ gw := q_716
theorem k_X10_207 : Cond.constantLong RX10 207 1103515245 ∈ gw := q_717
theorem k_X10_209 : Cond.constantLong RX10 209 12345 ∈ gw := q_718
theorem k_X10_211 : Cond.constantLong RX10 211 2147483648 ∈ gw := q_719
theorem k_X10_213 : Cond.constantLong RX10 213 65536 ∈ gw := q_720
theorem k_X10_215 : Cond.constantLong RX10 215 31 ∈ gw := q_721
theorem k_X10_236 : Cond.constantLong RX10 236 1373 ∈ gw := q_754
theorem nf_L_10 : g_Nf RL 10 11 := ⟨RX11, TX11, 16, rfl, q_758, q_759, q_62⟩
theorem k_X11_78 : Cond.constantLong RX11 78 256 ∈ gw := q_862
theorem k_X11_80 : Cond.constantLong RX11 80 (-1) ∈ gw := q_863
theorem k_X11_92 : Cond.constantLong RX11 92 27412351463812724 ∈ gw := q_868
theorem k_X11_97 : Cond.constantLong RX11 97 1651076204 ∈ gw := q_877
theorem k_X11_103 : Cond.constantLong RX11 103 495806934628 ∈ gw := q_882
theorem k_X11_105 : Cond.constantLong RX11 105 6971762 ∈ gw := q_883
theorem k_X11_146 : Cond.constant RX11 146 (-100000) ∈ gw := q_939
theorem k_X11_169 : Cond.constantLong RX11 169 10 ∈ gw := q_1028
theorem k_X11_174 : Cond.constant RX11 174 999999 ∈ gw := q_1033
theorem k_X11_175 : Cond.constantLong RX11 175 1103515245 ∈ gw := q_1034
theorem k_X11_177 : Cond.constantLong RX11 177 12345 ∈ gw := q_1035
theorem k_X11_179 : Cond.constantLong RX11 179 2147483648 ∈ gw := q_1036
theorem k_X11_181 : Cond.constantLong RX11 181 65536 ∈ gw := q_1037
theorem k_X11_183 : Cond.constantLong RX11 183 31 ∈ gw := q_1038
theorem k_X11_188 : Cond.constantLong RX11 188 1373 ∈ gw := q_1067
end
section
/-! super.m(..) where the method is the superclass's superclass's -/
theorem g_sub2 {s : State} {c p : ClassId} {k : Class} (hk : s.vm.classes[c]? = some k) (hs : k.super = some p) : s.vm.isSubclass c p = true := by
  have hz : 0 < s.vm.classes.size := by
    have := (Array.getElem?_eq_some_iff.mp hk).1
    omega
  obtain ⟨n, hn⟩ : ∃ n, s.vm.classes.size = n + 1 := ⟨s.vm.classes.size - 1, by omega⟩
  simp [Vm.isSubclass, Vm.isSubclassAux, hn, hk, hs]
theorem g_lkSU2 {own C owner : String} {idx n ci : Nat} {T : u_T} {N : Nat} {x : MethodName} {M' : MD} (hok : g_ok M') (hy : M'.1 = ⟨owner, x.name, x.desc⟩) (hc : classes[ci]? = some (C, T, N)) (w1 : Cond.methodLink own idx x ∈ gw) (w2 : Cond.sameMethod x.cls owner x.name x.desc ∈ gw) (w3 : Cond.superclass own x.cls ∈ gw) (w5 : Cond.superclass x.cls owner ∈ gw) (w4 : Cond.instanceMethod M'.1 ∈ gw) (hi : x.name ≠ "<init>") (hn : g_np x.desc n) : g_LkV own (.invokespecial idx) C n M' := by
  intro p l e R s m args below meth c cc nL H locs cells slots mc ms Pc Qc free g b As rest D tys S _ hK hM hf hl hp hg hA hs hst hW hd hr
  obtain ⟨hx, hb, hml, ho, hts⟩ := S
  have hBk : Back l R p e below s args M'.1 3 8 (PreOf R mc ms Pc) (PostOf Qc mc ms free) := back_of (bytes := M'.2.1) (maxL := M'.2.2.1) (ret := M'.2.2.2.1) hM hp.1 rfl rfl hf hl (pay_in hts (g_wm_good hok)) List.mem_cons_self (fun a' U hW => word_at hW (Or.inl (by first | rfl | simp [Cond.onTables, Cond.keeps, Cond.steady])) (hts _ hok.2.2.1))
  obtain ⟨-, ⟨cellB, hcB, hoB, hclB⟩, hPc⟩ := hp
  obtain ⟨hfc, kB, hkB, -⟩ := (hK.1 ci _ hc).2
  rw [Option.some.inj (hfc.symm.trans hclB)] at hkB
  intro T0 hT X
  obtain ⟨mk, methM, hnamed, hmethM, hstM, habM⟩ := Cond.instanceMethod_spec (hts _ w4)
  obtain ⟨methM', cM, hmethM', -, -, -, -, -, -, hsigM⟩ := Cond.code_spec hnamed (hts _ hok.2.1)
  cases hmethM.symm.trans hmethM'
  obtain ⟨ps, dk, kp, hps, hdk, hkp, hsuper, -, -, hnid⟩ := Cond.superclass_spec ho (hts _ w3)
  obtain ⟨pp, dk2, kp2, hpp, hdk2, hkp2, hsuper2, -, -, hnid2⟩ := Cond.superclass_spec hps (hts _ w5)
  have hnm : s.methodNamed? ⟨owner, x.name, x.desc⟩ = some mk := by rw [← hy]; exact hnamed
  have hpm : pp = mk.cls := by
    have h1 := findClass_of_methodNamed hnm
    exact Option.some.inj (hpp.symm.trans h1)
  have hlen : As.length = methM.sig.parameters.length := by
    have h2 : (parseMethodDescriptor x.desc).map (fun q => q.parameters.length) = some n := hn
    have h3 : parseMethodDescriptor x.desc = some methM.sig := by
      have h4 : M'.1.desc = x.desc := by rw [hy]
      rw [← h4]; exact hsigM
    rw [h3] at h2
    exact hA.trans (Option.some.inj h2).symm
  obtain ⟨vm₁, X₁, hstep₁⟩ := X.invokespecialUp hx ho (hts _ w1) (hts _ w2) hnm hmethM hstM habM hi hdk hnid hps hsuper (by rw [← hpm]; exact g_sub2 hdk2 hsuper2) (a := b) (cell := cellB) (by rw [hT]; exact hcB)
    (fun z h => by rw [h] at hoB; cases hoB) hkB (g := g) hg (argsL := As) (rest := rest) hlen hst (by rw [hb]; exact hd)
  obtain ⟨v, ⟨U', l2, c2, s2⟩, X', ⟨g', mk', t, L, e1, e2, hq, h1, hL, h2, h3⟩, hsteps⟩ := hBk m meth c ⟨T0.setVm vm₁, locs, cells, slots⟩ { g with stack := rest } (.invokespecial idx) mk (Value.ref b :: As).toArray X₁ hg (hs.trans hml.symm) (by rw [hb]; exact hd) hW (X₁.named hnamed) ⟨hr.1, hr.2, hPc (T0.setVm vm₁) hT X₁.warmed⟩
  dsimp only [Pt.U, Pt.locs, Pt.cells, Pt.slots] at X' e1 e2 h1 h2 h3 hsteps
  subst h1; subst h2; subst h3
  exact ⟨v, (T0.setVm vm₁).calling g' mk' (Value.ref b :: As).toArray, t, U', L, hT, X', hL, e1, e2, hq, fun target h => hstep₁ _ (by rw [doInvoke_state]; exact hsteps.trans h)⟩
theorem lk_X5_7 : g_LkV RX5 (.invokespecial 7) RX5 2 mX6_poundsIn := g_lkSU2 (owner := RX6) (x := ⟨RX3, "poundsIn", "(II)I"⟩) (ci := 5) okX6_poundsIn rfl rfl (gw_in 511 (by decide +kernel) (by decide +kernel)) (gw_in 512 (by decide +kernel) (by decide +kernel)) (by first | exact q_0 | decide +kernel) (by decide +kernel) (by decide +kernel) (by decide) (by unfold g_np; decide +kernel)
end
section
/-! whole numbers: a state is Z (cell, place): an int, or a long, as a number -/
def g_rL : List (List (Option Nat)) := [[some 1, some 6, some 11, some 16, some 17, some 24, some 25, some 33], [some 2, some 3, some 4, some 5], [], [], [], [], [some 7, some 8, some 9, some 10], [], [], [], [], [some 12, some 13, some 14, some 15], [], [], [], [], [], [some 18, some 19], [], [some 20, some 21, some 22, some 23], [], [], [], [], [some 25, some 32], [some 26, some 27, some 28, some 29, some 30, some 31], [], [], [], [], [], [], [], [], [some 35, some 36, some 37, some 38, some 39, some 40, none, none, none, some 41], [], [], [], [], [], [], []]
def g_rS (k j : Nat) : Option Nat := (g_rL.getD k []).getD j none
abbrev iv (n : Int) : Value := .int (Int32.ofInt n)
abbrev il (n : Int) : Value := .long (Int64.ofInt n)
abbrev ZS : Type := Nat → Nat → Int
def g_N (Z : ZS) : St := (fun k j => Int32.ofInt (Z k j), fun k j => Int64.ofInt (Z k j), g_rS, 42)
/-- one place set anew; one row set anew -/
def zu (Z : ZS) (k j : Nat) (v : Int) : ZS := fun a b => if a = k then (if b = j then v else Z a b) else Z a b
def zr (Z : ZS) (k : Nat) (f : Nat → Int) : ZS := fun a => if a = k then f else Z a
theorem zu_eq {Z : ZS} {k j : Nat} {v : Int} : zu Z k j v k j = v := by simp [zu]
theorem zu_ne {Z : ZS} {k j a b : Nat} {v : Int} (h : a ≠ k ∨ b ≠ j) : zu Z k j v a b = Z a b := by
  unfold zu
  rcases h with h | h
  · rw [if_neg h]
  · rw [if_neg h]; split <;> rfl
theorem zu_row {Z : ZS} {k j a : Nat} {v : Int} (h : a ≠ k) : zu Z k j v a = Z a := by funext b; exact zu_ne (Or.inl h)
theorem zr_eq {Z : ZS} {k : Nat} {f : Nat → Int} : zr Z k f k = f := by simp [zr]
theorem zr_ne {Z : ZS} {k a : Nat} {f : Nat → Int} (h : a ≠ k) : zr Z k f a = Z a := by simp [zr, h]
theorem t32 {n : Int} (h : -2147483648 ≤ n ∧ n ≤ 2147483647) : (Int32.ofInt n).toInt = n := Int32.toInt_ofInt_of_le (by simpa using h.1) (by have := h.2; omega)
theorem t64 {n : Int} (h : -9223372036854775808 ≤ n ∧ n ≤ 9223372036854775807) : (Int64.ofInt n).toInt = n := Int64.toInt_ofInt_of_le (by simpa using h.1) (by have := h.2; omega)
theorem o32 (v : Int32) : Int32.ofInt v.toInt = v := Int32.ofInt_toInt v
/-- FROM A PLACE ON, over whole numbers -/
abbrev Cn (G : Wd) (M : MD) (pc : Nat) (L : List (Option Value)) (S : List Value) (Z : ZS) (Q : Option Value → ZS → Prop) : Prop := Cc G M 42 pc L S (g_N Z) (fun v τ => ∃ Z', τ = g_N Z' ∧ Q v Z')
/-- a state that is the same as far as the cells go -/
theorem cz_eqv {G : Wd} {M : MD} {nE pc : Nat} {L : List (Option Value)} {S : List Value} {σ σ' : St} {Q : Option Value → St → Prop} (hn : σ'.2.2.2 = σ.2.2.2) (he : ∀ k, g_en G σ' k = g_en G σ k) (h : Cc G M nE pc L S σ' Q) : Cc G M nE pc L S σ Q := by
  intro p e R s m args below meth c H locs ls cells slots n0 QQ hF hU hR ha hh hK hc1 hc2 hW hS hL
  refine h p e R s m args below meth c H locs ls cells slots n0 QQ hF hU hR ha hh hK (by rw [hn]; exact hc1) (by rw [hn]; exact hc2) ⟨?_, by rw [hn]; exact hW.2.1, hW.2.2.1, by rw [hn]; exact hW.2.2.2⟩ hS hL
  have : g_ws G σ' = g_ws G σ := by
    apply Eq.symm
    refine g_ws_ext (by rw [g_ws_len, hn]) (fun k hk => ?_)
    rw [g_ws_at (by rw [← hn]; exact hk), he k]
  rw [this]
  exact hW.1
theorem g_en_zu {G : Wd} {Z : ZS} {k j : Nat} {v : Int} (a : Nat) (f : Nat → Int32) (hf : f = upd ((g_N Z).1 k) j (Int32.ofInt v)) (hty : ∀ ci, g_sh k = .inr ci → g_fty ci j ≠ .long) : g_en G (g_N (zu Z k j v)) a = g_en G (g_pr (g_N Z) k f) a := by
  subst hf
  by_cases ha : a = k
  · subst ha
    unfold g_en
    cases hs : g_sh a with
    | inl q =>
      simp only
      have : (g_N (zu Z a j v)).1 a = (g_pr (g_N Z) a (upd ((g_N Z).1 a) j (Int32.ofInt v))).1 a := by
        funext b
        by_cases hb : b = j <;> simp [g_N, g_pr, zu, upd, hb]
      rw [this]
    | inr ci =>
      simp only
      have hl := hty ci hs
      congr 2
      unfold g_fl
      apply List.map_congr_left
      intro b _
      by_cases hb : b = j
      · subst hb
        cases hq : g_fty ci b <;> first | (exact absurd hq hl) | simp [g_fv, g_N, g_pr, zu, upd]
      · cases g_fty ci b <;> simp [g_fv, g_N, g_pr, zu, upd, hb]
  · rw [g_en_pr ha]
    unfold g_en
    have h1 : (g_N (zu Z k j v)).1 a = (g_N Z).1 a := by funext b; simp [g_N, zu, ha]
    cases g_sh a with
    | inl q => simp only [h1]
    | inr ci =>
      simp only
      congr 2
      unfold g_fl
      apply List.map_congr_left
      intro b _
      cases g_fty ci b <;> simp [g_fv, g_N, zu, ha]
theorem g_en_zl {G : Wd} {Z : ZS} {k j : Nat} {v : Int} (a : Nat) {ci : Nat} (hs : g_sh k = .inr ci) (hty : g_fty ci j = .long) : g_en G (g_N (zu Z k j v)) a = g_en G (g_pl (g_N Z) k j (Int64.ofInt v)) a := by
  by_cases ha : a = k
  · subst ha
    unfold g_en
    rw [hs]
    simp only
    congr 2
    unfold g_fl
    apply List.map_congr_left
    intro b _
    by_cases hb : b = j
    · subst hb
      rw [hty]; simp [g_fv, g_N, g_pl, zu]
    · cases g_fty ci b <;> simp [g_fv, g_N, g_pl, zu, hb]
  · rw [g_en_pl ha]
    unfold g_en
    have h1 : (g_N (zu Z k j v)).1 a = (g_N Z).1 a := by funext b; simp [g_N, zu, ha]
    cases g_sh a with
    | inl q => simp only [h1]
    | inr ci =>
      simp only
      congr 2
      unfold g_fl
      apply List.map_congr_left
      intro b _
      cases g_fty ci b <;> simp [g_fv, g_N, zu, ha]
theorem g_en_zr {G : Wd} {Z : ZS} {k t n : Nat} {f : Nat → Int} (a : Nat) (g : Nat → Int32) (hg : g = fun b => Int32.ofInt (f b)) (hs : g_sh k = .inl (t, n)) : g_en G (g_N (zr Z k f)) a = g_en G (g_pr (g_N Z) k g) a := by
  subst hg
  by_cases ha : a = k
  · subst ha
    rw [g_en_arr hs rfl, g_en_arr hs rfl]
    congr 4
    funext b
    simp [g_N, g_pr, zr]
  · rw [g_en_pr ha]
    unfold g_en
    have h1 : (g_N (zr Z k f)).1 a = (g_N Z).1 a := by funext b; simp [g_N, zr, ha]
    cases g_sh a with
    | inl q => simp only [h1]
    | inr ci =>
      simp only
      congr 2
      unfold g_fl
      apply List.map_congr_left
      intro b _
      cases g_fty ci b <;> simp [g_fv, g_N, zr, ha]
section
variable {G : Wd} {M M' : MD} {pc pc' : Nat} {L L' : List (Option Value)} {S : List Value} {Z : ZS} {Q Q' : Option Value → ZS → Prop}
theorem nz_iconst {n : Int} (hd : decode M.2.1 pc = .ok (.iconst n, 1))  (hp : pc + 1 = pc') (h : Cn G M pc' L (iv n :: S) Z Q) : Cn G M pc L (S) Z Q := cz_iconst hd rfl hp h
theorem nz_bipush {n : Int} (hd : decode M.2.1 pc = .ok (.bipush n, 2)) (hv : (Int8.ofInt n).toInt32 = Int32.ofInt n) (hp : pc + 2 = pc') (h : Cn G M pc' L (iv n :: S) Z Q) : Cn G M pc L (S) Z Q := cz_bipush hd hv hp h
theorem nz_sipush {n : Int} (hd : decode M.2.1 pc = .ok (.sipush n, 3)) (hv : (Int16.ofInt n).toInt32 = Int32.ofInt n) (hp : pc + 3 = pc') (h : Cn G M pc' L (iv n :: S) Z Q) : Cn G M pc L (S) Z Q := cz_sipush hd hv hp h
theorem nz_lconst {n : Fin 2} {v : Int} (hd : decode M.2.1 pc = .ok (.lconst n, 1)) (hv : Int64.ofNat (n : Nat) = Int64.ofInt v) (hp : pc + 1 = pc') (h : Cn G M pc' L (il v :: S) Z Q) : Cn G M pc L (S) Z Q := cz_lconst hd hv hp h
theorem nz_ldc {i : Nat} {v : Int} (hd : decode M.2.1 pc = .ok (.ldc i, 2)) (hw : Cond.constant M.1.cls i (Int32.ofInt v) ∈ gw) (hp : pc + 2 = pc') (h : Cn G M pc' L (iv v :: S) Z Q) : Cn G M pc L (S) Z Q := cz_ldc hd hw hp h
theorem nz_ldc2 {i : Nat} {v : Int} (hd : decode M.2.1 pc = .ok (.ldc2_w i, 3)) (hw : Cond.constantLong M.1.cls i (Int64.ofInt v) ∈ gw) (hp : pc + 3 = pc') (h : Cn G M pc' L (il v :: S) Z Q) : Cn G M pc L (S) Z Q := cz_ldc2 hd hw hp h
theorem nz_iadd {a b : Int} (hd : decode M.2.1 pc = .ok (.iadd, 1))  (hp : pc + 1 = pc') (h : Cn G M pc' L (iv (a + b) :: S) Z Q) : Cn G M pc L (iv b :: iv a :: S) Z Q := cz_iadd hd hp (by rw [← Int32.ofInt_add]; exact h)
theorem nz_isub {a b : Int} (hd : decode M.2.1 pc = .ok (.isub, 1))  (hp : pc + 1 = pc') (h : Cn G M pc' L (iv (a - b) :: S) Z Q) : Cn G M pc L (iv b :: iv a :: S) Z Q := cz_isub hd hp (by rw [← Int32.ofInt_sub]; exact h)
theorem nz_imul {a b : Int} (hd : decode M.2.1 pc = .ok (.imul, 1))  (hp : pc + 1 = pc') (h : Cn G M pc' L (iv (a * b) :: S) Z Q) : Cn G M pc L (iv b :: iv a :: S) Z Q := cz_imul hd hp (by rw [← Int32.ofInt_mul]; exact h)
theorem nz_ladd {a b : Int} (hd : decode M.2.1 pc = .ok (.ladd, 1))  (hp : pc + 1 = pc') (h : Cn G M pc' L (il (a + b) :: S) Z Q) : Cn G M pc L (il b :: il a :: S) Z Q := cz_ladd hd hp (by rw [← Int64.ofInt_add]; exact h)
theorem nz_lsub {a b : Int} (hd : decode M.2.1 pc = .ok (.lsub, 1))  (hp : pc + 1 = pc') (h : Cn G M pc' L (il (a - b) :: S) Z Q) : Cn G M pc L (il b :: il a :: S) Z Q := cz_lsub hd hp (by rw [← Int64.ofInt_sub]; exact h)
theorem nz_lmul {a b : Int} (hd : decode M.2.1 pc = .ok (.lmul, 1))  (hp : pc + 1 = pc') (h : Cn G M pc' L (il (a * b) :: S) Z Q) : Cn G M pc L (il b :: il a :: S) Z Q := cz_lmul hd hp (by rw [← Int64.ofInt_mul]; exact h)
theorem nz_ineg {a : Int} (hd : decode M.2.1 pc = .ok (.ineg, 1))  (hp : pc + 1 = pc') (h : Cn G M pc' L (iv (-a) :: S) Z Q) : Cn G M pc L (iv a :: S) Z Q := cz_ineg hd hp (by rw [← Int32.ofInt_neg]; exact h)
theorem nz_i2l {a : Int} (hd : decode M.2.1 pc = .ok (.i2l, 1)) (ha : -2147483648 ≤ a ∧ a ≤ 2147483647) (hp : pc + 1 = pc') (h : Cn G M pc' L (il a :: S) Z Q) : Cn G M pc L (iv a :: S) Z Q := cz_i2l hd hp (by
  have e : (Int32.ofInt a).toInt64 = Int64.ofInt a := by
    apply Int64.toInt_inj.mp
    rw [Int32.toInt_toInt64, t32 ha, t64 (by omega)]
  rw [e]; exact h)
theorem nz_l2i {a : Int} (hd : decode M.2.1 pc = .ok (.l2i, 1)) (ha : -2147483648 ≤ a ∧ a ≤ 2147483647) (hp : pc + 1 = pc') (h : Cn G M pc' L (iv a :: S) Z Q) : Cn G M pc L (il a :: S) Z Q := cz_l2i hd hp (by
  have e : (Int64.ofInt a).toInt32 = Int32.ofInt a := by
    apply Int32.toInt_inj.mp
    rw [Int64.toInt_toInt32, t32 ha, t64 (by omega), Int.bmod_eq_of_le (by omega) (by omega)]
  rw [e]; exact h)
theorem d32 {a b : Int} (ha : 0 ≤ a ∧ a ≤ 2147483647) (hb : 1 ≤ b ∧ b ≤ 2147483647) : Int32.ofInt a / Int32.ofInt b = Int32.ofInt (a / b) := by
  have h1 := Int.ediv_nonneg ha.1 (show 0 ≤ b by omega)
  have h2 := Int.ediv_le_self b ha.1
  apply Int32.toInt_inj.mp
  rw [Int32.toInt_div, t32 (by omega), t32 (by omega), t32 (by omega), Int.tdiv_eq_ediv_of_nonneg ha.1, Int.bmod_eq_of_le (by omega) (by omega)]
theorem d64 {a b : Int} (ha : 0 ≤ a ∧ a ≤ 9223372036854775807) (hb : 1 ≤ b ∧ b ≤ 9223372036854775807) : Int64.ofInt a / Int64.ofInt b = Int64.ofInt (a / b) := by
  have h1 := Int.ediv_nonneg ha.1 (show 0 ≤ b by omega)
  have h2 := Int.ediv_le_self b ha.1
  apply Int64.toInt_inj.mp
  rw [Int64.toInt_div, t64 (by omega), t64 (by omega), t64 (by omega), Int.tdiv_eq_ediv_of_nonneg ha.1, Int.bmod_eq_of_le (by omega) (by omega)]
theorem n0_32 {b : Int} (hb : 1 ≤ b ∧ b ≤ 2147483647) : ¬ Int32.ofInt b = 0 := fun h => by
  have h1 := congrArg Int32.toInt h
  rw [t32 (by omega)] at h1
  have h2 : (0 : Int32).toInt = 0 := rfl
  omega
theorem n0_64 {b : Int} (hb : 1 ≤ b ∧ b ≤ 9223372036854775807) : ¬ Int64.ofInt b = 0 := fun h => by
  have h1 := congrArg Int64.toInt h
  rw [t64 (by omega)] at h1
  have h2 : (0 : Int64).toInt = 0 := rfl
  omega
theorem nz_idiv {a b : Int} (hd : decode M.2.1 pc = .ok (.idiv, 1)) (ha : 0 ≤ a ∧ a ≤ 2147483647) (hb : 1 ≤ b ∧ b ≤ 2147483647) (hp : pc + 1 = pc') (h : Cn G M pc' L (iv (a / b) :: S) Z Q) : Cn G M pc L (iv b :: iv a :: S) Z Q := cz_idiv hd (n0_32 hb) hp (by rw [d32 ha hb]; exact h)
theorem nz_irem {a b : Int} (hd : decode M.2.1 pc = .ok (.irem, 1)) (ha : 0 ≤ a ∧ a ≤ 2147483647) (hb : 1 ≤ b ∧ b ≤ 2147483647) (hp : pc + 1 = pc') (h : Cn G M pc' L (iv (a % b) :: S) Z Q) : Cn G M pc L (iv b :: iv a :: S) Z Q := cz_irem hd (n0_32 hb) hp (by
  rw [d32 ha hb, ← Int32.ofInt_mul, ← Int32.ofInt_sub, show a - a / b * b = a % b by rw [Int.emod_def, Int.mul_comm]]; exact h)
theorem nz_ldiv {a b : Int} (hd : decode M.2.1 pc = .ok (.ldiv, 1)) (ha : 0 ≤ a ∧ a ≤ 9223372036854775807) (hb : 1 ≤ b ∧ b ≤ 9223372036854775807) (hp : pc + 1 = pc') (h : Cn G M pc' L (il (a / b) :: S) Z Q) : Cn G M pc L (il b :: il a :: S) Z Q := cz_ldiv hd (n0_64 hb) hp (by rw [d64 ha hb]; exact h)
theorem nz_lrem {a b : Int} (hd : decode M.2.1 pc = .ok (.lrem, 1)) (ha : 0 ≤ a ∧ a ≤ 9223372036854775807) (hb : 1 ≤ b ∧ b ≤ 9223372036854775807) (hp : pc + 1 = pc') (h : Cn G M pc' L (il (a % b) :: S) Z Q) : Cn G M pc L (il b :: il a :: S) Z Q := cz_lrem hd (n0_64 hb) hp (by
  rw [d64 ha hb, ← Int64.ofInt_mul, ← Int64.ofInt_sub, show a - a / b * b = a % b by rw [Int.emod_def, Int.mul_comm]]; exact h)
theorem lt32 {a b : Int} (ha : -2147483648 ≤ a ∧ a ≤ 2147483647) (hb : -2147483648 ≤ b ∧ b ≤ 2147483647) : Int32.ofInt a < Int32.ofInt b ↔ a < b := by rw [Int32.lt_iff_toInt_lt, t32 ha, t32 hb]
theorem le32 {a b : Int} (ha : -2147483648 ≤ a ∧ a ≤ 2147483647) (hb : -2147483648 ≤ b ∧ b ≤ 2147483647) : Int32.ofInt a ≤ Int32.ofInt b ↔ a ≤ b := by rw [Int32.le_iff_toInt_le, t32 ha, t32 hb]
theorem eq32 {a b : Int} (ha : -2147483648 ≤ a ∧ a ≤ 2147483647) (hb : -2147483648 ≤ b ∧ b ≤ 2147483647) : Int32.ofInt a = Int32.ofInt b ↔ a = b := by rw [← Int32.toInt_inj, t32 ha, t32 hb]
theorem z32 : (0 : Int32) = Int32.ofInt 0 := rfl
theorem eq64 {a b : Int} (ha : -9223372036854775808 ≤ a ∧ a ≤ 9223372036854775807) (hb : -9223372036854775808 ≤ b ∧ b ≤ 9223372036854775807) : Int64.ofInt a = Int64.ofInt b ↔ a = b := by rw [← Int64.toInt_inj, t64 ha, t64 hb]
theorem lt64 {a b : Int} (ha : -9223372036854775808 ≤ a ∧ a ≤ 9223372036854775807) (hb : -9223372036854775808 ≤ b ∧ b ≤ 9223372036854775807) : Int64.ofInt a < Int64.ofInt b ↔ a < b := by rw [Int64.lt_iff_toInt_lt, t64 ha, t64 hb]
theorem nz_lcmp {a b : Int} (hd : decode M.2.1 pc = .ok (.lcmp, 1)) (ha : -9223372036854775808 ≤ a ∧ a ≤ 9223372036854775807) (hb : -9223372036854775808 ≤ b ∧ b ≤ 9223372036854775807) (hp : pc + 1 = pc') (h : Cn G M pc' L (iv (if b < a then 1 else if a = b then 0 else -1) :: S) Z Q) : Cn G M pc L (il b :: il a :: S) Z Q := cz_lcmp hd hp (by
  have e : lg_cmp (Int64.ofInt a) (Int64.ofInt b) = Int32.ofInt (if b < a then 1 else if a = b then 0 else -1) := by
    unfold lg_cmp
    have h1 : (Int64.ofInt a > Int64.ofInt b) ↔ b < a := lt64 hb ha
    have h2 := eq64 ha hb
    by_cases c1 : b < a
    · rw [if_pos (h1.mpr c1), if_pos c1]; rfl
    · rw [if_neg (fun q => c1 (h1.mp q)), if_neg c1]
      by_cases c2 : a = b
      · rw [if_pos (h2.mpr c2), if_pos c2]; rfl
      · rw [if_neg (fun q => c2 (h2.mp q)), if_neg c2]; rfl
  rw [e]; exact h)
theorem nz_if_eq {a off : Int} {tgt : Nat} (hd : decode M.2.1 pc = .ok (.ifCond .eq off, 3)) (ha : -2147483648 ≤ a ∧ a ≤ 2147483647)  (ht : (pc : Int) + off = (tgt : Int)) (hp : pc + 3 = pc') (kt : a = 0 → Cn G M tgt L S Z Q) (kf : a ≠ 0 → Cn G M pc' L S Z Q) : Cn G M pc L (iv a :: S) Z Q := by
  have e := eq32 (b := 0) ha (by omega)
  exact cz_if_eq hd ht hp (fun q => kt (e.mp q)) (fun q => kf (fun z => q (e.mpr z)))
theorem nz_icmp_eq {a b off : Int} {tgt : Nat} (hd : decode M.2.1 pc = .ok (.if_icmp .eq off, 3)) (ha : -2147483648 ≤ a ∧ a ≤ 2147483647) (hb : -2147483648 ≤ b ∧ b ≤ 2147483647) (ht : (pc : Int) + off = (tgt : Int)) (hp : pc + 3 = pc') (kt : a = b → Cn G M tgt L S Z Q) (kf : a ≠ b → Cn G M pc' L S Z Q) : Cn G M pc L (iv b :: iv a :: S) Z Q := by
  have e := eq32 ha hb
  exact cz_icmp_eq hd ht hp (fun q => kt (e.mp q)) (fun q => kf (fun z => q (e.mpr z)))
theorem nz_if_ne {a off : Int} {tgt : Nat} (hd : decode M.2.1 pc = .ok (.ifCond .ne off, 3)) (ha : -2147483648 ≤ a ∧ a ≤ 2147483647)  (ht : (pc : Int) + off = (tgt : Int)) (hp : pc + 3 = pc') (kt : a ≠ 0 → Cn G M tgt L S Z Q) (kf : a = 0 → Cn G M pc' L S Z Q) : Cn G M pc L (iv a :: S) Z Q := by
  have e := eq32 (b := 0) ha (by omega)
  exact cz_if_ne hd ht hp (fun q => kt (fun z => q (e.mpr z))) (fun q => kf (e.mp q))
theorem nz_icmp_ne {a b off : Int} {tgt : Nat} (hd : decode M.2.1 pc = .ok (.if_icmp .ne off, 3)) (ha : -2147483648 ≤ a ∧ a ≤ 2147483647) (hb : -2147483648 ≤ b ∧ b ≤ 2147483647) (ht : (pc : Int) + off = (tgt : Int)) (hp : pc + 3 = pc') (kt : a ≠ b → Cn G M tgt L S Z Q) (kf : a = b → Cn G M pc' L S Z Q) : Cn G M pc L (iv b :: iv a :: S) Z Q := by
  have e := eq32 ha hb
  exact cz_icmp_ne hd ht hp (fun q => kt (fun z => q (e.mpr z))) (fun q => kf (e.mp q))
theorem nz_if_lt {a off : Int} {tgt : Nat} (hd : decode M.2.1 pc = .ok (.ifCond .lt off, 3)) (ha : -2147483648 ≤ a ∧ a ≤ 2147483647)  (ht : (pc : Int) + off = (tgt : Int)) (hp : pc + 3 = pc') (kt : a < 0 → Cn G M tgt L S Z Q) (kf : 0 ≤ a → Cn G M pc' L S Z Q) : Cn G M pc L (iv a :: S) Z Q := by
  have e := lt32 (b := 0) ha (by omega)
  exact cz_if_lt hd ht hp (fun q => kt (e.mp q)) (fun q => kf (by have := mt e.mpr q; omega))
theorem nz_icmp_lt {a b off : Int} {tgt : Nat} (hd : decode M.2.1 pc = .ok (.if_icmp .lt off, 3)) (ha : -2147483648 ≤ a ∧ a ≤ 2147483647) (hb : -2147483648 ≤ b ∧ b ≤ 2147483647) (ht : (pc : Int) + off = (tgt : Int)) (hp : pc + 3 = pc') (kt : a < b → Cn G M tgt L S Z Q) (kf : b ≤ a → Cn G M pc' L S Z Q) : Cn G M pc L (iv b :: iv a :: S) Z Q := by
  have e := lt32 ha hb
  exact cz_icmp_lt hd ht hp (fun q => kt (e.mp q)) (fun q => kf (by have := mt e.mpr q; omega))
theorem nz_if_ge {a off : Int} {tgt : Nat} (hd : decode M.2.1 pc = .ok (.ifCond .ge off, 3)) (ha : -2147483648 ≤ a ∧ a ≤ 2147483647)  (ht : (pc : Int) + off = (tgt : Int)) (hp : pc + 3 = pc') (kt : 0 ≤ a → Cn G M tgt L S Z Q) (kf : a < 0 → Cn G M pc' L S Z Q) : Cn G M pc L (iv a :: S) Z Q := by
  have e := le32 (a := 0) (by omega) ha
  exact cz_if_ge hd ht hp (fun q => kt (e.mp q)) (fun q => kf (by have := mt e.mpr q; omega))
theorem nz_icmp_ge {a b off : Int} {tgt : Nat} (hd : decode M.2.1 pc = .ok (.if_icmp .ge off, 3)) (ha : -2147483648 ≤ a ∧ a ≤ 2147483647) (hb : -2147483648 ≤ b ∧ b ≤ 2147483647) (ht : (pc : Int) + off = (tgt : Int)) (hp : pc + 3 = pc') (kt : b ≤ a → Cn G M tgt L S Z Q) (kf : a < b → Cn G M pc' L S Z Q) : Cn G M pc L (iv b :: iv a :: S) Z Q := by
  have e := le32 hb ha
  exact cz_icmp_ge hd ht hp (fun q => kt (e.mp q)) (fun q => kf (by have := mt e.mpr q; omega))
theorem nz_if_gt {a off : Int} {tgt : Nat} (hd : decode M.2.1 pc = .ok (.ifCond .gt off, 3)) (ha : -2147483648 ≤ a ∧ a ≤ 2147483647)  (ht : (pc : Int) + off = (tgt : Int)) (hp : pc + 3 = pc') (kt : 0 < a → Cn G M tgt L S Z Q) (kf : a ≤ 0 → Cn G M pc' L S Z Q) : Cn G M pc L (iv a :: S) Z Q := by
  have e := lt32 (a := 0) (by omega) ha
  exact cz_if_gt hd ht hp (fun q => kt (e.mp q)) (fun q => kf (by have := mt e.mpr q; omega))
theorem nz_icmp_gt {a b off : Int} {tgt : Nat} (hd : decode M.2.1 pc = .ok (.if_icmp .gt off, 3)) (ha : -2147483648 ≤ a ∧ a ≤ 2147483647) (hb : -2147483648 ≤ b ∧ b ≤ 2147483647) (ht : (pc : Int) + off = (tgt : Int)) (hp : pc + 3 = pc') (kt : b < a → Cn G M tgt L S Z Q) (kf : a ≤ b → Cn G M pc' L S Z Q) : Cn G M pc L (iv b :: iv a :: S) Z Q := by
  have e := lt32 hb ha
  exact cz_icmp_gt hd ht hp (fun q => kt (e.mp q)) (fun q => kf (by have := mt e.mpr q; omega))
theorem nz_if_le {a off : Int} {tgt : Nat} (hd : decode M.2.1 pc = .ok (.ifCond .le off, 3)) (ha : -2147483648 ≤ a ∧ a ≤ 2147483647)  (ht : (pc : Int) + off = (tgt : Int)) (hp : pc + 3 = pc') (kt : a ≤ 0 → Cn G M tgt L S Z Q) (kf : 0 < a → Cn G M pc' L S Z Q) : Cn G M pc L (iv a :: S) Z Q := by
  have e := le32 (b := 0) ha (by omega)
  exact cz_if_le hd ht hp (fun q => kt (e.mp q)) (fun q => kf (by have := mt e.mpr q; omega))
theorem nz_icmp_le {a b off : Int} {tgt : Nat} (hd : decode M.2.1 pc = .ok (.if_icmp .le off, 3)) (ha : -2147483648 ≤ a ∧ a ≤ 2147483647) (hb : -2147483648 ≤ b ∧ b ≤ 2147483647) (ht : (pc : Int) + off = (tgt : Int)) (hp : pc + 3 = pc') (kt : a ≤ b → Cn G M tgt L S Z Q) (kf : b < a → Cn G M pc' L S Z Q) : Cn G M pc L (iv b :: iv a :: S) Z Q := by
  have e := le32 ha hb
  exact cz_icmp_le hd ht hp (fun q => kt (e.mp q)) (fun q => kf (by have := mt e.mpr q; omega))
theorem nz_tabIn {a dflt lo hi off : Int} {offs : Array Int} {len tgt : Nat} (j : Nat) (hd : decode M.2.1 pc = .ok (.tableswitch dflt lo hi offs, len)) (ha : -2147483648 ≤ a ∧ a ≤ 2147483647) (hj : a - lo = (j : Int)) (hh : a ≤ hi) (ho : offs[j]? = some off) (ht : (pc : Int) + off = (tgt : Int)) (h : Cn G M tgt L S Z Q) : Cn G M pc L (iv a :: S) Z Q := by
  refine cz_tabIn hd (by rw [t32 ha]; omega) (by rw [t32 ha]; exact hh) ?_ ht h
  rw [t32 ha, hj]
  exact ho
theorem nz_tabOut {a dflt lo hi : Int} {offs : Array Int} {len tgt : Nat} (hd : decode M.2.1 pc = .ok (.tableswitch dflt lo hi offs, len)) (ha : -2147483648 ≤ a ∧ a ≤ 2147483647) (hh : a < lo ∨ hi < a) (ht : (pc : Int) + dflt = (tgt : Int)) (h : Cn G M tgt L S Z Q) : Cn G M pc L (iv a :: S) Z Q := cz_tabOut hd (by rw [t32 ha]; exact hh) ht h
theorem nz_iinc {i : Nat} {n a : Int} (hd : decode M.2.1 pc = .ok (.iinc i n, 3)) (hi : i < M.2.2.1) (hx : L[i]? = some (some (iv a))) (hl : g_st1 L i (iv (a + n)) = L') (hp : pc + 3 = pc') (h : Cn G M pc' L' S Z Q) : Cn G M pc L S Z Q := cz_iinc (v := Int32.ofInt (a + n)) hd hi hx (by rw [Int32.ofInt_add]) hl hp h
theorem nz_iret {a : Int} {ty : FieldType} (hd : decode M.2.1 pc = .ok (.ireturn, 1)) (hr : M.2.2.2.1 = some ty) (hx : narrow ty (iv a) = iv a) (hq : Q (some (iv a)) Z) : Cn G M pc L [iv a] Z Q := cz_iret hd hr hx rfl ⟨Z, rfl, hq⟩
theorem nz_lret {a : Int} (hd : decode M.2.1 pc = .ok (.lreturn, 1)) (hr : M.2.2.2.1 = some .long) (hq : Q (some (il a)) Z) : Cn G M pc L [il a] Z Q := cz_lret hd hr rfl ⟨Z, rfl, hq⟩
theorem nz_aret {x : Nat} {n : String} (hd : decode M.2.1 pc = .ok (.areturn, 1)) (hr : M.2.2.2.1 = some (.object n)) (hq : Q (some (.ref x)) Z) : Cn G M pc L [.ref x] Z Q := cz_aret hd hr rfl ⟨Z, rfl, hq⟩
theorem nz_vret (hd : decode M.2.1 pc = .ok (.return_, 1)) (hr : M.2.2.2.1 = none) (hq : Q none Z) : Cn G M pc L [] Z Q := cz_vret hd hr rfl ⟨Z, rfl, hq⟩
theorem nz_mono (h : Cn G M pc L S Z Q') (hq : ∀ v W, Q' v W → Q v W) : Cn G M pc L S Z Q := cz_mono h (fun v τ ⟨W, e, q⟩ _ => ⟨W, e, hq v W q⟩)
theorem nz_getf {idx k ci j : Nat} {v : Value} (hd : decode M.2.1 pc = .ok (.getfield idx, 3)) (hg : g_Gf M.1.cls idx ci j) (hk : k < 42) (hs : g_sh k = .inr ci) (hv : g_fv (g_N Z) k (g_fty ci j) j = v) (hp : pc + 3 = pc') (h : Cn G M pc' L (v :: S) Z Q) : Cn G M pc L (.ref k :: S) Z Q := cz_getf hd hg hk hs hv hp h
theorem nz_puti {idx k ci j : Nat} {a : Int} (hd : decode M.2.1 pc = .ok (.putfield idx, 3)) (hg : g_Pf M.1.cls idx ci j) (hty : g_fty ci j = .int) (hk : k < 42) (hs : g_sh k = .inr ci) (hp : pc + 3 = pc') (h : Cn G M pc' L S (zu Z k j a) Q) : Cn G M pc L (iv a :: .ref k :: S) Z Q :=
  cz_puti hd hg hty hk hs hp (cz_eqv (σ' := g_N (zu Z k j a)) rfl (fun b => g_en_zu b _ rfl (fun c hc => by rw [hs] at hc; cases hc; rw [hty]; exact fun q => by cases q)) h)
theorem nz_putl {idx k ci j : Nat} {a : Int} (hd : decode M.2.1 pc = .ok (.putfield idx, 3)) (hg : g_Pf M.1.cls idx ci j) (hty : g_fty ci j = .long) (hk : k < 42) (hs : g_sh k = .inr ci) (hp : pc + 3 = pc') (h : Cn G M pc' L S (zu Z k j a) Q) : Cn G M pc L (il a :: .ref k :: S) Z Q :=
  cz_putl hd hg hty hk hs hp (cz_eqv (σ' := g_N (zu Z k j a)) rfl (fun b => g_en_zl b hs hty) h)
theorem nz_iald {k n : Nat} {a : Int} (j : Nat) (hd : decode M.2.1 pc = .ok (.iaload, 1)) (hk : k < 42) (hs : g_sh k = .inl (0, n)) (hn2 : n ≤ 1000) (hj : a = (j : Int)) (hn : j < n) (hp : pc + 1 = pc') (h : Cn G M pc' L (iv (Z k j) :: S) Z Q) : Cn G M pc L (iv a :: .ref k :: S) Z Q := cz_iald hd hk hs (by rw [t32 (by omega)]; exact hj) hn hp h
theorem nz_bald {k n : Nat} {a : Int} (j : Nat) (hd : decode M.2.1 pc = .ok (.baload, 1)) (hk : k < 42) (hs : g_sh k = .inl (1, n)) (hn2 : n ≤ 1000) (hj : a = (j : Int)) (hn : j < n) (hp : pc + 1 = pc') (h : Cn G M pc' L (iv (Z k j) :: S) Z Q) : Cn G M pc L (iv a :: .ref k :: S) Z Q := cz_bald hd hk hs (by rw [t32 (by omega)]; exact hj) hn hp h
theorem nz_zald {k n : Nat} {a : Int} (j : Nat) (hd : decode M.2.1 pc = .ok (.baload, 1)) (hk : k < 42) (hs : g_sh k = .inl (2, n)) (hn2 : n ≤ 1000) (hj : a = (j : Int)) (hn : j < n) (hp : pc + 1 = pc') (h : Cn G M pc' L (iv (Z k j) :: S) Z Q) : Cn G M pc L (iv a :: .ref k :: S) Z Q := cz_zald hd hk hs (by rw [t32 (by omega)]; exact hj) hn hp h
theorem nz_alen {k n t : Nat} {v : Int} (hd : decode M.2.1 pc = .ok (.arraylength, 1)) (hk : k < 42) (hs : g_sh k = .inl (t, n)) (ht : t < 3) (hv : (n : Int) = v) (hp : pc + 1 = pc') (h : Cn G M pc' L (iv v :: S) Z Q) : Cn G M pc L (.ref k :: S) Z Q := cz_alen hd hk hs ht (by rw [← hv]; rfl) hp h
theorem g_nl {k t n : Nat} (hs : g_sh k = .inl (t, n)) : ∀ (j : Nat) (c : Nat), g_sh k = .inr c → g_fty c j ≠ .long := fun j c hc => by rw [hs] at hc; cases hc
theorem nz_iast {k n : Nat} {a v : Int} (j : Nat) (hd : decode M.2.1 pc = .ok (.iastore, 1)) (hk : k < 42) (hs : g_sh k = .inl (0, n)) (hn2 : n ≤ 1000) (hj : a = (j : Int)) (hn : j < n) (hp : pc + 1 = pc') (h : Cn G M pc' L S (zu Z k j v) Q) : Cn G M pc L (iv v :: iv a :: .ref k :: S) Z Q := cz_iast hd hk hs (by rw [t32 (by omega)]; exact hj) hn hp (cz_eqv (σ' := g_N (zu Z k j v)) rfl (fun b => g_en_zu b _ rfl (g_nl hs j)) h)
theorem nz_bast {k n : Nat} {a v : Int} (j : Nat) (hd : decode M.2.1 pc = .ok (.bastore, 1)) (hk : k < 42) (hs : g_sh k = .inl (1, n)) (hn2 : n ≤ 1000) (hj : a = (j : Int)) (hn : j < n) (hv : narrow .byte (iv v) = iv v) (hp : pc + 1 = pc') (h : Cn G M pc' L S (zu Z k j v) Q) : Cn G M pc L (iv v :: iv a :: .ref k :: S) Z Q := cz_bast hd hk hs (by rw [t32 (by omega)]; exact hj) hn hv hp (cz_eqv (σ' := g_N (zu Z k j v)) rfl (fun b => g_en_zu b _ rfl (g_nl hs j)) h)
theorem nz_zast {k n : Nat} {a v : Int} (j : Nat) (hd : decode M.2.1 pc = .ok (.bastore, 1)) (hk : k < 42) (hs : g_sh k = .inl (2, n)) (hn2 : n ≤ 1000) (hj : a = (j : Int)) (hn : j < n) (hv : narrow .boolean (iv v) = iv v) (hp : pc + 1 = pc') (h : Cn G M pc' L S (zu Z k j v) Q) : Cn G M pc L (iv v :: iv a :: .ref k :: S) Z Q := cz_zast hd hk hs (by rw [t32 (by omega)]; exact hj) hn hv hp (cz_eqv (σ' := g_N (zu Z k j v)) rfl (fun b => g_en_zu b _ rfl (g_nl hs j)) h)
/-- a part of a row over a part of a row -/
def zcp (f g : Nat → Int) (a b n : Nat) : Nat → Int := fun k => if b ≤ k ∧ k < b + n then f (a + (k - b)) else g k
theorem nz_acopy {idx k0 k1 m0 m1 : Nat} {x y z : Int} (a b n : Nat) (hd : decode M.2.1 pc = .ok (.invokestatic idx, 3)) (hw : Cond.methodLink M.1.cls idx arraycopyName ∈ gw) (hk0 : k0 < 42) (hk1 : k1 < 42) (hs0 : g_sh k0 = .inl (0, m0)) (hs1 : g_sh k1 = .inl (0, m1)) (hm : m0 ≤ 1000 ∧ m1 ≤ 1000) (hx : x = (a : Int)) (hy : y = (b : Int)) (hz : z = (n : Int)) (h0 : a + n ≤ m0) (h1 : b + n ≤ m1) (hf : 1 ≤ M.2.2.2.2.1) (hl : (S.map fun v => v.category).sum + 18 ≤ M.2.2.2.2.2) (hp : pc + 3 = pc') (h : Cn G M pc' L S (zr Z k1 (zcp (Z k0) (Z k1) a b n)) Q) : Cn G M pc L (iv z :: iv y :: .ref k1 :: iv x :: .ref k0 :: S) Z Q :=
  cz_acopy hd hw g_ac hk0 hk1 hs0 hs1 (by rw [t32 (by omega)]; exact hx) (by rw [t32 (by omega)]; exact hy) (by rw [t32 (by omega)]; exact hz) h0 h1 rfl hf hl hp (cz_eqv (σ' := g_N (zr Z k1 (zcp (Z k0) (Z k1) a b n))) rfl (fun q => g_en_zr q _ (by funext i; simp only [va_cpy, zcp, g_N]; split <;> rfl) hs1) h)
theorem nz_callS {As S0 : List Value} {n : Nat} {ins : Instr} (hd : decode M.2.1 pc = .ok (ins, 3)) (hL : g_LkS M.1.cls ins n M') (hok : g_ok M') (hn : As.length = n) (hst : As.reverse ++ S = S0) (hlen : (lg_sl As).length ≤ M'.2.2.1) (hcat : (S.map fun v => v.category).sum ≤ 8) (hrm : M'.2.2.2.2.1 + 1 ≤ M.2.2.2.2.1 ∧ 8 + (M'.2.2.1 + 11) + M'.2.2.2.2.2 ≤ M.2.2.2.2.2) (hp : pc + 3 = pc') (hM : Cn G M' 0 (g_ent M'.2.2.1 As) [] Z Q') (h : ∀ v W, Q' v W → Cn G M pc' L (v.toList ++ S) W Q) : Cn G M pc L S0 Z Q := by
  refine cz_callS (nE' := 42) hd hL hok hn hst hlen hcat hrm ⟨Nat.le_refl _, Nat.le_refl _⟩ hp hM (fun v τ hq _ => ?_)
  obtain ⟨W, rfl, hq⟩ := hq
  exact h v W hq
theorem nz_callV {As S0 : List Value} {n k : Nat} {C : String} {ins : Instr} (hd : decode M.2.1 pc = .ok (ins, 3)) (hL : g_LkV M.1.cls ins C n M') (hok : g_ok M') (hrc : g_rc G (g_N Z) k C) (hn : As.length = n) (hst : As.reverse ++ .ref k :: S = S0) (hlen : (lg_sl (.ref k :: As)).length ≤ M'.2.2.1) (hcat : (S.map fun v => v.category).sum ≤ 8) (hrm : M'.2.2.2.2.1 + 1 ≤ M.2.2.2.2.1 ∧ 8 + (M'.2.2.1 + 11) + M'.2.2.2.2.2 ≤ M.2.2.2.2.2) (hp : pc + 3 = pc') (hM : Cn G M' 0 (g_ent M'.2.2.1 (.ref k :: As)) [] Z Q') (h : ∀ v W, Q' v W → Cn G M pc' L (v.toList ++ S) W Q) : Cn G M pc L S0 Z Q := by
  refine cz_callV (nE' := 42) hd hL hok hrc hn hst hlen hcat hrm ⟨Nat.le_refl _, Nat.le_refl _⟩ hp hM (fun v τ hq _ => ?_)
  obtain ⟨W, rfl, hq⟩ := hq
  exact h v W hq
end
theorem g_d {t : List (Nat × Instr × Nat)} {b : ByteArray} (h : ∀ q ∈ t, decode b q.1 = .ok q.2) (k : Nat) {pc : Nat} {i : Instr} {n : Nat} (hk : t[k]? = some (pc, i, n)) : decode b pc = .ok (i, n) := h (pc, i, n) (List.mem_of_getElem? hk)
theorem kn_X10_142 : Cond.constant RX10 142 (Int32.ofInt (-100000)) ∈ gw := gw_in 555 (by decide +kernel) (by decide +kernel)
theorem kn_X10_206 : Cond.constant RX10 206 (Int32.ofInt (999999)) ∈ gw := gw_in 716 (by decide +kernel) (by decide +kernel)
theorem kn_X10_207 : Cond.constantLong RX10 207 (Int64.ofInt (1103515245)) ∈ gw := gw_in 717 (by decide +kernel) (by decide +kernel)
theorem kn_X10_209 : Cond.constantLong RX10 209 (Int64.ofInt (12345)) ∈ gw := gw_in 718 (by decide +kernel) (by decide +kernel)
theorem kn_X10_211 : Cond.constantLong RX10 211 (Int64.ofInt (2147483648)) ∈ gw := gw_in 719 (by decide +kernel) (by decide +kernel)
theorem kn_X10_213 : Cond.constantLong RX10 213 (Int64.ofInt (65536)) ∈ gw := gw_in 720 (by decide +kernel) (by decide +kernel)
theorem kn_X10_215 : Cond.constantLong RX10 215 (Int64.ofInt (31)) ∈ gw := gw_in 721 (by decide +kernel) (by decide +kernel)
theorem kn_X10_236 : Cond.constantLong RX10 236 (Int64.ofInt (1373)) ∈ gw := gw_in 754 (by decide +kernel) (by decide +kernel)
theorem kn_X11_78 : Cond.constantLong RX11 78 (Int64.ofInt (256)) ∈ gw := gw_in 862 (by decide +kernel) (by decide +kernel)
theorem kn_X11_80 : Cond.constantLong RX11 80 (Int64.ofInt (-1)) ∈ gw := gw_in 863 (by decide +kernel) (by decide +kernel)
theorem kn_X11_92 : Cond.constantLong RX11 92 (Int64.ofInt (27412351463812724)) ∈ gw := gw_in 868 (by decide +kernel) (by decide +kernel)
theorem kn_X11_97 : Cond.constantLong RX11 97 (Int64.ofInt (1651076204)) ∈ gw := gw_in 877 (by decide +kernel) (by decide +kernel)
theorem kn_X11_103 : Cond.constantLong RX11 103 (Int64.ofInt (495806934628)) ∈ gw := gw_in 882 (by decide +kernel) (by decide +kernel)
theorem kn_X11_105 : Cond.constantLong RX11 105 (Int64.ofInt (6971762)) ∈ gw := gw_in 883 (by decide +kernel) (by decide +kernel)
theorem kn_X11_146 : Cond.constant RX11 146 (Int32.ofInt (-100000)) ∈ gw := gw_in 939 (by decide +kernel) (by decide +kernel)
theorem kn_X11_169 : Cond.constantLong RX11 169 (Int64.ofInt (10)) ∈ gw := gw_in 1028 (by decide +kernel) (by decide +kernel)
theorem kn_X11_174 : Cond.constant RX11 174 (Int32.ofInt (999999)) ∈ gw := gw_in 1033 (by decide +kernel) (by decide +kernel)
theorem kn_X11_175 : Cond.constantLong RX11 175 (Int64.ofInt (1103515245)) ∈ gw := gw_in 1034 (by decide +kernel) (by decide +kernel)
theorem kn_X11_177 : Cond.constantLong RX11 177 (Int64.ofInt (12345)) ∈ gw := gw_in 1035 (by decide +kernel) (by decide +kernel)
theorem kn_X11_179 : Cond.constantLong RX11 179 (Int64.ofInt (2147483648)) ∈ gw := gw_in 1036 (by decide +kernel) (by decide +kernel)
theorem kn_X11_181 : Cond.constantLong RX11 181 (Int64.ofInt (65536)) ∈ gw := gw_in 1037 (by decide +kernel) (by decide +kernel)
theorem kn_X11_183 : Cond.constantLong RX11 183 (Int64.ofInt (31)) ∈ gw := gw_in 1038 (by decide +kernel) (by decide +kernel)
theorem kn_X11_188 : Cond.constantLong RX11 188 (Int64.ofInt (1373)) ∈ gw := gw_in 1067 (by decide +kernel) (by decide +kernel)
end
section
/-! forms of ends, calls by what they answer, branches that are decided -/
def qi (P : Int → ZS → Prop) : Option Value → ZS → Prop := fun v W => ∃ r, v = some (iv r) ∧ P r W
def ql (P : Int → ZS → Prop) : Option Value → ZS → Prop := fun v W => ∃ r, v = some (il r) ∧ P r W
def qr (P : Nat → ZS → Prop) : Option Value → ZS → Prop := fun v W => ∃ r, v = some (.ref r) ∧ P r W
def qv (P : ZS → Prop) : Option Value → ZS → Prop := fun v W => v = none ∧ P W
section
variable {G : Wd} {M M' : MD} {pc pc' : Nat} {L L' : List (Option Value)} {S : List Value} {Z : ZS} {Q : Option Value → ZS → Prop}
theorem nz_ri {P : Int → ZS → Prop} {a : Int} (ty : FieldType) (hd : decode M.2.1 pc = .ok (.ireturn, 1)) (hr : M.2.2.2.1 = some ty) (hx : narrow ty (iv a) = iv a) (hq : P a Z) : Cn G M pc L [iv a] Z (qi P) := nz_iret hd hr hx ⟨a, rfl, hq⟩
theorem nz_rl {P : Int → ZS → Prop} {a : Int} (hd : decode M.2.1 pc = .ok (.lreturn, 1)) (hr : M.2.2.2.1 = some .long) (hq : P a Z) : Cn G M pc L [il a] Z (ql P) := nz_lret hd hr ⟨a, rfl, hq⟩
theorem nz_rr {P : Nat → ZS → Prop} {a : Nat} {n : String} (hd : decode M.2.1 pc = .ok (.areturn, 1)) (hr : M.2.2.2.1 = some (.object n)) (hq : P a Z) : Cn G M pc L [.ref a] Z (qr P) := nz_aret hd hr ⟨a, rfl, hq⟩
theorem nz_rv {P : ZS → Prop} (hd : decode M.2.1 pc = .ok (.return_, 1)) (hr : M.2.2.2.1 = none) (hq : P Z) : Cn G M pc L [] Z (qv P) := nz_vret hd hr ⟨rfl, hq⟩
theorem nz_wi {P P' : Int → ZS → Prop} (h : Cn G M pc L S Z (qi P')) (hq : ∀ r W, P' r W → P r W) : Cn G M pc L S Z (qi P) := nz_mono h (fun _ W ⟨r, e, q⟩ => ⟨r, e, hq r W q⟩)
theorem nz_wl {P P' : Int → ZS → Prop} (h : Cn G M pc L S Z (ql P')) (hq : ∀ r W, P' r W → P r W) : Cn G M pc L S Z (ql P) := nz_mono h (fun _ W ⟨r, e, q⟩ => ⟨r, e, hq r W q⟩)
theorem nz_wv {P P' : ZS → Prop} (h : Cn G M pc L S Z (qv P')) (hq : ∀ W, P' W → P W) : Cn G M pc L S Z (qv P) := nz_mono h (fun _ W ⟨e, q⟩ => ⟨e, hq W q⟩)
theorem nz_cSi {P : Int → ZS → Prop} {As S0 : List Value} {n : Nat} {ins : Instr} (hd : decode M.2.1 pc = .ok (ins, 3)) (hL : g_LkS M.1.cls ins n M') (hok : g_ok M') (hn : As.length = n) (hst : As.reverse ++ S = S0) (hlen : (lg_sl As).length ≤ M'.2.2.1) (hcat : (S.map fun v => v.category).sum ≤ 8) (hrm : M'.2.2.2.2.1 + 1 ≤ M.2.2.2.2.1 ∧ 8 + (M'.2.2.1 + 11) + M'.2.2.2.2.2 ≤ M.2.2.2.2.2) (hp : pc + 3 = pc') (hM : Cn G M' 0 (g_ent M'.2.2.1 As) [] Z (qi P)) (h : ∀ r W, P r W → Cn G M pc' L (iv r :: S) W Q) : Cn G M pc L S0 Z Q :=
  nz_callS hd hL hok hn hst hlen hcat hrm hp hM (fun v W hq => by obtain ⟨r, rfl, q⟩ := hq; exact h r W q)
theorem nz_cVi {P : Int → ZS → Prop} {As S0 : List Value} {n k ci N : Nat} {C : String} {T : u_T} {ins : Instr} (hd : decode M.2.1 pc = .ok (ins, 3)) (hL : g_LkV M.1.cls ins C n M') (hok : g_ok M') (hk : k < 42) (hs : g_sh k = .inr ci) (hc : classes[ci]? = some (C, T, N)) (hn : As.length = n) (hst : As.reverse ++ .ref k :: S = S0) (hlen : (lg_sl (.ref k :: As)).length ≤ M'.2.2.1) (hcat : (S.map fun v => v.category).sum ≤ 8) (hrm : M'.2.2.2.2.1 + 1 ≤ M.2.2.2.2.1 ∧ 8 + (M'.2.2.1 + 11) + M'.2.2.2.2.2 ≤ M.2.2.2.2.2) (hp : pc + 3 = pc') (hM : Cn G M' 0 (g_ent M'.2.2.1 (.ref k :: As)) [] Z (qi P)) (h : ∀ r W, P r W → Cn G M pc' L (iv r :: S) W Q) : Cn G M pc L S0 Z Q :=
  nz_callV hd hL hok (g_rc_own hk hs hc) hn hst hlen hcat hrm hp hM (fun v W hq => by obtain ⟨r, rfl, q⟩ := hq; exact h r W q)
theorem nz_cSl {P : Int → ZS → Prop} {As S0 : List Value} {n : Nat} {ins : Instr} (hd : decode M.2.1 pc = .ok (ins, 3)) (hL : g_LkS M.1.cls ins n M') (hok : g_ok M') (hn : As.length = n) (hst : As.reverse ++ S = S0) (hlen : (lg_sl As).length ≤ M'.2.2.1) (hcat : (S.map fun v => v.category).sum ≤ 8) (hrm : M'.2.2.2.2.1 + 1 ≤ M.2.2.2.2.1 ∧ 8 + (M'.2.2.1 + 11) + M'.2.2.2.2.2 ≤ M.2.2.2.2.2) (hp : pc + 3 = pc') (hM : Cn G M' 0 (g_ent M'.2.2.1 As) [] Z (ql P)) (h : ∀ r W, P r W → Cn G M pc' L (il r :: S) W Q) : Cn G M pc L S0 Z Q :=
  nz_callS hd hL hok hn hst hlen hcat hrm hp hM (fun v W hq => by obtain ⟨r, rfl, q⟩ := hq; exact h r W q)
theorem nz_cVl {P : Int → ZS → Prop} {As S0 : List Value} {n k ci N : Nat} {C : String} {T : u_T} {ins : Instr} (hd : decode M.2.1 pc = .ok (ins, 3)) (hL : g_LkV M.1.cls ins C n M') (hok : g_ok M') (hk : k < 42) (hs : g_sh k = .inr ci) (hc : classes[ci]? = some (C, T, N)) (hn : As.length = n) (hst : As.reverse ++ .ref k :: S = S0) (hlen : (lg_sl (.ref k :: As)).length ≤ M'.2.2.1) (hcat : (S.map fun v => v.category).sum ≤ 8) (hrm : M'.2.2.2.2.1 + 1 ≤ M.2.2.2.2.1 ∧ 8 + (M'.2.2.1 + 11) + M'.2.2.2.2.2 ≤ M.2.2.2.2.2) (hp : pc + 3 = pc') (hM : Cn G M' 0 (g_ent M'.2.2.1 (.ref k :: As)) [] Z (ql P)) (h : ∀ r W, P r W → Cn G M pc' L (il r :: S) W Q) : Cn G M pc L S0 Z Q :=
  nz_callV hd hL hok (g_rc_own hk hs hc) hn hst hlen hcat hrm hp hM (fun v W hq => by obtain ⟨r, rfl, q⟩ := hq; exact h r W q)
theorem nz_cSr {P : Nat → ZS → Prop} {As S0 : List Value} {n : Nat} {ins : Instr} (hd : decode M.2.1 pc = .ok (ins, 3)) (hL : g_LkS M.1.cls ins n M') (hok : g_ok M') (hn : As.length = n) (hst : As.reverse ++ S = S0) (hlen : (lg_sl As).length ≤ M'.2.2.1) (hcat : (S.map fun v => v.category).sum ≤ 8) (hrm : M'.2.2.2.2.1 + 1 ≤ M.2.2.2.2.1 ∧ 8 + (M'.2.2.1 + 11) + M'.2.2.2.2.2 ≤ M.2.2.2.2.2) (hp : pc + 3 = pc') (hM : Cn G M' 0 (g_ent M'.2.2.1 As) [] Z (qr P)) (h : ∀ r W, P r W → Cn G M pc' L (.ref r :: S) W Q) : Cn G M pc L S0 Z Q :=
  nz_callS hd hL hok hn hst hlen hcat hrm hp hM (fun v W hq => by obtain ⟨r, rfl, q⟩ := hq; exact h r W q)
theorem nz_cVr {P : Nat → ZS → Prop} {As S0 : List Value} {n k ci N : Nat} {C : String} {T : u_T} {ins : Instr} (hd : decode M.2.1 pc = .ok (ins, 3)) (hL : g_LkV M.1.cls ins C n M') (hok : g_ok M') (hk : k < 42) (hs : g_sh k = .inr ci) (hc : classes[ci]? = some (C, T, N)) (hn : As.length = n) (hst : As.reverse ++ .ref k :: S = S0) (hlen : (lg_sl (.ref k :: As)).length ≤ M'.2.2.1) (hcat : (S.map fun v => v.category).sum ≤ 8) (hrm : M'.2.2.2.2.1 + 1 ≤ M.2.2.2.2.1 ∧ 8 + (M'.2.2.1 + 11) + M'.2.2.2.2.2 ≤ M.2.2.2.2.2) (hp : pc + 3 = pc') (hM : Cn G M' 0 (g_ent M'.2.2.1 (.ref k :: As)) [] Z (qr P)) (h : ∀ r W, P r W → Cn G M pc' L (.ref r :: S) W Q) : Cn G M pc L S0 Z Q :=
  nz_callV hd hL hok (g_rc_own hk hs hc) hn hst hlen hcat hrm hp hM (fun v W hq => by obtain ⟨r, rfl, q⟩ := hq; exact h r W q)
theorem nz_cSv {P : ZS → Prop} {As S0 : List Value} {n : Nat} {ins : Instr} (hd : decode M.2.1 pc = .ok (ins, 3)) (hL : g_LkS M.1.cls ins n M') (hok : g_ok M') (hn : As.length = n) (hst : As.reverse ++ S = S0) (hlen : (lg_sl As).length ≤ M'.2.2.1) (hcat : (S.map fun v => v.category).sum ≤ 8) (hrm : M'.2.2.2.2.1 + 1 ≤ M.2.2.2.2.1 ∧ 8 + (M'.2.2.1 + 11) + M'.2.2.2.2.2 ≤ M.2.2.2.2.2) (hp : pc + 3 = pc') (hM : Cn G M' 0 (g_ent M'.2.2.1 As) [] Z (qv P)) (h : ∀  W, P  W → Cn G M pc' L (S) W Q) : Cn G M pc L S0 Z Q :=
  nz_callS hd hL hok hn hst hlen hcat hrm hp hM (fun v W hq => by obtain ⟨rfl, q⟩ := hq; exact h  W q)
theorem nz_cVv {P : ZS → Prop} {As S0 : List Value} {n k ci N : Nat} {C : String} {T : u_T} {ins : Instr} (hd : decode M.2.1 pc = .ok (ins, 3)) (hL : g_LkV M.1.cls ins C n M') (hok : g_ok M') (hk : k < 42) (hs : g_sh k = .inr ci) (hc : classes[ci]? = some (C, T, N)) (hn : As.length = n) (hst : As.reverse ++ .ref k :: S = S0) (hlen : (lg_sl (.ref k :: As)).length ≤ M'.2.2.1) (hcat : (S.map fun v => v.category).sum ≤ 8) (hrm : M'.2.2.2.2.1 + 1 ≤ M.2.2.2.2.1 ∧ 8 + (M'.2.2.1 + 11) + M'.2.2.2.2.2 ≤ M.2.2.2.2.2) (hp : pc + 3 = pc') (hM : Cn G M' 0 (g_ent M'.2.2.1 (.ref k :: As)) [] Z (qv P)) (h : ∀  W, P  W → Cn G M pc' L (S) W Q) : Cn G M pc L S0 Z Q :=
  nz_callV hd hL hok (g_rc_own hk hs hc) hn hst hlen hcat hrm hp hM (fun v W hq => by obtain ⟨rfl, q⟩ := hq; exact h  W q)
theorem nz_if_eq_t {a off : Int} {tgt : Nat} (hd : decode M.2.1 pc = .ok (.ifCond .eq off, 3)) (ha : -2147483648 ≤ a ∧ a ≤ 2147483647)  (ht : (pc : Int) + off = (tgt : Int)) (hc : a = 0) (h : Cn G M tgt L S Z Q) : Cn G M pc L (iv a :: S) Z Q := nz_if_eq hd ha  ht rfl (fun _ => h) (fun q => absurd hc (by omega))
theorem nz_if_eq_f {a off : Int} (hd : decode M.2.1 pc = .ok (.ifCond .eq off, 3)) (ha : -2147483648 ≤ a ∧ a ≤ 2147483647)  (ht : 0 ≤ (pc : Int) + off) (hp : pc + 3 = pc') (hc : a ≠ 0) (h : Cn G M pc' L S Z Q) : Cn G M pc L (iv a :: S) Z Q := nz_if_eq (tgt := ((pc : Int) + off).toNat) hd ha  (by omega) hp (fun q => absurd hc (by omega)) (fun _ => h)
theorem nz_icmp_eq_t {a b off : Int} {tgt : Nat} (hd : decode M.2.1 pc = .ok (.if_icmp .eq off, 3)) (ha : -2147483648 ≤ a ∧ a ≤ 2147483647) (hb : -2147483648 ≤ b ∧ b ≤ 2147483647) (ht : (pc : Int) + off = (tgt : Int)) (hc : a = b) (h : Cn G M tgt L S Z Q) : Cn G M pc L (iv b :: iv a :: S) Z Q := nz_icmp_eq hd ha hb ht rfl (fun _ => h) (fun q => absurd hc (by omega))
theorem nz_icmp_eq_f {a b off : Int} (hd : decode M.2.1 pc = .ok (.if_icmp .eq off, 3)) (ha : -2147483648 ≤ a ∧ a ≤ 2147483647) (hb : -2147483648 ≤ b ∧ b ≤ 2147483647) (ht : 0 ≤ (pc : Int) + off) (hp : pc + 3 = pc') (hc : a ≠ b) (h : Cn G M pc' L S Z Q) : Cn G M pc L (iv b :: iv a :: S) Z Q := nz_icmp_eq (tgt := ((pc : Int) + off).toNat) hd ha hb (by omega) hp (fun q => absurd hc (by omega)) (fun _ => h)
theorem nz_if_ne_t {a off : Int} {tgt : Nat} (hd : decode M.2.1 pc = .ok (.ifCond .ne off, 3)) (ha : -2147483648 ≤ a ∧ a ≤ 2147483647)  (ht : (pc : Int) + off = (tgt : Int)) (hc : a ≠ 0) (h : Cn G M tgt L S Z Q) : Cn G M pc L (iv a :: S) Z Q := nz_if_ne hd ha  ht rfl (fun _ => h) (fun q => absurd hc (by omega))
theorem nz_if_ne_f {a off : Int} (hd : decode M.2.1 pc = .ok (.ifCond .ne off, 3)) (ha : -2147483648 ≤ a ∧ a ≤ 2147483647)  (ht : 0 ≤ (pc : Int) + off) (hp : pc + 3 = pc') (hc : a = 0) (h : Cn G M pc' L S Z Q) : Cn G M pc L (iv a :: S) Z Q := nz_if_ne (tgt := ((pc : Int) + off).toNat) hd ha  (by omega) hp (fun q => absurd hc (by omega)) (fun _ => h)
theorem nz_icmp_ne_t {a b off : Int} {tgt : Nat} (hd : decode M.2.1 pc = .ok (.if_icmp .ne off, 3)) (ha : -2147483648 ≤ a ∧ a ≤ 2147483647) (hb : -2147483648 ≤ b ∧ b ≤ 2147483647) (ht : (pc : Int) + off = (tgt : Int)) (hc : a ≠ b) (h : Cn G M tgt L S Z Q) : Cn G M pc L (iv b :: iv a :: S) Z Q := nz_icmp_ne hd ha hb ht rfl (fun _ => h) (fun q => absurd hc (by omega))
theorem nz_icmp_ne_f {a b off : Int} (hd : decode M.2.1 pc = .ok (.if_icmp .ne off, 3)) (ha : -2147483648 ≤ a ∧ a ≤ 2147483647) (hb : -2147483648 ≤ b ∧ b ≤ 2147483647) (ht : 0 ≤ (pc : Int) + off) (hp : pc + 3 = pc') (hc : a = b) (h : Cn G M pc' L S Z Q) : Cn G M pc L (iv b :: iv a :: S) Z Q := nz_icmp_ne (tgt := ((pc : Int) + off).toNat) hd ha hb (by omega) hp (fun q => absurd hc (by omega)) (fun _ => h)
theorem nz_if_lt_t {a off : Int} {tgt : Nat} (hd : decode M.2.1 pc = .ok (.ifCond .lt off, 3)) (ha : -2147483648 ≤ a ∧ a ≤ 2147483647)  (ht : (pc : Int) + off = (tgt : Int)) (hc : a < 0) (h : Cn G M tgt L S Z Q) : Cn G M pc L (iv a :: S) Z Q := nz_if_lt hd ha  ht rfl (fun _ => h) (fun q => absurd hc (by omega))
theorem nz_if_lt_f {a off : Int} (hd : decode M.2.1 pc = .ok (.ifCond .lt off, 3)) (ha : -2147483648 ≤ a ∧ a ≤ 2147483647)  (ht : 0 ≤ (pc : Int) + off) (hp : pc + 3 = pc') (hc : 0 ≤ a) (h : Cn G M pc' L S Z Q) : Cn G M pc L (iv a :: S) Z Q := nz_if_lt (tgt := ((pc : Int) + off).toNat) hd ha  (by omega) hp (fun q => absurd hc (by omega)) (fun _ => h)
theorem nz_icmp_lt_t {a b off : Int} {tgt : Nat} (hd : decode M.2.1 pc = .ok (.if_icmp .lt off, 3)) (ha : -2147483648 ≤ a ∧ a ≤ 2147483647) (hb : -2147483648 ≤ b ∧ b ≤ 2147483647) (ht : (pc : Int) + off = (tgt : Int)) (hc : a < b) (h : Cn G M tgt L S Z Q) : Cn G M pc L (iv b :: iv a :: S) Z Q := nz_icmp_lt hd ha hb ht rfl (fun _ => h) (fun q => absurd hc (by omega))
theorem nz_icmp_lt_f {a b off : Int} (hd : decode M.2.1 pc = .ok (.if_icmp .lt off, 3)) (ha : -2147483648 ≤ a ∧ a ≤ 2147483647) (hb : -2147483648 ≤ b ∧ b ≤ 2147483647) (ht : 0 ≤ (pc : Int) + off) (hp : pc + 3 = pc') (hc : b ≤ a) (h : Cn G M pc' L S Z Q) : Cn G M pc L (iv b :: iv a :: S) Z Q := nz_icmp_lt (tgt := ((pc : Int) + off).toNat) hd ha hb (by omega) hp (fun q => absurd hc (by omega)) (fun _ => h)
theorem nz_if_ge_t {a off : Int} {tgt : Nat} (hd : decode M.2.1 pc = .ok (.ifCond .ge off, 3)) (ha : -2147483648 ≤ a ∧ a ≤ 2147483647)  (ht : (pc : Int) + off = (tgt : Int)) (hc : 0 ≤ a) (h : Cn G M tgt L S Z Q) : Cn G M pc L (iv a :: S) Z Q := nz_if_ge hd ha  ht rfl (fun _ => h) (fun q => absurd hc (by omega))
theorem nz_if_ge_f {a off : Int} (hd : decode M.2.1 pc = .ok (.ifCond .ge off, 3)) (ha : -2147483648 ≤ a ∧ a ≤ 2147483647)  (ht : 0 ≤ (pc : Int) + off) (hp : pc + 3 = pc') (hc : a < 0) (h : Cn G M pc' L S Z Q) : Cn G M pc L (iv a :: S) Z Q := nz_if_ge (tgt := ((pc : Int) + off).toNat) hd ha  (by omega) hp (fun q => absurd hc (by omega)) (fun _ => h)
theorem nz_icmp_ge_t {a b off : Int} {tgt : Nat} (hd : decode M.2.1 pc = .ok (.if_icmp .ge off, 3)) (ha : -2147483648 ≤ a ∧ a ≤ 2147483647) (hb : -2147483648 ≤ b ∧ b ≤ 2147483647) (ht : (pc : Int) + off = (tgt : Int)) (hc : b ≤ a) (h : Cn G M tgt L S Z Q) : Cn G M pc L (iv b :: iv a :: S) Z Q := nz_icmp_ge hd ha hb ht rfl (fun _ => h) (fun q => absurd hc (by omega))
theorem nz_icmp_ge_f {a b off : Int} (hd : decode M.2.1 pc = .ok (.if_icmp .ge off, 3)) (ha : -2147483648 ≤ a ∧ a ≤ 2147483647) (hb : -2147483648 ≤ b ∧ b ≤ 2147483647) (ht : 0 ≤ (pc : Int) + off) (hp : pc + 3 = pc') (hc : a < b) (h : Cn G M pc' L S Z Q) : Cn G M pc L (iv b :: iv a :: S) Z Q := nz_icmp_ge (tgt := ((pc : Int) + off).toNat) hd ha hb (by omega) hp (fun q => absurd hc (by omega)) (fun _ => h)
theorem nz_if_gt_t {a off : Int} {tgt : Nat} (hd : decode M.2.1 pc = .ok (.ifCond .gt off, 3)) (ha : -2147483648 ≤ a ∧ a ≤ 2147483647)  (ht : (pc : Int) + off = (tgt : Int)) (hc : 0 < a) (h : Cn G M tgt L S Z Q) : Cn G M pc L (iv a :: S) Z Q := nz_if_gt hd ha  ht rfl (fun _ => h) (fun q => absurd hc (by omega))
theorem nz_if_gt_f {a off : Int} (hd : decode M.2.1 pc = .ok (.ifCond .gt off, 3)) (ha : -2147483648 ≤ a ∧ a ≤ 2147483647)  (ht : 0 ≤ (pc : Int) + off) (hp : pc + 3 = pc') (hc : a ≤ 0) (h : Cn G M pc' L S Z Q) : Cn G M pc L (iv a :: S) Z Q := nz_if_gt (tgt := ((pc : Int) + off).toNat) hd ha  (by omega) hp (fun q => absurd hc (by omega)) (fun _ => h)
theorem nz_icmp_gt_t {a b off : Int} {tgt : Nat} (hd : decode M.2.1 pc = .ok (.if_icmp .gt off, 3)) (ha : -2147483648 ≤ a ∧ a ≤ 2147483647) (hb : -2147483648 ≤ b ∧ b ≤ 2147483647) (ht : (pc : Int) + off = (tgt : Int)) (hc : b < a) (h : Cn G M tgt L S Z Q) : Cn G M pc L (iv b :: iv a :: S) Z Q := nz_icmp_gt hd ha hb ht rfl (fun _ => h) (fun q => absurd hc (by omega))
theorem nz_icmp_gt_f {a b off : Int} (hd : decode M.2.1 pc = .ok (.if_icmp .gt off, 3)) (ha : -2147483648 ≤ a ∧ a ≤ 2147483647) (hb : -2147483648 ≤ b ∧ b ≤ 2147483647) (ht : 0 ≤ (pc : Int) + off) (hp : pc + 3 = pc') (hc : a ≤ b) (h : Cn G M pc' L S Z Q) : Cn G M pc L (iv b :: iv a :: S) Z Q := nz_icmp_gt (tgt := ((pc : Int) + off).toNat) hd ha hb (by omega) hp (fun q => absurd hc (by omega)) (fun _ => h)
theorem nz_if_le_t {a off : Int} {tgt : Nat} (hd : decode M.2.1 pc = .ok (.ifCond .le off, 3)) (ha : -2147483648 ≤ a ∧ a ≤ 2147483647)  (ht : (pc : Int) + off = (tgt : Int)) (hc : a ≤ 0) (h : Cn G M tgt L S Z Q) : Cn G M pc L (iv a :: S) Z Q := nz_if_le hd ha  ht rfl (fun _ => h) (fun q => absurd hc (by omega))
theorem nz_if_le_f {a off : Int} (hd : decode M.2.1 pc = .ok (.ifCond .le off, 3)) (ha : -2147483648 ≤ a ∧ a ≤ 2147483647)  (ht : 0 ≤ (pc : Int) + off) (hp : pc + 3 = pc') (hc : 0 < a) (h : Cn G M pc' L S Z Q) : Cn G M pc L (iv a :: S) Z Q := nz_if_le (tgt := ((pc : Int) + off).toNat) hd ha  (by omega) hp (fun q => absurd hc (by omega)) (fun _ => h)
theorem nz_icmp_le_t {a b off : Int} {tgt : Nat} (hd : decode M.2.1 pc = .ok (.if_icmp .le off, 3)) (ha : -2147483648 ≤ a ∧ a ≤ 2147483647) (hb : -2147483648 ≤ b ∧ b ≤ 2147483647) (ht : (pc : Int) + off = (tgt : Int)) (hc : a ≤ b) (h : Cn G M tgt L S Z Q) : Cn G M pc L (iv b :: iv a :: S) Z Q := nz_icmp_le hd ha hb ht rfl (fun _ => h) (fun q => absurd hc (by omega))
theorem nz_icmp_le_f {a b off : Int} (hd : decode M.2.1 pc = .ok (.if_icmp .le off, 3)) (ha : -2147483648 ≤ a ∧ a ≤ 2147483647) (hb : -2147483648 ≤ b ∧ b ≤ 2147483647) (ht : 0 ≤ (pc : Int) + off) (hp : pc + 3 = pc') (hc : b < a) (h : Cn G M pc' L S Z Q) : Cn G M pc L (iv b :: iv a :: S) Z Q := nz_icmp_le (tgt := ((pc : Int) + off).toNat) hd ha hb (by omega) hp (fun q => absurd hc (by omega)) (fun _ => h)
end
end
section
/-- the four books -/
def Bk (k : Nat) : Prop := k = 1 ∨ k = 6 ∨ k = 11 ∨ k = 19
theorem bk_l {k : Nat} (h : Bk k) : k < 42 := by rcases h with rfl | rfl | rfl | rfl <;> decide
theorem bk_l1 {k : Nat} (h : Bk k) : k + 1 < 42 := by rcases h with rfl | rfl | rfl | rfl <;> decide
theorem bk_l2 {k : Nat} (h : Bk k) : k + 2 < 42 := by rcases h with rfl | rfl | rfl | rfl <;> decide
theorem bk_l3 {k : Nat} (h : Bk k) : k + 3 < 42 := by rcases h with rfl | rfl | rfl | rfl <;> decide
theorem bk_l4 {k : Nat} (h : Bk k) : k + 4 < 42 := by rcases h with rfl | rfl | rfl | rfl <;> decide
theorem bk_s {k : Nat} (h : Bk k) : g_sh k = .inr 0 := by rcases h with rfl | rfl | rfl | rfl <;> rfl
theorem bk_s1 {k : Nat} (h : Bk k) : g_sh (k + 1) = .inl (0, 6) := by rcases h with rfl | rfl | rfl | rfl <;> rfl
theorem bk_s2 {k : Nat} (h : Bk k) : g_sh (k + 2) = .inl (0, 21) := by rcases h with rfl | rfl | rfl | rfl <;> rfl
theorem bk_s3 {k : Nat} (h : Bk k) : g_sh (k + 3) = .inl (0, 30) := by rcases h with rfl | rfl | rfl | rfl <;> rfl
theorem bk_s4 {k : Nat} (h : Bk k) : g_sh (k + 4) = .inl (0, 48) := by rcases h with rfl | rfl | rfl | rfl <;> rfl
theorem bk_r0 {k : Nat} (h : Bk k) (Z : ZS) : g_fv (g_N Z) k (g_fty 0 0) 0 = .ref (k + 1) := by rcases h with rfl | rfl | rfl | rfl <;> rfl
theorem bk_r1 {k : Nat} (h : Bk k) (Z : ZS) : g_fv (g_N Z) k (g_fty 0 1) 1 = .ref (k + 2) := by rcases h with rfl | rfl | rfl | rfl <;> rfl
theorem bk_r2 {k : Nat} (h : Bk k) (Z : ZS) : g_fv (g_N Z) k (g_fty 0 2) 2 = .ref (k + 3) := by rcases h with rfl | rfl | rfl | rfl <;> rfl
theorem bk_r3 {k : Nat} (h : Bk k) (Z : ZS) : g_fv (g_N Z) k (g_fty 0 3) 3 = .ref (k + 4) := by rcases h with rfl | rfl | rfl | rfl <;> rfl

set_option maxRecDepth 20000 in
set_option maxHeartbeats 4000000 in
theorem c_within (G : Wd) (Z : ZS) (n a b : Int) (hn : -2147483648 ≤ n ∧ n ≤ 2147483647) (ha : -2147483648 ≤ a ∧ a ≤ 2147483647) (hb : -2147483648 ≤ b ∧ b ≤ 2147483647) : Cn G mX10_within 0 [some (iv (n)), some (iv (a)), some (iv (b))] [] Z (qi (fun r W => Z = W ∧ ((r = 1 ∧ a ≤ n ∧ n ≤ b) ∨ (r = 0 ∧ (n < a ∨ b < n))))) := by
  refine cz_iload_n (pc' := 1) (g_d dtbX10_within_0 0 rfl) rfl rfl ?_
  refine cz_iload_n (pc' := 2) (g_d dtbX10_within_0 1 rfl) rfl rfl ?_
  refine nz_icmp_lt (tgt := 14) (pc' := 5) (g_d dtbX10_within_0 2 rfl) (by omega) (by omega) rfl rfl (fun h2 => ?_) (fun h2 => ?_)
  · refine nz_iconst (pc' := 15) (g_d dtbX10_within_0 8 rfl) rfl ?_
    refine nz_ri .boolean (g_d dtbX10_within_0 9 rfl) rfl rfl ?_
    exact ⟨rfl, by omega⟩
  · refine cz_iload_n (pc' := 6) (g_d dtbX10_within_0 3 rfl) rfl rfl ?_
    refine cz_iload_n (pc' := 7) (g_d dtbX10_within_0 4 rfl) rfl rfl ?_
    refine nz_icmp_gt (tgt := 14) (pc' := 10) (g_d dtbX10_within_0 5 rfl) (by omega) (by omega) rfl rfl (fun h7 => ?_) (fun h7 => ?_)
    · refine nz_iconst (pc' := 15) (g_d dtbX10_within_0 8 rfl) rfl ?_
      refine nz_ri .boolean (g_d dtbX10_within_0 9 rfl) rfl rfl ?_
      exact ⟨rfl, by omega⟩
    · refine nz_iconst (pc' := 11) (g_d dtbX10_within_0 6 rfl) rfl ?_
      refine cz_goto (pc' := 15) (g_d dtbX10_within_0 7 rfl) rfl ?_
      refine nz_ri .boolean (g_d dtbX10_within_0 9 rfl) rfl rfl ?_
      exact ⟨rfl, by omega⟩

set_option maxRecDepth 20000 in
set_option maxHeartbeats 4000000 in
theorem c_billPart (G : Wd) (Z : ZS) (k b p : Nat) (hk : Bk k) (hb : b < 7) (hp : p < 3) : Cn G mX0_billPart 0 [some (.ref k), some (iv ((b : Int))), some (iv ((p : Int)))] [] Z (qi (fun r W => Z (k + 2) (b * 3 + p) = r ∧ Z = W)) := by
  refine cz_iload_n (pc' := 1) (g_d dtbX0_billPart_0 0 rfl) rfl rfl ?_
  refine nz_if_lt_f (pc' := 4) (g_d dtbX0_billPart_0 1 rfl) (by omega) (by decide) rfl (by omega) ?_
  refine cz_iload_n (pc' := 5) (g_d dtbX0_billPart_0 2 rfl) rfl rfl ?_
  refine nz_bipush (pc' := 7) (g_d dtbX0_billPart_0 3 rfl) (by decide) rfl ?_
  refine nz_icmp_ge_f (pc' := 10) (g_d dtbX0_billPart_0 4 rfl) (by omega) (by omega) (by decide) rfl (by omega) ?_
  refine cz_aload_n (pc' := 11) (g_d dtbX0_billPart_0 5 rfl) rfl rfl ?_
  refine nz_getf (v := .ref (k + 2)) (pc' := 14) (g_d dtbX0_billPart_0 6 rfl) gf_X0_15 (bk_l hk) (bk_s hk) (bk_r1 hk _) rfl ?_
  refine cz_iload_n (pc' := 15) (g_d dtbX0_billPart_0 7 rfl) rfl rfl ?_
  refine nz_iconst (pc' := 16) (g_d dtbX0_billPart_0 8 rfl) rfl ?_
  refine nz_imul (pc' := 17) (g_d dtbX0_billPart_0 9 rfl) rfl ?_
  refine cz_iload_n (pc' := 18) (g_d dtbX0_billPart_0 10 rfl) rfl rfl ?_
  refine nz_iadd (pc' := 19) (g_d dtbX0_billPart_0 11 rfl) rfl ?_
  refine nz_iald (((b) * 3) + (p)) (pc' := 20) (g_d dtbX0_billPart_0 12 rfl) (bk_l2 hk) (bk_s2 hk) (by omega) (by omega) (by omega) rfl ?_
  refine cz_goto (pc' := 24) (g_d dtbX0_billPart_0 13 rfl) rfl ?_
  refine nz_ri .int (g_d dtbX0_billPart_0 15 rfl) rfl rfl ?_
  exact ⟨rfl, rfl⟩

set_option maxRecDepth 20000 in
set_option maxHeartbeats 4000000 in
theorem c_kindAt (G : Wd) (Z : ZS) (k b : Nat) (hk : Bk k) (hb : b < 7) : Cn G mX0_kindAt 0 [some (.ref k), some (iv ((b : Int)))] [] Z (qi (fun r W => Z (k + 2) (b * 3 + 0) = r ∧ Z = W)) := by
  refine cz_aload_n (pc' := 1) (g_d dtbX0_kindAt_0 0 rfl) rfl rfl ?_
  refine cz_iload_n (pc' := 2) (g_d dtbX0_kindAt_0 1 rfl) rfl rfl ?_
  refine nz_iconst (pc' := 3) (g_d dtbX0_kindAt_0 2 rfl) rfl ?_
  refine nz_cVi (M' := mX0_billPart) (k := k) (As := [iv ((b : Int)), iv 0]) (S := []) (L := [some (.ref k), some (iv ((b : Int)))]) (pc' := 6) (g_d dtbX0_kindAt_0 3 rfl) lk_X0_40 okX0_billPart (bk_l hk) (bk_s hk) rfl rfl rfl (Nat.le_of_ble_eq_true rfl) (Nat.le_of_ble_eq_true rfl) (by decide) rfl (c_billPart G Z k b 0 hk hb (by decide)) ?_
  rintro _ _ ⟨rfl, rfl⟩
  refine nz_ri .int (g_d dtbX0_kindAt_0 4 rfl) rfl rfl ?_
  exact ⟨rfl, rfl⟩

set_option maxRecDepth 20000 in
set_option maxHeartbeats 4000000 in
theorem c_dayAt (G : Wd) (Z : ZS) (k b : Nat) (hk : Bk k) (hb : b < 7) : Cn G mX0_dayAt 0 [some (.ref k), some (iv ((b : Int)))] [] Z (qi (fun r W => Z (k + 2) (b * 3 + 1) = r ∧ Z = W)) := by
  refine cz_aload_n (pc' := 1) (g_d dtbX0_dayAt_0 0 rfl) rfl rfl ?_
  refine cz_iload_n (pc' := 2) (g_d dtbX0_dayAt_0 1 rfl) rfl rfl ?_
  refine nz_iconst (pc' := 3) (g_d dtbX0_dayAt_0 2 rfl) rfl ?_
  refine nz_cVi (M' := mX0_billPart) (k := k) (As := [iv ((b : Int)), iv 1]) (S := []) (L := [some (.ref k), some (iv ((b : Int)))]) (pc' := 6) (g_d dtbX0_dayAt_0 3 rfl) lk_X0_40 okX0_billPart (bk_l hk) (bk_s hk) rfl rfl rfl (Nat.le_of_ble_eq_true rfl) (Nat.le_of_ble_eq_true rfl) (by decide) rfl (c_billPart G Z k b 1 hk hb (by decide)) ?_
  rintro _ _ ⟨rfl, rfl⟩
  refine nz_ri .int (g_d dtbX0_dayAt_0 4 rfl) rfl rfl ?_
  exact ⟨rfl, rfl⟩

set_option maxRecDepth 20000 in
set_option maxHeartbeats 4000000 in
theorem c_poundsAt (G : Wd) (Z : ZS) (k b : Nat) (hk : Bk k) (hb : b < 7) : Cn G mX0_poundsAt 0 [some (.ref k), some (iv ((b : Int)))] [] Z (qi (fun r W => Z (k + 2) (b * 3 + 2) = r ∧ Z = W)) := by
  refine cz_aload_n (pc' := 1) (g_d dtbX0_poundsAt_0 0 rfl) rfl rfl ?_
  refine cz_iload_n (pc' := 2) (g_d dtbX0_poundsAt_0 1 rfl) rfl rfl ?_
  refine nz_iconst (pc' := 3) (g_d dtbX0_poundsAt_0 2 rfl) rfl ?_
  refine nz_cVi (M' := mX0_billPart) (k := k) (As := [iv ((b : Int)), iv 2]) (S := []) (L := [some (.ref k), some (iv ((b : Int)))]) (pc' := 6) (g_d dtbX0_poundsAt_0 3 rfl) lk_X0_40 okX0_billPart (bk_l hk) (bk_s hk) rfl rfl rfl (Nat.le_of_ble_eq_true rfl) (Nat.le_of_ble_eq_true rfl) (by decide) rfl (c_billPart G Z k b 2 hk hb (by decide)) ?_
  rintro _ _ ⟨rfl, rfl⟩
  refine nz_ri .int (g_d dtbX0_poundsAt_0 4 rfl) rfl rfl ?_
  exact ⟨rfl, rfl⟩

/-- a row's first places set to one number -/
def zfl (Z : ZS) (k : Nat) (v : Int) (i : Nat) : ZS := zr Z k (fun j => if j < i then v else Z k j)
theorem zfl_0 (Z : ZS) (k : Nat) (v : Int) : zfl Z k v 0 = Z := by
  funext a b
  by_cases h : a = k <;> simp [zfl, zr, h]
theorem zfl_s (Z : ZS) (k : Nat) (v : Int) (i : Nat) : zu (zfl Z k v i) k i v = zfl Z k v (i + 1) := by
  funext a b
  by_cases h : a = k
  · by_cases hb : b = i
    · simp [zu, zfl, zr, h, hb]
    · by_cases hc : b < i
      · simp [zu, zfl, zr, h, hb, hc, Nat.lt_succ_of_lt hc]
      · have : ¬ b < i + 1 := by omega
        simp [zu, zfl, zr, h, hb, hc, this]
  · simp [zu, zfl, zr, h]

set_option maxRecDepth 20000 in
set_option maxHeartbeats 4000000 in
theorem l_fill (G : Wd) (Z : ZS) (k n : Nat) (v : Int) (hl : k < 42) (hs : g_sh k = .inl (0, n)) (hn : n ≤ 1000) : ∀ (d : Nat) (i : Nat), n - i = d → i ≤ n → Cn G mJ7_fill_53178 5 [some (.ref k), some (iv (v)), some (iv ((i : Int))), some (iv ((n : Int)))] [] (zfl Z k v i) (qv (fun W => W = zfl Z k v n)) := by
  intro d
  induction d using Nat.strongRecOn with
  | ind d ih =>
    intro i hd hi
    refine cz_iload_n (pc' := 6) (g_d dtbJ7_fill_53178_0 5 rfl) rfl rfl ?_
    refine cz_iload_n (pc' := 7) (g_d dtbJ7_fill_53178_0 6 rfl) rfl rfl ?_
    refine nz_icmp_ge (tgt := 20) (pc' := 10) (g_d dtbJ7_fill_53178_0 7 rfl) (by omega) (by omega) rfl rfl (fun h7 => ?_) (fun h7 => ?_)
    · refine nz_rv (g_d dtbJ7_fill_53178_0 14 rfl) rfl ?_
      rw [show i = n by omega]
    · refine cz_aload_n (pc' := 11) (g_d dtbJ7_fill_53178_0 8 rfl) rfl rfl ?_
      refine cz_iload_n (pc' := 12) (g_d dtbJ7_fill_53178_0 9 rfl) rfl rfl ?_
      refine cz_iload_n (pc' := 13) (g_d dtbJ7_fill_53178_0 10 rfl) rfl rfl ?_
      refine nz_iast i (pc' := 14) (g_d dtbJ7_fill_53178_0 11 rfl) hl hs (by omega) (by rfl) (by omega) rfl ?_
      refine nz_iinc (L' := [some (.ref k), some (iv (v)), some (iv (((i : Int)) + 1)), some (iv ((n : Int)))]) (pc' := 17) (g_d dtbJ7_fill_53178_0 12 rfl) (by decide) rfl rfl rfl ?_
      refine cz_goto (pc' := 5) (g_d dtbJ7_fill_53178_0 13 rfl) rfl ?_
      rw [zfl_s]
      exact ih (n - (i + 1)) (by omega) (i + 1) rfl (by omega)

set_option maxRecDepth 20000 in
set_option maxHeartbeats 4000000 in
theorem c_fill (G : Wd) (Z : ZS) (k n : Nat) (v : Int) (hl : k < 42) (hs : g_sh k = .inl (0, n)) (hn : n ≤ 1000) : Cn G mJ7_fill_53178 0 [some (.ref k), some (iv (v)), none, none] [] Z (qv (fun W => W = zfl Z k v n)) := by
  refine nz_iconst (pc' := 1) (g_d dtbJ7_fill_53178_0 0 rfl) rfl ?_
  refine cz_istore_n (L' := [some (.ref k), some (iv (v)), some (iv 0), none]) (pc' := 2) (g_d dtbJ7_fill_53178_0 1 rfl) (by decide) rfl rfl ?_
  refine cz_aload_n (pc' := 3) (g_d dtbJ7_fill_53178_0 2 rfl) rfl rfl ?_
  refine nz_alen (v := (n : Int)) (pc' := 4) (g_d dtbJ7_fill_53178_0 3 rfl) hl hs (by decide) rfl rfl ?_
  refine cz_istore_n (L' := [some (.ref k), some (iv (v)), some (iv 0), some (iv ((n : Int)))]) (pc' := 5) (g_d dtbJ7_fill_53178_0 4 rfl) (by decide) rfl rfl ?_
  have q := l_fill G Z k n v hl hs hn (n - 0) 0 rfl (Nat.zero_le _)
  rw [zfl_0] at q
  exact q
end
section
/-! a row of 108 numbers tells an account: figures 0 .. 5, bills 6 (how many), 7 (kinds), 14 (days), 21 (pounds), notes 28, 29 .., what may be undone 59, 60 .. -/
abbrev Row : Type := Nat → Int
def ru (f : Row) (j : Nat) (v : Int) : Row := fun i => if i = j then v else f i
theorem ru_eq {f : Row} {j : Nat} {v : Int} : ru f j v j = v := by simp [ru]
theorem ru_ne {f : Row} {i j : Nat} {v : Int} (h : i ≠ j) : ru f j v i = f i := by simp [ru, h]
/-- figures as they may be -/
def FO (B : Int) (g : Row) : Prop := (-B ≤ g 0 ∧ g 0 ≤ B) ∧ (0 ≤ g 1 ∧ g 1 ≤ B) ∧ (0 ≤ g 2 ∧ g 2 ≤ B) ∧ (1 ≤ g 3 ∧ g 3 ≤ 28) ∧ (0 ≤ g 4 ∧ (g 4 * 28 + g 3) * 3600 ≤ B) ∧ (0 ≤ g 5 ∧ g 5 ≤ 30)
/-- bills, notes as they may be -/
def BO (f : Row) (b : Nat) : Prop := (0 ≤ f (7 + b) ∧ f (7 + b) ≤ 5) ∧ (1 ≤ f (14 + b) ∧ f (14 + b) ≤ 28) ∧ (1 ≤ f (21 + b) ∧ f (21 + b) ≤ 99)
def NO1 (f : Row) (i : Nat) : Prop := (0 ≤ f (29 + 5 * i) ∧ f (29 + 5 * i) ≤ 6) ∧ (1 ≤ f (30 + 5 * i) ∧ f (30 + 5 * i) ≤ 28) ∧ (1 ≤ f (31 + 5 * i) ∧ f (31 + 5 * i) ≤ 28) ∧ (0 ≤ f (32 + 5 * i) ∧ f (32 + 5 * i) ≤ 40) ∧ (-999 ≤ f (33 + 5 * i) ∧ f (33 + 5 * i) ≤ 999)
def RO (B : Int) (f : Row) : Prop := FO B f ∧ (0 ≤ f 6 ∧ f 6 ≤ 7) ∧ (∀ b : Nat, b < 7 → (b : Int) < f 6 → BO f b) ∧ (0 ≤ f 28 ∧ f 28 ≤ 6) ∧ (∀ i : Nat, i < 6 → (i : Int) < f 28 → NO1 f i) ∧ (0 ≤ f 59 ∧ f 59 ≤ 8) ∧ (∀ i : Nat, i < 8 → (i : Int) < f 59 → FO B (fun j => f (60 + 6 * i + j)))
/-- a book k holds a row -/
def BR (Z : ZS) (k : Nat) (f : Row) : Prop := (∀ j, j < 6 → Z (k + 1) j = f j) ∧ Z k 4 = f 6 ∧ (∀ b : Nat, b < 7 → (b : Int) < f 6 → Z (k + 2) (b * 3) = f (7 + b) ∧ Z (k + 2) (b * 3 + 1) = f (14 + b) ∧ Z (k + 2) (b * 3 + 2) = f (21 + b)) ∧ Z k 5 = f 28 ∧ (∀ i : Nat, i < 6 → (i : Int) < f 28 → ∀ p, p < 5 → Z (k + 3) (i * 5 + p) = f (29 + 5 * i + p)) ∧ Z k 6 = f 59 ∧ (∀ i : Nat, i < 8 → (i : Int) < f 59 → ∀ j, j < 6 → Z (k + 4) (i * 6 + j) = f (60 + 6 * i + j))
/-- nothing but the book k -/
def Fb (k : Nat) (Z W : ZS) : Prop := ∀ a, (a < k ∨ k + 4 < a) → W a = Z a
theorem Fb.rf {k : Nat} {Z : ZS} : Fb k Z Z := fun _ _ => rfl
theorem Fb.tr {k : Nat} {Z W V : ZS} (h : Fb k Z W) (g : Fb k W V) : Fb k Z V := fun a ha => (g a ha).trans (h a ha)
theorem Fb.u {k a j : Nat} {Z W : ZS} {v : Int} (h : Fb k Z W) (ha : k ≤ a ∧ a ≤ k + 4) : Fb k Z (zu W a j v) := fun b hb => by rw [zu_row (by omega)]; exact h b hb
theorem Fb.r {k a : Nat} {Z W : ZS} {g : Nat → Int} (h : Fb k Z W) (ha : k ≤ a ∧ a ≤ k + 4) : Fb k Z (zr W a g) := fun b hb => by rw [zr_ne (by omega)]; exact h b hb
theorem BR.fr {k k2 : Nat} {Z W : ZS} {f : Row} (h : BR Z k f) (hF : Fb k2 Z W) (hk : k + 4 < k2 ∨ k2 + 4 < k) : BR W k f := by
  obtain ⟨h1, h2, h3, h4, h5, h6, h7⟩ := h
  have e : ∀ a, k ≤ a → a ≤ k + 4 → W a = Z a := fun a h1 h2 => hF a (by omega)
  refine ⟨fun j hj => ?_, ?_, fun b hb hb2 => ?_, ?_, fun i hi hi2 p hp => ?_, ?_, fun i hi hi2 j hj => ?_⟩
  · rw [e (k + 1) (by omega) (by omega)]; exact h1 j hj
  · rw [e k (by omega) (by omega)]; exact h2
  · rw [e (k + 2) (by omega) (by omega)]; exact h3 b hb hb2
  · rw [e k (by omega) (by omega)]; exact h4
  · rw [e (k + 3) (by omega) (by omega)]; exact h5 i hi hi2 p hp
  · rw [e k (by omega) (by omega)]; exact h6
  · rw [e (k + 4) (by omega) (by omega)]; exact h7 i hi hi2 j hj
/-- the cells of a book are as they were -/
theorem BR.eq {k : Nat} {Z W : ZS} {f : Row} (h : BR Z k f) (e : ∀ a, k ≤ a → a ≤ k + 4 → W a = Z a) : BR W k f := by
  obtain ⟨h1, h2, h3, h4, h5, h6, h7⟩ := h
  refine ⟨fun j hj => ?_, ?_, fun b hb hb2 => ?_, ?_, fun i hi hi2 p hp => ?_, ?_, fun i hi hi2 j hj => ?_⟩
  · rw [e (k + 1) (by omega) (by omega)]; exact h1 j hj
  · rw [e k (by omega) (by omega)]; exact h2
  · rw [e (k + 2) (by omega) (by omega)]; exact h3 b hb hb2
  · rw [e k (by omega) (by omega)]; exact h4
  · rw [e (k + 3) (by omega) (by omega)]; exact h5 i hi hi2 p hp
  · rw [e k (by omega) (by omega)]; exact h6
  · rw [e (k + 4) (by omega) (by omega)]; exact h7 i hi hi2 j hj
/-! what happens to rows -/
def rBegin : Row := fun j => if j = 3 then 1 else 0
def rBill (f : Row) (a d p : Int) : Row := ru (ru (ru (ru (ru f 59 0) (7 + (f 6).toNat) a) (14 + (f 6).toNat) d) (21 + (f 6).toNat) p) 6 (f 6 + 1)
def rNote (f : Row) (b d e m q : Int) : Row := ru (ru (ru (ru (ru (ru f (29 + 5 * (f 28).toNat) b) (30 + 5 * (f 28).toNat) d) (31 + 5 * (f 28).toNat) e) (32 + 5 * (f 28).toNat) m) (33 + 5 * (f 28).toNat) q) 28 (f 28 + 1)
def rShift (f : Row) : Row := if f 59 = 8 then ru (fun i => if 60 ≤ i ∧ i < 102 then f (i + 6) else f i) 59 7 else f
def rPut (g : Row) : Row := ru (fun i => if 60 + 6 * (g 59).toNat ≤ i ∧ i < 66 + 6 * (g 59).toNat then g (i - (60 + 6 * (g 59).toNat)) else g i) 59 (g 59 + 1)
def rKeep (f : Row) : Row := rPut (rShift f)
def rUndo (f : Row) : Row := ru (fun i => if i < 6 then f (60 + 6 * (f 59 - 1).toNat + i) else f i) 59 (f 59 - 1)
theorem br_begin {Z : ZS} {k : Nat} {n : Int} (hk : Bk k) : BR (zu (zu (zu (zu (zu (zfl Z (k + 1) 0 6) (k + 1) 0 n) (k + 1) 3 1) k 4 0) k 5 0) k 6 0) k (ru rBegin 0 n) := by
  refine ⟨fun j hj => ?_, ?_, fun b hb hb2 => ?_, ?_, fun i hi hi2 p hp => ?_, ?_, fun i hi hi2 j hj => ?_⟩
  · rcases (show j = 0 ∨ j = 1 ∨ j = 2 ∨ j = 3 ∨ j = 4 ∨ j = 5 by omega) with rfl | rfl | rfl | rfl | rfl | rfl <;> simp [zu, zfl, zr, ru, rBegin]
  · simp [zu, ru, rBegin]
  · simp [ru, rBegin] at hb2; omega
  · simp [zu, ru, rBegin]
  · simp [ru, rBegin] at hi2; omega
  · simp [zu, ru, rBegin]
  · simp [ru, rBegin] at hi2; omega
theorem br_bill {Z : ZS} {k c : Nat} {f : Row} {a d p : Int} (h : BR Z k f) (hc : f 6 = (c : Int)) (hc7 : c < 7) : BR (zu (zu (zu (zu (zu Z (k + 2) (c * 3) a) (k + 2) (c * 3 + 1) d) (k + 2) (c * 3 + 2) p) k 4 ((c : Int) + 1)) k 6 0) k (rBill f a d p) := by
  obtain ⟨h1, h2, h3, h4, h5, h6, h7⟩ := h
  have ec : (f 6).toNat = c := by omega
  refine ⟨fun j hj => ?_, ?_, fun b hb hb2 => ?_, ?_, fun i hi hi2 q hq => ?_, ?_, fun i hi hi2 j hj => ?_⟩
  · rw [show rBill f a d p j = f j by simp only [rBill, ec, ru]; repeat (rw [if_neg (by omega)])]
    rw [← h1 j hj]
    simp [zu]
  · simp [rBill, ru, hc, zu]
  · have hb3 : b < c ∨ b = c := by
      simp only [rBill, ru, if_true] at hb2
      omega
    rcases hb3 with hb3 | rfl
    · have e1 : rBill f a d p (7 + b) = f (7 + b) := by simp only [rBill, ec, ru]; repeat (rw [if_neg (by omega)])
      have e2 : rBill f a d p (14 + b) = f (14 + b) := by simp only [rBill, ec, ru]; repeat (rw [if_neg (by omega)])
      have e3 : rBill f a d p (21 + b) = f (21 + b) := by simp only [rBill, ec, ru]; repeat (rw [if_neg (by omega)])
      rw [e1, e2, e3]
      have := h3 b hb (by omega)
      have z : ∀ q, q < 3 → (zu (zu (zu (zu (zu Z (k + 2) (c * 3) a) (k + 2) (c * 3 + 1) d) (k + 2) (c * 3 + 2) p) k 4 ((c : Int) + 1)) k 6 0) (k + 2) (b * 3 + q) = Z (k + 2) (b * 3 + q) := by
        intro q hq
        rw [zu_ne (by omega), zu_ne (by omega), zu_ne (by omega), zu_ne (by omega), zu_ne (by omega)]
      exact ⟨(z 0 (by omega)).trans this.1, (z 1 (by omega)).trans this.2.1, (z 2 (by omega)).trans this.2.2⟩
    · refine ⟨?_, ?_, ?_⟩
      · rw [zu_ne (by omega), zu_ne (by omega), zu_ne (by omega), zu_ne (by omega), zu_eq]
        simp only [rBill, ec, ru]
        rw [if_neg (by omega), if_neg (by omega), if_neg (by omega), if_pos trivial]
      · rw [zu_ne (by omega), zu_ne (by omega), zu_ne (by omega), zu_eq]
        simp only [rBill, ec, ru]
        rw [if_neg (by omega), if_neg (by omega), if_pos trivial]
      · rw [zu_ne (by omega), zu_ne (by omega), zu_eq]
        simp only [rBill, ec, ru]
        rw [if_neg (by omega), if_pos trivial]
  · rw [show rBill f a d p 28 = f 28 by simp only [rBill, ec, ru]; repeat (rw [if_neg (by omega)])]
    rw [← h4]
    simp [zu]
  · have e28 : rBill f a d p 28 = f 28 := by simp only [rBill, ec, ru]; repeat (rw [if_neg (by omega)])
    rw [e28] at hi2
    rw [show rBill f a d p (29 + 5 * i + q) = f (29 + 5 * i + q) by simp only [rBill, ec, ru]; repeat (rw [if_neg (by omega)])]
    rw [← h5 i hi hi2 q hq]
    simp [zu]
  · simp [rBill, ec, zu, ru]
    omega
  · have e59 : rBill f a d p 59 = 0 := by
      simp only [rBill, ec, ru]
      rw [if_neg (by omega), if_neg (by omega), if_neg (by omega), if_neg (by omega), if_pos trivial]
    rw [e59] at hi2
    omega
theorem br_note {Z : ZS} {k c : Nat} {f : Row} {b d e m q : Int} (h : BR Z k f) (hc : f 28 = (c : Int)) (hc6 : c < 6) : BR (zu (zu (zu (zu (zu (zu Z (k + 3) (c * 5) b) (k + 3) (c * 5 + 1) d) (k + 3) (c * 5 + 2) e) (k + 3) (c * 5 + 3) m) (k + 3) (c * 5 + 4) q) k 5 ((c : Int) + 1)) k (rNote f b d e m q) := by
  obtain ⟨h1, h2, h3, h4, h5, h6, h7⟩ := h
  have ec : (f 28).toNat = c := by omega
  have lo : ∀ j, j < 28 ∨ 59 ≤ j → rNote f b d e m q j = f j := fun j hj => by
    rw [rNote, ec, ru_ne (by omega), ru_ne (by omega), ru_ne (by omega), ru_ne (by omega), ru_ne (by omega), ru_ne (by omega)]
  have e28 : rNote f b d e m q 28 = (c : Int) + 1 := by rw [rNote, ru_eq, hc]
  refine ⟨fun j hj => ?_, ?_, fun i hi hi2 => ?_, ?_, fun i hi hi2 p hp => ?_, ?_, fun i hi hi2 j hj => ?_⟩
  · rw [lo j (by omega), ← h1 j hj]; simp [zu]
  · rw [lo 6 (by omega), ← h2]; simp [zu]
  · rw [lo 6 (by omega)] at hi2
    rw [lo _ (by omega), lo _ (by omega), lo _ (by omega)]
    have := h3 i hi hi2
    simpa [zu] using this
  · rw [e28, zu_eq]
  · rw [e28] at hi2
    rcases (show i < c ∨ i = c by omega) with hic | rfl
    · rw [zu_ne (by omega), zu_ne (by omega), zu_ne (by omega), zu_ne (by omega), zu_ne (by omega), zu_ne (by omega), h5 i hi (by omega) p hp]
      rw [rNote, ec, ru_ne (by omega), ru_ne (by omega), ru_ne (by omega), ru_ne (by omega), ru_ne (by omega), ru_ne (by omega)]
    · rcases (show p = 0 ∨ p = 1 ∨ p = 2 ∨ p = 3 ∨ p = 4 by omega) with rfl | rfl | rfl | rfl | rfl
      · rw [zu_ne (by omega), zu_ne (by omega), zu_ne (by omega), zu_ne (by omega), zu_ne (by omega)]
        simp only [Nat.add_zero]
        rw [zu_eq, rNote, ec, ru_ne (by omega), ru_ne (by omega), ru_ne (by omega), ru_ne (by omega), ru_ne (by omega), ru_eq]
      · rw [zu_ne (by omega), zu_ne (by omega), zu_ne (by omega), zu_ne (by omega), zu_eq]
        rw [show 29 + 5 * i + 1 = 30 + 5 * i by omega, rNote, ec, ru_ne (by omega), ru_ne (by omega), ru_ne (by omega), ru_ne (by omega), ru_eq]
      · rw [zu_ne (by omega), zu_ne (by omega), zu_ne (by omega), zu_eq]
        rw [show 29 + 5 * i + 2 = 31 + 5 * i by omega, rNote, ec, ru_ne (by omega), ru_ne (by omega), ru_ne (by omega), ru_eq]
      · rw [zu_ne (by omega), zu_ne (by omega), zu_eq]
        rw [show 29 + 5 * i + 3 = 32 + 5 * i by omega, rNote, ec, ru_ne (by omega), ru_ne (by omega), ru_eq]
      · rw [zu_ne (by omega), zu_eq]
        rw [show 29 + 5 * i + 4 = 33 + 5 * i by omega, rNote, ec, ru_ne (by omega), ru_eq]
  · rw [lo 59 (by omega), ← h6]; simp [zu]
  · rw [lo 59 (by omega)] at hi2
    rw [lo _ (by omega), ← h7 i hi hi2 j hj]
    simp [zu]
theorem br_put {Z : ZS} {k c : Nat} {g : Row} (h : BR Z k g) (hc : g 59 = (c : Int)) (hc8 : c < 8) : BR (zu (zr Z (k + 4) (zcp (Z (k + 1)) (Z (k + 4)) 0 (c * 6) 6)) k 6 ((c : Int) + 1)) k (rPut g) := by
  obtain ⟨h1, h2, h3, h4, h5, h6, h7⟩ := h
  have ec : (g 59).toNat = c := by omega
  have lo : ∀ j, j < 59 → rPut g j = g j := fun j hj => by
    rw [rPut, ru_ne (by omega), if_neg (by omega)]
  have e59 : rPut g 59 = (c : Int) + 1 := by rw [rPut, ru_eq, hc]
  have w : ∀ a, a ≠ k → a ≠ k + 4 → (zu (zr Z (k + 4) (zcp (Z (k + 1)) (Z (k + 4)) 0 (c * 6) 6)) k 6 ((c : Int) + 1)) a = Z a := fun a h1 h2 => by rw [zu_row h1, zr_ne h2]
  have w4 : (zu (zr Z (k + 4) (zcp (Z (k + 1)) (Z (k + 4)) 0 (c * 6) 6)) k 6 ((c : Int) + 1)) (k + 4) = zcp (Z (k + 1)) (Z (k + 4)) 0 (c * 6) 6 := by rw [zu_row (by omega), zr_eq]
  refine ⟨fun j hj => ?_, ?_, fun i hi hi2 => ?_, ?_, fun i hi hi2 p hp => ?_, ?_, fun i hi hi2 j hj => ?_⟩
  · rw [lo j (by omega), w _ (by omega) (by omega)]; exact h1 j hj
  · rw [lo 6 (by omega), ← h2, zu_ne (by omega), zr_ne (by omega)]
  · rw [lo 6 (by omega)] at hi2
    rw [lo _ (by omega), lo _ (by omega), lo _ (by omega), w _ (by omega) (by omega)]
    exact h3 i hi hi2
  · rw [lo 28 (by omega), ← h4, zu_ne (by omega), zr_ne (by omega)]
  · rw [lo 28 (by omega)] at hi2
    rw [lo _ (by omega), w _ (by omega) (by omega)]
    exact h5 i hi hi2 p hp
  · rw [e59, zu_eq]
  · rw [e59] at hi2
    rw [w4, zcp]
    rcases (show i < c ∨ i = c by omega) with hic | rfl
    · rw [if_neg (by omega), h7 i hi (by omega) j hj, rPut, ec, ru_ne (by omega), if_neg (by omega)]
    · rw [if_pos (by omega), show 0 + (i * 6 + j - i * 6) = j by omega, h1 j hj, rPut, ec, ru_ne (by omega), if_pos (by omega)]
      congr 1; omega
theorem br_shift {Z : ZS} {k : Nat} {f : Row} (h : BR Z k f) (hc : f 59 = 8) : BR (zu (zr Z (k + 4) (zcp (Z (k + 4)) (Z (k + 4)) 6 0 42)) k 6 7) k (rShift f) := by
  obtain ⟨h1, h2, h3, h4, h5, h6, h7⟩ := h
  have eS : rShift f = ru (fun i => if 60 ≤ i ∧ i < 102 then f (i + 6) else f i) 59 7 := by rw [rShift, if_pos hc]
  have lo : ∀ j, j < 59 → rShift f j = f j := fun j hj => by rw [eS, ru_ne (by omega), if_neg (by omega)]
  have e59 : rShift f 59 = 7 := by rw [eS, ru_eq]
  have w : ∀ a, a ≠ k → a ≠ k + 4 → (zu (zr Z (k + 4) (zcp (Z (k + 4)) (Z (k + 4)) 6 0 42)) k 6 7) a = Z a := fun a h1 h2 => by rw [zu_row h1, zr_ne h2]
  have w4 : (zu (zr Z (k + 4) (zcp (Z (k + 4)) (Z (k + 4)) 6 0 42)) k 6 7) (k + 4) = zcp (Z (k + 4)) (Z (k + 4)) 6 0 42 := by rw [zu_row (by omega), zr_eq]
  refine ⟨fun j hj => ?_, ?_, fun i hi hi2 => ?_, ?_, fun i hi hi2 p hp => ?_, ?_, fun i hi hi2 j hj => ?_⟩
  · rw [lo j (by omega), w _ (by omega) (by omega)]; exact h1 j hj
  · rw [lo 6 (by omega), ← h2, zu_ne (by omega), zr_ne (by omega)]
  · rw [lo 6 (by omega)] at hi2
    rw [lo _ (by omega), lo _ (by omega), lo _ (by omega), w _ (by omega) (by omega)]
    exact h3 i hi hi2
  · rw [lo 28 (by omega), ← h4, zu_ne (by omega), zr_ne (by omega)]
  · rw [lo 28 (by omega)] at hi2
    rw [lo _ (by omega), w _ (by omega) (by omega)]
    exact h5 i hi hi2 p hp
  · rw [e59, zu_eq]
  · rw [e59] at hi2
    rw [w4, zcp, if_pos (by omega), show 6 + (i * 6 + j - 0) = (i + 1) * 6 + j by omega, h7 (i + 1) (by omega) (by omega) j hj, eS, ru_ne (by omega), if_pos (by omega)]
    congr 1; omega
theorem br_undo {Z : ZS} {k c : Nat} {f : Row} (h : BR Z k f) (hc : f 59 = (c : Int) + 1) (hc8 : c < 8) : BR (zr (zu Z k 6 (c : Int)) (k + 1) (zcp (Z (k + 4)) (Z (k + 1)) (c * 6) 0 6)) k (rUndo f) := by
  obtain ⟨h1, h2, h3, h4, h5, h6, h7⟩ := h
  have ec : (f 59 - 1).toNat = c := by omega
  have lo : ∀ j, 6 ≤ j → j ≠ 59 → rUndo f j = f j := fun j hj h59 => by rw [rUndo, ru_ne h59, if_neg (by omega)]
  have e59 : rUndo f 59 = (c : Int) := by rw [rUndo, ru_eq]; omega
  refine ⟨fun j hj => ?_, ?_, fun i hi hi2 => ?_, ?_, fun i hi hi2 p hp => ?_, ?_, fun i hi hi2 j hj => ?_⟩
  · rw [zr_eq, zcp, if_pos (by omega), show c * 6 + (j - 0) = c * 6 + j by omega, h7 c hc8 (by omega) j hj, rUndo, ec, ru_ne (by omega), if_pos hj]
  · rw [lo 6 (by omega) (by omega), ← h2, zr_ne (by omega), zu_ne (by omega)]
  · rw [lo 6 (by omega) (by omega)] at hi2
    rw [lo _ (by omega) (by omega), lo _ (by omega) (by omega), lo _ (by omega) (by omega), zr_ne (by omega), zu_row (by omega)]
    exact h3 i hi hi2
  · rw [lo 28 (by omega) (by omega), ← h4, zr_ne (by omega), zu_ne (by omega)]
  · rw [lo 28 (by omega) (by omega)] at hi2
    rw [lo _ (by omega) (by omega), zr_ne (by omega), zu_row (by omega)]
    exact h5 i hi hi2 p hp
  · rw [e59, zr_ne (by omega), zu_eq]
  · rw [e59] at hi2
    rw [lo _ (by omega) (by omega), zr_ne (by omega), zu_row (by omega)]
    exact h7 i hi (by omega) j hj
theorem br_fig {Z : ZS} {k j : Nat} {f : Row} {v : Int} (h : BR Z k f) (hj : j < 6) : BR (zu Z (k + 1) j v) k (ru f j v) := by
  obtain ⟨h1, h2, h3, h4, h5, h6, h7⟩ := h
  refine ⟨fun i hi => ?_, ?_, fun i hi hi2 => ?_, ?_, fun i hi hi2 p hp => ?_, ?_, fun i hi hi2 p hp => ?_⟩
  · by_cases e : i = j
    · subst e; rw [zu_eq, ru_eq]
    · rw [zu_ne (Or.inr e), ru_ne e]; exact h1 i hi
  · rw [zu_ne (by omega), ru_ne (by omega)]; exact h2
  · rw [ru_ne (by omega)] at hi2
    rw [zu_row (by omega), ru_ne (by omega), ru_ne (by omega), ru_ne (by omega)]; exact h3 i hi hi2
  · rw [zu_ne (by omega), ru_ne (by omega)]; exact h4
  · rw [ru_ne (by omega)] at hi2
    rw [zu_row (by omega), ru_ne (by omega)]; exact h5 i hi hi2 p hp
  · rw [zu_ne (by omega), ru_ne (by omega)]; exact h6
  · rw [ru_ne (by omega)] at hi2
    rw [zu_row (by omega), ru_ne (by omega)]; exact h7 i hi hi2 p hp
theorem br_forget {Z : ZS} {k : Nat} {f : Row} (h : BR Z k f) : BR (zu Z k 5 0) k (ru f 28 0) := by
  obtain ⟨h1, h2, h3, h4, h5, h6, h7⟩ := h
  refine ⟨fun i hi => ?_, ?_, fun i hi hi2 => ?_, ?_, fun i hi hi2 p hp => ?_, ?_, fun i hi hi2 p hp => ?_⟩
  · rw [zu_row (by omega), ru_ne (by omega)]; exact h1 i hi
  · rw [zu_ne (by omega), ru_ne (by omega)]; exact h2
  · rw [ru_ne (by omega)] at hi2
    rw [zu_row (by omega), ru_ne (by omega), ru_ne (by omega), ru_ne (by omega)]; exact h3 i hi hi2
  · rw [zu_eq, ru_eq]
  · rw [ru_eq] at hi2; omega
  · rw [zu_ne (by omega), ru_ne (by omega)]; exact h6
  · rw [ru_ne (by omega)] at hi2
    rw [zu_row (by omega), ru_ne (by omega)]; exact h7 i hi hi2 p hp
/-- a book copied over another -/
theorem br_copy {Z W : ZS} {k k2 : Nat} {f : Row} (h : BR Z k2 f) (e1 : ∀ j, j < 6 → W (k + 1) j = Z (k2 + 1) j) (e2 : ∀ j, j < 21 → W (k + 2) j = Z (k2 + 2) j) (e3 : ∀ j, j < 30 → W (k + 3) j = Z (k2 + 3) j) (e4 : ∀ j, j < 48 → W (k + 4) j = Z (k2 + 4) j) (e5 : W k 4 = Z k2 4) (e6 : W k 5 = Z k2 5) (e7 : W k 6 = Z k2 6) : BR W k f := by
  obtain ⟨h1, h2, h3, h4, h5, h6, h7⟩ := h
  refine ⟨fun i hi => ?_, ?_, fun i hi hi2 => ?_, ?_, fun i hi hi2 p hp => ?_, ?_, fun i hi hi2 p hp => ?_⟩
  · rw [e1 i hi]; exact h1 i hi
  · rw [e5]; exact h2
  · rw [e2 _ (by omega), e2 _ (by omega), e2 _ (by omega)]; exact h3 i hi hi2
  · rw [e6]; exact h4
  · rw [e3 _ (by omega)]; exact h5 i hi hi2 p hp
  · rw [e7]; exact h6
  · rw [e4 _ (by omega)]; exact h7 i hi hi2 p hp
/-! rows stay as they may be -/
theorem FO.eq {B : Int} {g g2 : Row} (h : FO B g) (e : ∀ j, j < 6 → g2 j = g j) : FO B g2 := by
  unfold FO at h ⊢
  rw [e 0 (by omega), e 1 (by omega), e 2 (by omega), e 3 (by omega), e 4 (by omega), e 5 (by omega)]
  exact h
theorem FO.mono {B B' : Int} {g : Row} (h : FO B g) (hb : B ≤ B') : FO B' g := by
  obtain ⟨h1, h2, h3, h4, h5, h6⟩ := h
  exact ⟨by omega, by omega, by omega, h4, by omega, h6⟩
theorem RO.mono {B B' : Int} {f : Row} (h : RO B f) (hb : B ≤ B') : RO B' f := ⟨h.1.mono hb, h.2.1, h.2.2.1, h.2.2.2.1, h.2.2.2.2.1, h.2.2.2.2.2.1, fun i hi hi2 => (h.2.2.2.2.2.2 i hi hi2).mono hb⟩
theorem ro_begin {B n : Int} (hB : 4000 ≤ B) (hn : 0 ≤ n ∧ n ≤ 999) : RO B (ru rBegin 0 n) := by
  refine ⟨⟨?_, ?_, ?_, ?_, ?_, ?_⟩, ?_, fun b hb hb2 => ?_, ?_, fun b hb hb2 => ?_, ?_, fun b hb hb2 => ?_⟩ <;> first | (simp [ru, rBegin]; omega) | (simp [ru, rBegin]; done) | (simp [ru, rBegin] at hb2; omega)
theorem ro_bill {B a d p : Int} {f : Row} (h : RO B f) (h7 : f 6 < 7) (ha : 0 ≤ a ∧ a ≤ 5) (hd : 1 ≤ d ∧ d ≤ 28) (hp : 1 ≤ p ∧ p ≤ 99) : RO B (rBill f a d p) := by
  obtain ⟨h1, h2, h3, h4, h5, h6, hh⟩ := h
  obtain ⟨c, hc⟩ : ∃ c : Nat, f 6 = (c : Int) := ⟨(f 6).toNat, by omega⟩
  have ec : (f 6).toNat = c := by omega
  have lo : ∀ j, j < 6 ∨ (28 ≤ j ∧ j ≠ 59) → rBill f a d p j = f j := fun j hj => by
    rw [rBill, ec, ru_ne (by omega), ru_ne (by omega), ru_ne (by omega), ru_ne (by omega), ru_ne (by omega)]
  have e6 : rBill f a d p 6 = (c : Int) + 1 := by rw [rBill, ru_eq, hc]
  have e59 : rBill f a d p 59 = 0 := by rw [rBill, ec, ru_ne (by omega), ru_ne (by omega), ru_ne (by omega), ru_ne (by omega), ru_eq]
  refine ⟨?_, by rw [e6]; omega, fun b hb hb2 => ?_, by rw [lo 28 (by omega)]; exact h4, fun b hb hb2 => ?_, by rw [e59]; omega, fun b hb hb2 => by rw [e59] at hb2; omega⟩
  · unfold FO
    rw [lo 0 (by omega), lo 1 (by omega), lo 2 (by omega), lo 3 (by omega), lo 4 (by omega), lo 5 (by omega)]
    exact h1
  · rw [e6] at hb2
    unfold BO
    rcases (show b < c ∨ b = c by omega) with hbc | rfl
    · have := h3 b hb (by omega)
      unfold BO at this
      rw [rBill, ec, ru_ne (by omega), ru_ne (by omega), ru_ne (by omega), ru_ne (by omega), ru_ne (by omega), ru_ne (by omega), ru_ne (by omega), ru_ne (by omega), ru_ne (by omega), ru_ne (by omega), ru_ne (by omega), ru_ne (by omega), ru_ne (by omega), ru_ne (by omega), ru_ne (by omega)]
      exact this
    · have a1 : rBill f a d p (7 + b) = a := by rw [rBill, ec, ru_ne (by omega), ru_ne (by omega), ru_ne (by omega), ru_eq]
      have a2 : rBill f a d p (14 + b) = d := by rw [rBill, ec, ru_ne (by omega), ru_ne (by omega), ru_eq]
      have a3 : rBill f a d p (21 + b) = p := by rw [rBill, ec, ru_ne (by omega), ru_eq]
      rw [a1, a2, a3]
      exact ⟨ha, hd, hp⟩
  · rw [lo 28 (by omega)] at hb2
    unfold NO1
    rw [lo _ (by omega), lo _ (by omega), lo _ (by omega), lo _ (by omega), lo _ (by omega)]
    exact h5 b hb hb2
theorem ro_note {B b d e m q : Int} {f : Row} (h : RO B f) (h6 : f 28 < 6) (hb : 0 ≤ b ∧ b ≤ 6) (hd : 1 ≤ d ∧ d ≤ 28) (he : 1 ≤ e ∧ e ≤ 28) (hm : 0 ≤ m ∧ m ≤ 40) (hq : -999 ≤ q ∧ q ≤ 999) : RO B (rNote f b d e m q) := by
  obtain ⟨h1, h2, h3, h4, h5, h8, hh⟩ := h
  obtain ⟨c, hc⟩ : ∃ c : Nat, f 28 = (c : Int) := ⟨(f 28).toNat, by omega⟩
  have ec : (f 28).toNat = c := by omega
  have lo : ∀ j, j < 28 ∨ 59 ≤ j → rNote f b d e m q j = f j := fun j hj => by
    rw [rNote, ec, ru_ne (by omega), ru_ne (by omega), ru_ne (by omega), ru_ne (by omega), ru_ne (by omega), ru_ne (by omega)]
  have e28 : rNote f b d e m q 28 = (c : Int) + 1 := by rw [rNote, ru_eq, hc]
  refine ⟨?_, by rw [lo 6 (by omega)]; exact h2, fun i hi hi2 => ?_, by rw [e28]; omega, fun i hi hi2 => ?_, by rw [lo 59 (by omega)]; exact h8, fun i hi hi2 => ?_⟩
  · unfold FO
    rw [lo 0 (by omega), lo 1 (by omega), lo 2 (by omega), lo 3 (by omega), lo 4 (by omega), lo 5 (by omega)]
    exact h1
  · rw [lo 6 (by omega)] at hi2
    unfold BO
    rw [lo _ (by omega), lo _ (by omega), lo _ (by omega)]
    exact h3 i hi hi2
  · rw [e28] at hi2
    unfold NO1
    rcases (show i < c ∨ i = c by omega) with hic | rfl
    · have := h5 i hi (by omega)
      unfold NO1 at this
      have z : ∀ j, 29 ≤ j → j < 29 + 5 * c → rNote f b d e m q j = f j := fun j h1 h2 => by
        rw [rNote, ec, ru_ne (by omega), ru_ne (by omega), ru_ne (by omega), ru_ne (by omega), ru_ne (by omega), ru_ne (by omega)]
      rw [z _ (by omega) (by omega), z _ (by omega) (by omega), z _ (by omega) (by omega), z _ (by omega) (by omega), z _ (by omega) (by omega)]
      exact this
    · have a1 : rNote f b d e m q (29 + 5 * i) = b := by rw [rNote, ec, ru_ne (by omega), ru_ne (by omega), ru_ne (by omega), ru_ne (by omega), ru_ne (by omega), ru_eq]
      have a2 : rNote f b d e m q (30 + 5 * i) = d := by rw [rNote, ec, ru_ne (by omega), ru_ne (by omega), ru_ne (by omega), ru_ne (by omega), ru_eq]
      have a3 : rNote f b d e m q (31 + 5 * i) = e := by rw [rNote, ec, ru_ne (by omega), ru_ne (by omega), ru_ne (by omega), ru_eq]
      have a4 : rNote f b d e m q (32 + 5 * i) = m := by rw [rNote, ec, ru_ne (by omega), ru_ne (by omega), ru_eq]
      have a5 : rNote f b d e m q (33 + 5 * i) = q := by rw [rNote, ec, ru_ne (by omega), ru_eq]
      rw [a1, a2, a3, a4, a5]
      exact ⟨hb, hd, he, hm, hq⟩
  · rw [lo 59 (by omega)] at hi2
    exact (hh i hi hi2).eq (fun j hj => lo _ (by omega))
theorem ro_shift {B : Int} {f : Row} (h : RO B f) : RO B (rShift f) ∧ rShift f 59 < 8 := by
  by_cases hc : f 59 = 8
  · obtain ⟨h1, h2, h3, h4, h5, h8, hh⟩ := h
    have eS : rShift f = ru (fun i => if 60 ≤ i ∧ i < 102 then f (i + 6) else f i) 59 7 := by rw [rShift, if_pos hc]
    have lo : ∀ j, j < 59 → rShift f j = f j := fun j hj => by rw [eS, ru_ne (by omega), if_neg (by omega)]
    have e59 : rShift f 59 = 7 := by rw [eS, ru_eq]
    refine ⟨⟨?_, by rw [lo 6 (by omega)]; exact h2, fun i hi hi2 => ?_, by rw [lo 28 (by omega)]; exact h4, fun i hi hi2 => ?_, by rw [e59]; omega, fun i hi hi2 => ?_⟩, by rw [e59]; omega⟩
    · unfold FO
      rw [lo 0 (by omega), lo 1 (by omega), lo 2 (by omega), lo 3 (by omega), lo 4 (by omega), lo 5 (by omega)]
      exact h1
    · rw [lo 6 (by omega)] at hi2
      unfold BO
      rw [lo _ (by omega), lo _ (by omega), lo _ (by omega)]
      exact h3 i hi hi2
    · rw [lo 28 (by omega)] at hi2
      unfold NO1
      rw [lo _ (by omega), lo _ (by omega), lo _ (by omega), lo _ (by omega), lo _ (by omega)]
      exact h5 i hi hi2
    · rw [e59] at hi2
      have := hh (i + 1) (by omega) (by omega)
      have z : ∀ j, j < 6 → rShift f (60 + 6 * i + j) = f (60 + 6 * (i + 1) + j) := fun j hj => by
        rw [eS, ru_ne (by omega), if_pos (by omega)]; congr 1; omega
      exact this.eq z
  · rw [rShift, if_neg hc]
    have := h.2.2.2.2.2.1
    exact ⟨h, by omega⟩
theorem ro_put {B : Int} {g : Row} (h : RO B g) (h8 : g 59 < 8) : RO B (rPut g) := by
  obtain ⟨h1, h2, h3, h4, h5, h9, hh⟩ := h
  obtain ⟨c, hc⟩ : ∃ c : Nat, g 59 = (c : Int) := ⟨(g 59).toNat, by omega⟩
  have ec : (g 59).toNat = c := by omega
  have lo : ∀ j, j < 59 → rPut g j = g j := fun j hj => by rw [rPut, ru_ne (by omega), if_neg (by omega)]
  have e59 : rPut g 59 = (c : Int) + 1 := by rw [rPut, ru_eq, hc]
  refine ⟨?_, by rw [lo 6 (by omega)]; exact h2, fun i hi hi2 => ?_, by rw [lo 28 (by omega)]; exact h4, fun i hi hi2 => ?_, by rw [e59]; omega, fun i hi hi2 => ?_⟩
  · unfold FO
    rw [lo 0 (by omega), lo 1 (by omega), lo 2 (by omega), lo 3 (by omega), lo 4 (by omega), lo 5 (by omega)]
    exact h1
  · rw [lo 6 (by omega)] at hi2
    unfold BO
    rw [lo _ (by omega), lo _ (by omega), lo _ (by omega)]
    exact h3 i hi hi2
  · rw [lo 28 (by omega)] at hi2
    unfold NO1
    rw [lo _ (by omega), lo _ (by omega), lo _ (by omega), lo _ (by omega), lo _ (by omega)]
    exact h5 i hi hi2
  · rw [e59] at hi2
    rcases (show i < c ∨ i = c by omega) with hic | rfl
    · have := hh i hi (by omega)
      have z : ∀ j, j < 6 → rPut g (60 + 6 * i + j) = g (60 + 6 * i + j) := fun j hj => by rw [rPut, ec, ru_ne (by omega), if_neg (by omega)]
      exact this.eq z
    · have z : ∀ j, j < 6 → rPut g (60 + 6 * i + j) = g j := fun j hj => by
        rw [rPut, ec, ru_ne (by omega), if_pos (by omega)]; congr 1; omega
      exact h1.eq z
theorem ro_keep {B : Int} {f : Row} (h : RO B f) : RO B (rKeep f) := ro_put (ro_shift h).1 (ro_shift h).2
theorem ro_undo {B : Int} {f : Row} (h : RO B f) (h0 : 0 < f 59) : RO B (rUndo f) := by
  obtain ⟨h1, h2, h3, h4, h5, h9, hh⟩ := h
  obtain ⟨c, hc⟩ : ∃ c : Nat, f 59 = (c : Int) + 1 := ⟨(f 59).toNat - 1, by omega⟩
  have ec : (f 59 - 1).toNat = c := by omega
  have lo : ∀ j, 6 ≤ j → j ≠ 59 → rUndo f j = f j := fun j hj h59 => by rw [rUndo, ru_ne h59, if_neg (by omega)]
  have e59 : rUndo f 59 = (c : Int) := by rw [rUndo, ru_eq]; omega
  have hi0 : ∀ j, j < 6 → rUndo f j = f (60 + 6 * c + j) := fun j hj => by rw [rUndo, ec, ru_ne (by omega), if_pos hj]
  refine ⟨?_, by rw [lo 6 (by omega) (by omega)]; exact h2, fun i hi hi2 => ?_, by rw [lo 28 (by omega) (by omega)]; exact h4, fun i hi hi2 => ?_, by rw [e59]; omega, fun i hi hi2 => ?_⟩
  · have := hh c (by omega) (by omega)
    exact this.eq hi0
  · rw [lo 6 (by omega) (by omega)] at hi2
    unfold BO
    rw [lo _ (by omega) (by omega), lo _ (by omega) (by omega), lo _ (by omega) (by omega)]
    exact h3 i hi hi2
  · rw [lo 28 (by omega) (by omega)] at hi2
    unfold NO1
    rw [lo _ (by omega) (by omega), lo _ (by omega) (by omega), lo _ (by omega) (by omega), lo _ (by omega) (by omega), lo _ (by omega) (by omega)]
    exact h5 i hi hi2
  · rw [e59] at hi2
    exact (hh i hi (by omega)).eq (fun j hj => lo _ (by omega) (by omega))
theorem ro_forget {B : Int} {f : Row} (h : RO B f) : RO B (ru f 28 0) := by
  obtain ⟨h1, h2, h3, h4, h5, h9, hh⟩ := h
  refine ⟨?_, by rw [ru_ne (by omega)]; exact h2, fun i hi hi2 => ?_, by rw [ru_eq]; omega, fun i hi hi2 => by rw [ru_eq] at hi2; omega, by rw [ru_ne (by omega)]; exact h9, fun i hi hi2 => ?_⟩
  · unfold FO
    rw [ru_ne (by omega), ru_ne (by omega), ru_ne (by omega), ru_ne (by omega), ru_ne (by omega), ru_ne (by omega)]
    exact h1
  · rw [ru_ne (by omega)] at hi2
    unfold BO
    rw [ru_ne (by omega), ru_ne (by omega), ru_ne (by omega)]
    exact h3 i hi hi2
  · rw [ru_ne (by omega)] at hi2
    exact (hh i hi hi2).eq (fun j hj => ru_ne (by omega))
/-- figures set anew -/
theorem ro_fig {B : Int} {f g : Row} (h : RO B f) (hg : ∀ j, 6 ≤ j → g j = f j) (hF : FO B g) : RO B g := by
  obtain ⟨h1, h2, h3, h4, h5, h9, hh⟩ := h
  refine ⟨hF, by rw [hg 6 (by omega)]; exact h2, fun i hi hi2 => ?_, by rw [hg 28 (by omega)]; exact h4, fun i hi hi2 => ?_, by rw [hg 59 (by omega)]; exact h9, fun i hi hi2 => ?_⟩
  · rw [hg 6 (by omega)] at hi2
    unfold BO
    rw [hg _ (by omega), hg _ (by omega), hg _ (by omega)]
    exact h3 i hi hi2
  · rw [hg 28 (by omega)] at hi2
    unfold NO1
    rw [hg _ (by omega), hg _ (by omega), hg _ (by omega), hg _ (by omega), hg _ (by omega)]
    exact h5 i hi hi2
  · rw [hg 59 (by omega)] at hi2
    exact (hh i hi hi2).eq (fun j hj => hg _ (by omega))
end
section
set_option maxRecDepth 20000 in
set_option maxHeartbeats 4000000 in
theorem c_notePart (G : Wd) (Z : ZS) (k i p : Nat) (hk : Bk k) (hi : i < 6) (hp : p < 5) : Cn G mX0_notePart 0 [some (.ref k), some (iv ((i : Int))), some (iv ((p : Int)))] [] Z (qi (fun r W => Z (k + 3) (i * 5 + p) = r ∧ Z = W)) := by
  refine cz_iload_n (pc' := 1) (g_d dtbX0_notePart_0 0 rfl) rfl rfl ?_
  refine nz_if_lt_f (pc' := 4) (g_d dtbX0_notePart_0 1 rfl) (by omega) (by decide) rfl (by omega) ?_
  refine cz_iload_n (pc' := 5) (g_d dtbX0_notePart_0 2 rfl) rfl rfl ?_
  refine nz_bipush (pc' := 7) (g_d dtbX0_notePart_0 3 rfl) (by decide) rfl ?_
  refine nz_icmp_ge_f (pc' := 10) (g_d dtbX0_notePart_0 4 rfl) (by omega) (by omega) (by decide) rfl (by omega) ?_
  refine cz_aload_n (pc' := 11) (g_d dtbX0_notePart_0 5 rfl) rfl rfl ?_
  refine nz_getf (v := .ref (k + 3)) (pc' := 14) (g_d dtbX0_notePart_0 6 rfl) gf_X0_18 (bk_l hk) (bk_s hk) (bk_r2 hk _) rfl ?_
  refine cz_iload_n (pc' := 15) (g_d dtbX0_notePart_0 7 rfl) rfl rfl ?_
  refine nz_iconst (pc' := 16) (g_d dtbX0_notePart_0 8 rfl) rfl ?_
  refine nz_imul (pc' := 17) (g_d dtbX0_notePart_0 9 rfl) rfl ?_
  refine cz_iload_n (pc' := 18) (g_d dtbX0_notePart_0 10 rfl) rfl rfl ?_
  refine nz_iadd (pc' := 19) (g_d dtbX0_notePart_0 11 rfl) rfl ?_
  refine nz_iald (i * 5 + p) (pc' := 20) (g_d dtbX0_notePart_0 12 rfl) (bk_l3 hk) (bk_s3 hk) (by omega) (by push_cast; omega) (by omega) rfl ?_
  refine cz_goto (pc' := 24) (g_d dtbX0_notePart_0 13 rfl) rfl ?_
  refine nz_ri .int (g_d dtbX0_notePart_0 15 rfl) rfl rfl ?_
  exact ⟨rfl, rfl⟩

set_option maxRecDepth 20000 in
set_option maxHeartbeats 4000000 in
theorem c_beginWith (G : Wd) (Z : ZS) (k : Nat) (n : Int) (hk : Bk k) : Cn G mX0_beginWith 0 [some (.ref k), some (iv (n))] [] Z (qv (fun W => BR W k (ru rBegin 0 n) ∧ Fb k Z W)) := by
  refine cz_aload_n (pc' := 1) (g_d dtbX0_beginWith_0 0 rfl) rfl rfl ?_
  refine nz_getf (v := .ref (k + 1)) (pc' := 4) (g_d dtbX0_beginWith_0 1 rfl) gf_X0_9 (bk_l hk) (bk_s hk) (bk_r0 hk _) rfl ?_
  refine nz_iconst (pc' := 5) (g_d dtbX0_beginWith_0 2 rfl) rfl ?_
  refine nz_cSv (M' := mJ7_fill_53178) (As := [.ref (k + 1), iv 0]) (S := []) (L := [some (.ref k), some (iv (n))]) (pc' := 8) (g_d dtbX0_beginWith_0 3 rfl) lk_X0_24 okJ7_fill_53178 rfl rfl (Nat.le_of_ble_eq_true rfl) (Nat.le_of_ble_eq_true rfl) (by decide) rfl (c_fill G Z (k + 1) _ _ (bk_l1 hk) (bk_s1 hk) (by decide)) ?_
  rintro _ rfl
  refine cz_aload_n (pc' := 9) (g_d dtbX0_beginWith_0 4 rfl) rfl rfl ?_
  refine nz_getf (v := .ref (k + 1)) (pc' := 12) (g_d dtbX0_beginWith_0 5 rfl) gf_X0_9 (bk_l hk) (bk_s hk) (bk_r0 hk _) rfl ?_
  refine nz_iconst (pc' := 13) (g_d dtbX0_beginWith_0 6 rfl) rfl ?_
  refine cz_iload_n (pc' := 14) (g_d dtbX0_beginWith_0 7 rfl) rfl rfl ?_
  refine nz_iast 0 (pc' := 15) (g_d dtbX0_beginWith_0 8 rfl) (bk_l1 hk) (bk_s1 hk) (by omega) (by rfl) (by omega) rfl ?_
  refine cz_aload_n (pc' := 16) (g_d dtbX0_beginWith_0 9 rfl) rfl rfl ?_
  refine nz_getf (v := .ref (k + 1)) (pc' := 19) (g_d dtbX0_beginWith_0 10 rfl) gf_X0_9 (bk_l hk) (bk_s hk) (bk_r0 hk _) rfl ?_
  refine nz_iconst (pc' := 20) (g_d dtbX0_beginWith_0 11 rfl) rfl ?_
  refine nz_iconst (pc' := 21) (g_d dtbX0_beginWith_0 12 rfl) rfl ?_
  refine nz_iast 3 (pc' := 22) (g_d dtbX0_beginWith_0 13 rfl) (bk_l1 hk) (bk_s1 hk) (by omega) (by rfl) (by omega) rfl ?_
  refine cz_aload_n (pc' := 23) (g_d dtbX0_beginWith_0 14 rfl) rfl rfl ?_
  refine nz_iconst (pc' := 24) (g_d dtbX0_beginWith_0 15 rfl) rfl ?_
  refine nz_puti (pc' := 27) (g_d dtbX0_beginWith_0 16 rfl) pf_X0_30 rfl (bk_l hk) (bk_s hk) rfl ?_
  refine cz_aload_n (pc' := 28) (g_d dtbX0_beginWith_0 17 rfl) rfl rfl ?_
  refine nz_iconst (pc' := 29) (g_d dtbX0_beginWith_0 18 rfl) rfl ?_
  refine nz_puti (pc' := 32) (g_d dtbX0_beginWith_0 19 rfl) pf_X0_34 rfl (bk_l hk) (bk_s hk) rfl ?_
  refine cz_aload_n (pc' := 33) (g_d dtbX0_beginWith_0 20 rfl) rfl rfl ?_
  refine nz_iconst (pc' := 34) (g_d dtbX0_beginWith_0 21 rfl) rfl ?_
  refine nz_puti (pc' := 37) (g_d dtbX0_beginWith_0 22 rfl) pf_X0_37 rfl (bk_l hk) (bk_s hk) rfl ?_
  refine nz_rv (g_d dtbX0_beginWith_0 23 rfl) rfl ?_
  exact ⟨br_begin hk, (Fb.u (Fb.u (Fb.u (Fb.u (Fb.u (Fb.r Fb.rf ⟨by omega, by omega⟩) ⟨by omega, by omega⟩) ⟨by omega, by omega⟩) ⟨by omega, by omega⟩) ⟨by omega, by omega⟩) ⟨by omega, by omega⟩)⟩

set_option maxRecDepth 20000 in
set_option maxHeartbeats 4000000 in
theorem c_addBill (G : Wd) (Z : ZS) (k c : Nat) (f : Row) (a d p : Int) (hk : Bk k) (hB : BR Z k f) (hc : f 6 = (c : Int)) (hc7 : c < 7) : Cn G mX0_addBill 0 [some (.ref k), some (iv (a)), some (iv (d)), some (iv (p)), none] [] Z (qv (fun W => BR W k (rBill f a d p) ∧ Fb k Z W)) := by
  have h4 : Z k 4 = (c : Int) := hB.2.1.trans hc
  refine cz_aload_n (pc' := 1) (g_d dtbX0_addBill_0 0 rfl) rfl rfl ?_
  refine nz_getf (v := iv ((c : Int))) (pc' := 4) (g_d dtbX0_addBill_0 1 rfl) gf_X0_30 (bk_l hk) (bk_s hk) (congrArg iv (by simp [zu, h4])) rfl ?_
  refine nz_bipush (pc' := 6) (g_d dtbX0_addBill_0 2 rfl) (by decide) rfl ?_
  refine nz_icmp_lt_t (tgt := 10) (g_d dtbX0_addBill_0 3 rfl) (by omega) (by omega) rfl (by omega) ?_
  refine cz_aload_n (pc' := 11) (g_d dtbX0_addBill_0 5 rfl) rfl rfl ?_
  refine nz_getf (v := iv ((c : Int))) (pc' := 14) (g_d dtbX0_addBill_0 6 rfl) gf_X0_30 (bk_l hk) (bk_s hk) (congrArg iv (by simp [zu, h4])) rfl ?_
  refine nz_iconst (pc' := 15) (g_d dtbX0_addBill_0 7 rfl) rfl ?_
  refine nz_imul (pc' := 16) (g_d dtbX0_addBill_0 8 rfl) rfl ?_
  refine cz_istore (L' := [some (.ref k), some (iv (a)), some (iv (d)), some (iv (p)), some (iv (((c : Int)) * 3))]) (pc' := 18) (g_d dtbX0_addBill_0 9 rfl) (by decide) rfl rfl ?_
  refine cz_aload_n (pc' := 19) (g_d dtbX0_addBill_0 10 rfl) rfl rfl ?_
  refine nz_getf (v := .ref (k + 2)) (pc' := 22) (g_d dtbX0_addBill_0 11 rfl) gf_X0_15 (bk_l hk) (bk_s hk) (bk_r1 hk _) rfl ?_
  refine cz_iload (pc' := 24) (g_d dtbX0_addBill_0 12 rfl) rfl rfl ?_
  refine cz_iload_n (pc' := 25) (g_d dtbX0_addBill_0 13 rfl) rfl rfl ?_
  refine nz_iast (c * 3) (pc' := 26) (g_d dtbX0_addBill_0 14 rfl) (bk_l2 hk) (bk_s2 hk) (by omega) (by push_cast; omega) (by omega) rfl ?_
  refine cz_aload_n (pc' := 27) (g_d dtbX0_addBill_0 15 rfl) rfl rfl ?_
  refine nz_getf (v := .ref (k + 2)) (pc' := 30) (g_d dtbX0_addBill_0 16 rfl) gf_X0_15 (bk_l hk) (bk_s hk) (bk_r1 hk _) rfl ?_
  refine cz_iload (pc' := 32) (g_d dtbX0_addBill_0 17 rfl) rfl rfl ?_
  refine nz_iconst (pc' := 33) (g_d dtbX0_addBill_0 18 rfl) rfl ?_
  refine nz_iadd (pc' := 34) (g_d dtbX0_addBill_0 19 rfl) rfl ?_
  refine cz_iload_n (pc' := 35) (g_d dtbX0_addBill_0 20 rfl) rfl rfl ?_
  refine nz_iast (c * 3 + 1) (pc' := 36) (g_d dtbX0_addBill_0 21 rfl) (bk_l2 hk) (bk_s2 hk) (by omega) (by push_cast; omega) (by omega) rfl ?_
  refine cz_aload_n (pc' := 37) (g_d dtbX0_addBill_0 22 rfl) rfl rfl ?_
  refine nz_getf (v := .ref (k + 2)) (pc' := 40) (g_d dtbX0_addBill_0 23 rfl) gf_X0_15 (bk_l hk) (bk_s hk) (bk_r1 hk _) rfl ?_
  refine cz_iload (pc' := 42) (g_d dtbX0_addBill_0 24 rfl) rfl rfl ?_
  refine nz_iconst (pc' := 43) (g_d dtbX0_addBill_0 25 rfl) rfl ?_
  refine nz_iadd (pc' := 44) (g_d dtbX0_addBill_0 26 rfl) rfl ?_
  refine cz_iload_n (pc' := 45) (g_d dtbX0_addBill_0 27 rfl) rfl rfl ?_
  refine nz_iast (c * 3 + 2) (pc' := 46) (g_d dtbX0_addBill_0 28 rfl) (bk_l2 hk) (bk_s2 hk) (by omega) (by push_cast; omega) (by omega) rfl ?_
  refine cz_aload_n (pc' := 47) (g_d dtbX0_addBill_0 29 rfl) rfl rfl ?_
  refine cz_dup (pc' := 48) (g_d dtbX0_addBill_0 30 rfl) rfl rfl ?_
  refine nz_getf (v := iv ((c : Int))) (pc' := 51) (g_d dtbX0_addBill_0 31 rfl) gf_X0_30 (bk_l hk) (bk_s hk) (congrArg iv (by simp [zu, h4])) rfl ?_
  refine nz_iconst (pc' := 52) (g_d dtbX0_addBill_0 32 rfl) rfl ?_
  refine nz_iadd (pc' := 53) (g_d dtbX0_addBill_0 33 rfl) rfl ?_
  refine nz_puti (pc' := 56) (g_d dtbX0_addBill_0 34 rfl) pf_X0_30 rfl (bk_l hk) (bk_s hk) rfl ?_
  refine cz_aload_n (pc' := 57) (g_d dtbX0_addBill_0 35 rfl) rfl rfl ?_
  refine nz_iconst (pc' := 58) (g_d dtbX0_addBill_0 36 rfl) rfl ?_
  refine nz_puti (pc' := 61) (g_d dtbX0_addBill_0 37 rfl) pf_X0_37 rfl (bk_l hk) (bk_s hk) rfl ?_
  refine nz_rv (g_d dtbX0_addBill_0 38 rfl) rfl ?_
  exact ⟨br_bill hB hc hc7, (Fb.u (Fb.u (Fb.u (Fb.u (Fb.u Fb.rf ⟨by omega, by omega⟩) ⟨by omega, by omega⟩) ⟨by omega, by omega⟩) ⟨by omega, by omega⟩) ⟨by omega, by omega⟩)⟩

set_option maxRecDepth 20000 in
set_option maxHeartbeats 4000000 in
theorem c_addNote (G : Wd) (Z : ZS) (k c : Nat) (f : Row) (b d e m q : Int) (hk : Bk k) (hB : BR Z k f) (hc : f 28 = (c : Int)) (hc6 : c < 6) : Cn G mX0_addNote 0 [some (.ref k), some (iv (b)), some (iv (d)), some (iv (e)), some (iv (m)), some (iv (q)), none] [] Z (qv (fun W => BR W k (rNote f b d e m q) ∧ Fb k Z W)) := by
  have h4 : Z k 5 = (c : Int) := hB.2.2.2.1.trans hc
  refine cz_aload_n (pc' := 1) (g_d dtbX0_addNote_0 0 rfl) rfl rfl ?_
  refine nz_getf (v := iv ((c : Int))) (pc' := 4) (g_d dtbX0_addNote_0 1 rfl) gf_X0_34 (bk_l hk) (bk_s hk) (congrArg iv (by simp [zu, h4])) rfl ?_
  refine nz_bipush (pc' := 6) (g_d dtbX0_addNote_0 2 rfl) (by decide) rfl ?_
  refine nz_icmp_lt_t (tgt := 10) (g_d dtbX0_addNote_0 3 rfl) (by omega) (by omega) rfl (by omega) ?_
  refine cz_aload_n (pc' := 11) (g_d dtbX0_addNote_0 5 rfl) rfl rfl ?_
  refine nz_getf (v := iv ((c : Int))) (pc' := 14) (g_d dtbX0_addNote_0 6 rfl) gf_X0_34 (bk_l hk) (bk_s hk) (congrArg iv (by simp [zu, h4])) rfl ?_
  refine nz_iconst (pc' := 15) (g_d dtbX0_addNote_0 7 rfl) rfl ?_
  refine nz_imul (pc' := 16) (g_d dtbX0_addNote_0 8 rfl) rfl ?_
  refine cz_istore (L' := [some (.ref k), some (iv (b)), some (iv (d)), some (iv (e)), some (iv (m)), some (iv (q)), some (iv (((c : Int)) * 5))]) (pc' := 18) (g_d dtbX0_addNote_0 9 rfl) (by decide) rfl rfl ?_
  refine cz_aload_n (pc' := 19) (g_d dtbX0_addNote_0 10 rfl) rfl rfl ?_
  refine nz_getf (v := .ref (k + 3)) (pc' := 22) (g_d dtbX0_addNote_0 11 rfl) gf_X0_18 (bk_l hk) (bk_s hk) (bk_r2 hk _) rfl ?_
  refine cz_iload (pc' := 24) (g_d dtbX0_addNote_0 12 rfl) rfl rfl ?_
  refine cz_iload_n (pc' := 25) (g_d dtbX0_addNote_0 13 rfl) rfl rfl ?_
  refine nz_iast (c * 5) (pc' := 26) (g_d dtbX0_addNote_0 14 rfl) (bk_l3 hk) (bk_s3 hk) (by omega) (by push_cast; omega) (by omega) rfl ?_
  refine cz_aload_n (pc' := 27) (g_d dtbX0_addNote_0 15 rfl) rfl rfl ?_
  refine nz_getf (v := .ref (k + 3)) (pc' := 30) (g_d dtbX0_addNote_0 16 rfl) gf_X0_18 (bk_l hk) (bk_s hk) (bk_r2 hk _) rfl ?_
  refine cz_iload (pc' := 32) (g_d dtbX0_addNote_0 17 rfl) rfl rfl ?_
  refine nz_iconst (pc' := 33) (g_d dtbX0_addNote_0 18 rfl) rfl ?_
  refine nz_iadd (pc' := 34) (g_d dtbX0_addNote_0 19 rfl) rfl ?_
  refine cz_iload_n (pc' := 35) (g_d dtbX0_addNote_0 20 rfl) rfl rfl ?_
  refine nz_iast (c * 5 + 1) (pc' := 36) (g_d dtbX0_addNote_0 21 rfl) (bk_l3 hk) (bk_s3 hk) (by omega) (by push_cast; omega) (by omega) rfl ?_
  refine cz_aload_n (pc' := 37) (g_d dtbX0_addNote_0 22 rfl) rfl rfl ?_
  refine nz_getf (v := .ref (k + 3)) (pc' := 40) (g_d dtbX0_addNote_0 23 rfl) gf_X0_18 (bk_l hk) (bk_s hk) (bk_r2 hk _) rfl ?_
  refine cz_iload (pc' := 42) (g_d dtbX0_addNote_0 24 rfl) rfl rfl ?_
  refine nz_iconst (pc' := 43) (g_d dtbX0_addNote_0 25 rfl) rfl ?_
  refine nz_iadd (pc' := 44) (g_d dtbX0_addNote_0 26 rfl) rfl ?_
  refine cz_iload_n (pc' := 45) (g_d dtbX0_addNote_0 27 rfl) rfl rfl ?_
  refine nz_iast (c * 5 + 2) (pc' := 46) (g_d dtbX0_addNote_0 28 rfl) (bk_l3 hk) (bk_s3 hk) (by omega) (by push_cast; omega) (by omega) rfl ?_
  refine cz_aload_n (pc' := 47) (g_d dtbX0_addNote_0 29 rfl) rfl rfl ?_
  refine nz_getf (v := .ref (k + 3)) (pc' := 50) (g_d dtbX0_addNote_0 30 rfl) gf_X0_18 (bk_l hk) (bk_s hk) (bk_r2 hk _) rfl ?_
  refine cz_iload (pc' := 52) (g_d dtbX0_addNote_0 31 rfl) rfl rfl ?_
  refine nz_iconst (pc' := 53) (g_d dtbX0_addNote_0 32 rfl) rfl ?_
  refine nz_iadd (pc' := 54) (g_d dtbX0_addNote_0 33 rfl) rfl ?_
  refine cz_iload (pc' := 56) (g_d dtbX0_addNote_0 34 rfl) rfl rfl ?_
  refine nz_iast (c * 5 + 3) (pc' := 57) (g_d dtbX0_addNote_0 35 rfl) (bk_l3 hk) (bk_s3 hk) (by omega) (by push_cast; omega) (by omega) rfl ?_
  refine cz_aload_n (pc' := 58) (g_d dtbX0_addNote_0 36 rfl) rfl rfl ?_
  refine nz_getf (v := .ref (k + 3)) (pc' := 61) (g_d dtbX0_addNote_0 37 rfl) gf_X0_18 (bk_l hk) (bk_s hk) (bk_r2 hk _) rfl ?_
  refine cz_iload (pc' := 63) (g_d dtbX0_addNote_0 38 rfl) rfl rfl ?_
  refine nz_iconst (pc' := 64) (g_d dtbX0_addNote_0 39 rfl) rfl ?_
  refine nz_iadd (pc' := 65) (g_d dtbX0_addNote_0 40 rfl) rfl ?_
  refine cz_iload (pc' := 67) (g_d dtbX0_addNote_0 41 rfl) rfl rfl ?_
  refine nz_iast (c * 5 + 4) (pc' := 68) (g_d dtbX0_addNote_0 42 rfl) (bk_l3 hk) (bk_s3 hk) (by omega) (by push_cast; omega) (by omega) rfl ?_
  refine cz_aload_n (pc' := 69) (g_d dtbX0_addNote_0 43 rfl) rfl rfl ?_
  refine cz_dup (pc' := 70) (g_d dtbX0_addNote_0 44 rfl) rfl rfl ?_
  refine nz_getf (v := iv ((c : Int))) (pc' := 73) (g_d dtbX0_addNote_0 45 rfl) gf_X0_34 (bk_l hk) (bk_s hk) (congrArg iv (by simp [zu, h4])) rfl ?_
  refine nz_iconst (pc' := 74) (g_d dtbX0_addNote_0 46 rfl) rfl ?_
  refine nz_iadd (pc' := 75) (g_d dtbX0_addNote_0 47 rfl) rfl ?_
  refine nz_puti (pc' := 78) (g_d dtbX0_addNote_0 48 rfl) pf_X0_34 rfl (bk_l hk) (bk_s hk) rfl ?_
  refine nz_rv (g_d dtbX0_addNote_0 49 rfl) rfl ?_
  exact ⟨br_note hB hc hc6, (Fb.u (Fb.u (Fb.u (Fb.u (Fb.u (Fb.u Fb.rf ⟨by omega, by omega⟩) ⟨by omega, by omega⟩) ⟨by omega, by omega⟩) ⟨by omega, by omega⟩) ⟨by omega, by omega⟩) ⟨by omega, by omega⟩)⟩

set_option maxRecDepth 20000 in
set_option maxHeartbeats 4000000 in
theorem c_keepPast2 (G : Wd) (Z : ZS) (k c : Nat) (f : Row) (hk : Bk k) (hB : BR Z k f) (hc : f 59 = (c : Int)) (hc8 : c < 8) : Cn G mX0_keepPast 31 [some (.ref k)] [] Z (qv (fun W => BR W k (rPut f) ∧ Fb k Z W)) := by
  have h4 : Z k 6 = (c : Int) := hB.2.2.2.2.2.1.trans hc
  refine cz_aload_n (pc' := 32) (g_d dtbX0_keepPast_0 15 rfl) rfl rfl ?_
  refine nz_getf (v := .ref (k + 1)) (pc' := 35) (g_d dtbX0_keepPast_0 16 rfl) gf_X0_9 (bk_l hk) (bk_s hk) (bk_r0 hk _) rfl ?_
  refine nz_iconst (pc' := 36) (g_d dtbX0_keepPast_0 17 rfl) rfl ?_
  refine cz_aload_n (pc' := 37) (g_d dtbX0_keepPast_0 18 rfl) rfl rfl ?_
  refine nz_getf (v := .ref (k + 4)) (pc' := 40) (g_d dtbX0_keepPast_0 19 rfl) gf_X0_21 (bk_l hk) (bk_s hk) (bk_r3 hk _) rfl ?_
  refine cz_aload_n (pc' := 41) (g_d dtbX0_keepPast_0 20 rfl) rfl rfl ?_
  refine nz_getf (v := iv ((c : Int))) (pc' := 44) (g_d dtbX0_keepPast_0 21 rfl) gf_X0_37 (bk_l hk) (bk_s hk) (congrArg iv (by simp [zu, zr, h4])) rfl ?_
  refine nz_bipush (pc' := 46) (g_d dtbX0_keepPast_0 22 rfl) (by decide) rfl ?_
  refine nz_imul (pc' := 47) (g_d dtbX0_keepPast_0 23 rfl) rfl ?_
  refine nz_bipush (pc' := 49) (g_d dtbX0_keepPast_0 24 rfl) (by decide) rfl ?_
  refine nz_acopy 0 (c * 6) 6 (pc' := 52) (g_d dtbX0_keepPast_0 25 rfl) la_X0_44 (bk_l1 hk) (bk_l4 hk) (bk_s1 hk) (bk_s4 hk) (by decide) (by rfl) (by push_cast; omega) (by rfl) (by omega) (by omega) (by decide) (by decide) rfl ?_
  refine cz_aload_n (pc' := 53) (g_d dtbX0_keepPast_0 26 rfl) rfl rfl ?_
  refine cz_dup (pc' := 54) (g_d dtbX0_keepPast_0 27 rfl) rfl rfl ?_
  refine nz_getf (v := iv ((c : Int))) (pc' := 57) (g_d dtbX0_keepPast_0 28 rfl) gf_X0_37 (bk_l hk) (bk_s hk) (congrArg iv (by simp [zu, zr, h4])) rfl ?_
  refine nz_iconst (pc' := 58) (g_d dtbX0_keepPast_0 29 rfl) rfl ?_
  refine nz_iadd (pc' := 59) (g_d dtbX0_keepPast_0 30 rfl) rfl ?_
  refine nz_puti (pc' := 62) (g_d dtbX0_keepPast_0 31 rfl) pf_X0_37 rfl (bk_l hk) (bk_s hk) rfl ?_
  refine nz_rv (g_d dtbX0_keepPast_0 32 rfl) rfl ?_
  exact ⟨br_put hB hc hc8, (Fb.u (Fb.r Fb.rf ⟨by omega, by omega⟩) ⟨by omega, by omega⟩)⟩

set_option maxRecDepth 20000 in
set_option maxHeartbeats 4000000 in
theorem c_keepPast (G : Wd) (Z : ZS) (k : Nat) (f : Row) (hk : Bk k) (hB : BR Z k f) (hc : 0 ≤ f 59 ∧ f 59 ≤ 8) : Cn G mX0_keepPast 0 [some (.ref k)] [] Z (qv (fun W => BR W k (rKeep f) ∧ Fb k Z W)) := by
  refine cz_aload_n (pc' := 1) (g_d dtbX0_keepPast_0 0 rfl) rfl rfl ?_
  refine nz_getf (v := iv (f 59)) (pc' := 4) (g_d dtbX0_keepPast_0 1 rfl) gf_X0_37 (bk_l hk) (bk_s hk) (congrArg iv (hB.2.2.2.2.2.1)) rfl ?_
  refine nz_bipush (pc' := 6) (g_d dtbX0_keepPast_0 2 rfl) (by decide) rfl ?_
  refine nz_icmp_lt (tgt := 31) (pc' := 9) (g_d dtbX0_keepPast_0 3 rfl) (by omega) (by omega) rfl rfl (fun h6 => ?_) (fun h6 => ?_)
  · have hs : rShift f = f := by rw [rShift, if_neg (show ¬ f 59 = 8 by omega)]
    rw [rKeep, hs]
    exact c_keepPast2 G Z k (f 59).toNat f hk hB (by omega) (by omega)
  · refine cz_aload_n (pc' := 10) (g_d dtbX0_keepPast_0 4 rfl) rfl rfl ?_
    refine nz_getf (v := .ref (k + 4)) (pc' := 13) (g_d dtbX0_keepPast_0 5 rfl) gf_X0_21 (bk_l hk) (bk_s hk) (bk_r3 hk _) rfl ?_
    refine nz_bipush (pc' := 15) (g_d dtbX0_keepPast_0 6 rfl) (by decide) rfl ?_
    refine cz_aload_n (pc' := 16) (g_d dtbX0_keepPast_0 7 rfl) rfl rfl ?_
    refine nz_getf (v := .ref (k + 4)) (pc' := 19) (g_d dtbX0_keepPast_0 8 rfl) gf_X0_21 (bk_l hk) (bk_s hk) (bk_r3 hk _) rfl ?_
    refine nz_iconst (pc' := 20) (g_d dtbX0_keepPast_0 9 rfl) rfl ?_
    refine nz_bipush (pc' := 22) (g_d dtbX0_keepPast_0 10 rfl) (by decide) rfl ?_
    refine nz_acopy 6 0 42 (pc' := 25) (g_d dtbX0_keepPast_0 11 rfl) la_X0_44 (bk_l4 hk) (bk_l4 hk) (bk_s4 hk) (bk_s4 hk) (by decide) (by rfl) (by rfl) (by rfl) (by omega) (by omega) (by decide) (by decide) rfl ?_
    refine cz_aload_n (pc' := 26) (g_d dtbX0_keepPast_0 12 rfl) rfl rfl ?_
    refine nz_bipush (pc' := 28) (g_d dtbX0_keepPast_0 13 rfl) (by decide) rfl ?_
    refine nz_puti (pc' := 31) (g_d dtbX0_keepPast_0 14 rfl) pf_X0_37 rfl (bk_l hk) (bk_s hk) rfl ?_
    have hB2 := br_shift hB (show f 59 = 8 by omega)
    refine nz_wv (c_keepPast2 G _ k 7 _ hk hB2 (by rw [rShift, if_pos (show f 59 = 8 by omega), ru_eq]; rfl) (by decide)) (fun W h => ⟨h.1, Fb.tr (Fb.u (Fb.r Fb.rf ⟨by omega, by omega⟩) ⟨by omega, by omega⟩) h.2⟩)

set_option maxRecDepth 20000 in
set_option maxHeartbeats 4000000 in
theorem c_stepBack (G : Wd) (Z : ZS) (k c : Nat) (f : Row) (hk : Bk k) (hB : BR Z k f) (hc : f 59 = (c : Int) + 1) (hc8 : c < 8) : Cn G mX0_stepBack 0 [some (.ref k)] [] Z (qv (fun W => BR W k (rUndo f) ∧ Fb k Z W)) := by
  have h4 : Z k 6 = (c : Int) + 1 := hB.2.2.2.2.2.1.trans hc
  refine cz_aload_n (pc' := 1) (g_d dtbX0_stepBack_0 0 rfl) rfl rfl ?_
  refine nz_getf (v := iv ((c : Int) + 1)) (pc' := 4) (g_d dtbX0_stepBack_0 1 rfl) gf_X0_37 (bk_l hk) (bk_s hk) (congrArg iv (by simp [zu, h4])) rfl ?_
  refine nz_if_gt_t (tgt := 8) (g_d dtbX0_stepBack_0 2 rfl) (by omega) rfl (by omega) ?_
  refine cz_aload_n (pc' := 9) (g_d dtbX0_stepBack_0 4 rfl) rfl rfl ?_
  refine cz_dup (pc' := 10) (g_d dtbX0_stepBack_0 5 rfl) rfl rfl ?_
  refine nz_getf (v := iv ((c : Int) + 1)) (pc' := 13) (g_d dtbX0_stepBack_0 6 rfl) gf_X0_37 (bk_l hk) (bk_s hk) (congrArg iv (by simp [zu, h4])) rfl ?_
  refine nz_iconst (pc' := 14) (g_d dtbX0_stepBack_0 7 rfl) rfl ?_
  refine nz_isub (pc' := 15) (g_d dtbX0_stepBack_0 8 rfl) rfl ?_
  refine nz_puti (pc' := 18) (g_d dtbX0_stepBack_0 9 rfl) pf_X0_37 rfl (bk_l hk) (bk_s hk) rfl ?_
  refine cz_aload_n (pc' := 19) (g_d dtbX0_stepBack_0 10 rfl) rfl rfl ?_
  refine nz_getf (v := .ref (k + 4)) (pc' := 22) (g_d dtbX0_stepBack_0 11 rfl) gf_X0_21 (bk_l hk) (bk_s hk) (bk_r3 hk _) rfl ?_
  refine cz_aload_n (pc' := 23) (g_d dtbX0_stepBack_0 12 rfl) rfl rfl ?_
  refine nz_getf (v := iv ((c : Int))) (pc' := 26) (g_d dtbX0_stepBack_0 13 rfl) gf_X0_37 (bk_l hk) (bk_s hk) (congrArg iv (by simp [zu, h4])) rfl ?_
  refine nz_bipush (pc' := 28) (g_d dtbX0_stepBack_0 14 rfl) (by decide) rfl ?_
  refine nz_imul (pc' := 29) (g_d dtbX0_stepBack_0 15 rfl) rfl ?_
  refine cz_aload_n (pc' := 30) (g_d dtbX0_stepBack_0 16 rfl) rfl rfl ?_
  refine nz_getf (v := .ref (k + 1)) (pc' := 33) (g_d dtbX0_stepBack_0 17 rfl) gf_X0_9 (bk_l hk) (bk_s hk) (bk_r0 hk _) rfl ?_
  refine nz_iconst (pc' := 34) (g_d dtbX0_stepBack_0 18 rfl) rfl ?_
  refine nz_bipush (pc' := 36) (g_d dtbX0_stepBack_0 19 rfl) (by decide) rfl ?_
  refine nz_acopy (c * 6) 0 6 (pc' := 39) (g_d dtbX0_stepBack_0 20 rfl) la_X0_44 (bk_l4 hk) (bk_l1 hk) (bk_s4 hk) (bk_s1 hk) (by decide) (by push_cast; omega) (by rfl) (by rfl) (by omega) (by omega) (by decide) (by decide) rfl ?_
  refine nz_rv (g_d dtbX0_stepBack_0 21 rfl) rfl ?_
  have q := br_undo hB hc hc8
  refine ⟨?_, (Fb.r (Fb.u Fb.rf ⟨by omega, by omega⟩) ⟨by omega, by omega⟩)⟩
  have e : (c : Int) + 1 - 1 = (c : Int) := by omega
  rw [e, zu_row (show k + 4 ≠ k by omega), zu_row (show k + 1 ≠ k by omega)]
  exact q

set_option maxRecDepth 20000 in
set_option maxHeartbeats 4000000 in
theorem c_copyFrom (G : Wd) (Z : ZS) (k j : Nat) (f : Row) (hk : Bk k) (hj : Bk j) (hkj : k ≠ j) (hB : BR Z j f) : Cn G mX0_copyFrom 0 [some (.ref k), some (.ref j)] [] Z (qv (fun W => BR W k f ∧ Fb k Z W)) := by
  refine cz_aload_n (pc' := 1) (g_d dtbX0_copyFrom_0 0 rfl) rfl rfl ?_
  refine nz_getf (v := .ref (j + 1)) (pc' := 4) (g_d dtbX0_copyFrom_0 1 rfl) gf_X0_9 (bk_l hj) (bk_s hj) (bk_r0 hj _) rfl ?_
  refine nz_iconst (pc' := 5) (g_d dtbX0_copyFrom_0 2 rfl) rfl ?_
  refine cz_aload_n (pc' := 6) (g_d dtbX0_copyFrom_0 3 rfl) rfl rfl ?_
  refine nz_getf (v := .ref (k + 1)) (pc' := 9) (g_d dtbX0_copyFrom_0 4 rfl) gf_X0_9 (bk_l hk) (bk_s hk) (bk_r0 hk _) rfl ?_
  refine nz_iconst (pc' := 10) (g_d dtbX0_copyFrom_0 5 rfl) rfl ?_
  refine nz_bipush (pc' := 12) (g_d dtbX0_copyFrom_0 6 rfl) (by decide) rfl ?_
  refine nz_acopy 0 0 6 (pc' := 15) (g_d dtbX0_copyFrom_0 7 rfl) la_X0_44 (bk_l1 hj) (bk_l1 hk) (bk_s1 hj) (bk_s1 hk) (by decide) (by rfl) (by rfl) (by rfl) (by omega) (by omega) (by decide) (by decide) rfl ?_
  refine cz_aload_n (pc' := 16) (g_d dtbX0_copyFrom_0 8 rfl) rfl rfl ?_
  refine nz_getf (v := .ref (j + 2)) (pc' := 19) (g_d dtbX0_copyFrom_0 9 rfl) gf_X0_15 (bk_l hj) (bk_s hj) (bk_r1 hj _) rfl ?_
  refine nz_iconst (pc' := 20) (g_d dtbX0_copyFrom_0 10 rfl) rfl ?_
  refine cz_aload_n (pc' := 21) (g_d dtbX0_copyFrom_0 11 rfl) rfl rfl ?_
  refine nz_getf (v := .ref (k + 2)) (pc' := 24) (g_d dtbX0_copyFrom_0 12 rfl) gf_X0_15 (bk_l hk) (bk_s hk) (bk_r1 hk _) rfl ?_
  refine nz_iconst (pc' := 25) (g_d dtbX0_copyFrom_0 13 rfl) rfl ?_
  refine nz_bipush (pc' := 27) (g_d dtbX0_copyFrom_0 14 rfl) (by decide) rfl ?_
  refine nz_acopy 0 0 21 (pc' := 30) (g_d dtbX0_copyFrom_0 15 rfl) la_X0_44 (bk_l2 hj) (bk_l2 hk) (bk_s2 hj) (bk_s2 hk) (by decide) (by rfl) (by rfl) (by rfl) (by omega) (by omega) (by decide) (by decide) rfl ?_
  refine cz_aload_n (pc' := 31) (g_d dtbX0_copyFrom_0 16 rfl) rfl rfl ?_
  refine nz_getf (v := .ref (j + 3)) (pc' := 34) (g_d dtbX0_copyFrom_0 17 rfl) gf_X0_18 (bk_l hj) (bk_s hj) (bk_r2 hj _) rfl ?_
  refine nz_iconst (pc' := 35) (g_d dtbX0_copyFrom_0 18 rfl) rfl ?_
  refine cz_aload_n (pc' := 36) (g_d dtbX0_copyFrom_0 19 rfl) rfl rfl ?_
  refine nz_getf (v := .ref (k + 3)) (pc' := 39) (g_d dtbX0_copyFrom_0 20 rfl) gf_X0_18 (bk_l hk) (bk_s hk) (bk_r2 hk _) rfl ?_
  refine nz_iconst (pc' := 40) (g_d dtbX0_copyFrom_0 21 rfl) rfl ?_
  refine nz_bipush (pc' := 42) (g_d dtbX0_copyFrom_0 22 rfl) (by decide) rfl ?_
  refine nz_acopy 0 0 30 (pc' := 45) (g_d dtbX0_copyFrom_0 23 rfl) la_X0_44 (bk_l3 hj) (bk_l3 hk) (bk_s3 hj) (bk_s3 hk) (by decide) (by rfl) (by rfl) (by rfl) (by omega) (by omega) (by decide) (by decide) rfl ?_
  refine cz_aload_n (pc' := 46) (g_d dtbX0_copyFrom_0 24 rfl) rfl rfl ?_
  refine nz_getf (v := .ref (j + 4)) (pc' := 49) (g_d dtbX0_copyFrom_0 25 rfl) gf_X0_21 (bk_l hj) (bk_s hj) (bk_r3 hj _) rfl ?_
  refine nz_iconst (pc' := 50) (g_d dtbX0_copyFrom_0 26 rfl) rfl ?_
  refine cz_aload_n (pc' := 51) (g_d dtbX0_copyFrom_0 27 rfl) rfl rfl ?_
  refine nz_getf (v := .ref (k + 4)) (pc' := 54) (g_d dtbX0_copyFrom_0 28 rfl) gf_X0_21 (bk_l hk) (bk_s hk) (bk_r3 hk _) rfl ?_
  refine nz_iconst (pc' := 55) (g_d dtbX0_copyFrom_0 29 rfl) rfl ?_
  refine nz_bipush (pc' := 57) (g_d dtbX0_copyFrom_0 30 rfl) (by decide) rfl ?_
  refine nz_acopy 0 0 48 (pc' := 60) (g_d dtbX0_copyFrom_0 31 rfl) la_X0_44 (bk_l4 hj) (bk_l4 hk) (bk_s4 hj) (bk_s4 hk) (by decide) (by rfl) (by rfl) (by rfl) (by omega) (by omega) (by decide) (by decide) rfl ?_
  refine cz_aload_n (pc' := 61) (g_d dtbX0_copyFrom_0 32 rfl) rfl rfl ?_
  refine cz_aload_n (pc' := 62) (g_d dtbX0_copyFrom_0 33 rfl) rfl rfl ?_
  refine nz_getf (v := iv (Z j 4)) (pc' := 65) (g_d dtbX0_copyFrom_0 34 rfl) gf_X0_30 (bk_l hj) (bk_s hj) (congrArg iv (by rcases hk with rfl | rfl | rfl | rfl <;> rcases hj with rfl | rfl | rfl | rfl <;> first | (exact absurd rfl hkj) | simp [zu, zr])) rfl ?_
  refine nz_puti (pc' := 68) (g_d dtbX0_copyFrom_0 35 rfl) pf_X0_30 rfl (bk_l hk) (bk_s hk) rfl ?_
  refine cz_aload_n (pc' := 69) (g_d dtbX0_copyFrom_0 36 rfl) rfl rfl ?_
  refine cz_aload_n (pc' := 70) (g_d dtbX0_copyFrom_0 37 rfl) rfl rfl ?_
  refine nz_getf (v := iv (Z j 5)) (pc' := 73) (g_d dtbX0_copyFrom_0 38 rfl) gf_X0_34 (bk_l hj) (bk_s hj) (congrArg iv (by rcases hk with rfl | rfl | rfl | rfl <;> rcases hj with rfl | rfl | rfl | rfl <;> first | (exact absurd rfl hkj) | simp [zu, zr])) rfl ?_
  refine nz_puti (pc' := 76) (g_d dtbX0_copyFrom_0 39 rfl) pf_X0_34 rfl (bk_l hk) (bk_s hk) rfl ?_
  refine cz_aload_n (pc' := 77) (g_d dtbX0_copyFrom_0 40 rfl) rfl rfl ?_
  refine cz_aload_n (pc' := 78) (g_d dtbX0_copyFrom_0 41 rfl) rfl rfl ?_
  refine nz_getf (v := iv (Z j 6)) (pc' := 81) (g_d dtbX0_copyFrom_0 42 rfl) gf_X0_37 (bk_l hj) (bk_s hj) (congrArg iv (by rcases hk with rfl | rfl | rfl | rfl <;> rcases hj with rfl | rfl | rfl | rfl <;> first | (exact absurd rfl hkj) | simp [zu, zr])) rfl ?_
  refine nz_puti (pc' := 84) (g_d dtbX0_copyFrom_0 43 rfl) pf_X0_37 rfl (bk_l hk) (bk_s hk) rfl ?_
  refine nz_rv (g_d dtbX0_copyFrom_0 44 rfl) rfl ?_
  obtain ⟨W, eW⟩ : ∃ W : ZS, W = (zu (zu (zu (zr (zr (zr (zr Z (k + 1) (zcp (Z (j + 1)) (Z (k + 1)) 0 0 6)) (k + 2) (zcp ((zr Z (k + 1) (zcp (Z (j + 1)) (Z (k + 1)) 0 0 6)) (j + 2)) ((zr Z (k + 1) (zcp (Z (j + 1)) (Z (k + 1)) 0 0 6)) (k + 2)) 0 0 21)) (k + 3) (zcp ((zr (zr Z (k + 1) (zcp (Z (j + 1)) (Z (k + 1)) 0 0 6)) (k + 2) (zcp ((zr Z (k + 1) (zcp (Z (j + 1)) (Z (k + 1)) 0 0 6)) (j + 2)) ((zr Z (k + 1) (zcp (Z (j + 1)) (Z (k + 1)) 0 0 6)) (k + 2)) 0 0 21)) (j + 3)) ((zr (zr Z (k + 1) (zcp (Z (j + 1)) (Z (k + 1)) 0 0 6)) (k + 2) (zcp ((zr Z (k + 1) (zcp (Z (j + 1)) (Z (k + 1)) 0 0 6)) (j + 2)) ((zr Z (k + 1) (zcp (Z (j + 1)) (Z (k + 1)) 0 0 6)) (k + 2)) 0 0 21)) (k + 3)) 0 0 30)) (k + 4) (zcp ((zr (zr (zr Z (k + 1) (zcp (Z (j + 1)) (Z (k + 1)) 0 0 6)) (k + 2) (zcp ((zr Z (k + 1) (zcp (Z (j + 1)) (Z (k + 1)) 0 0 6)) (j + 2)) ((zr Z (k + 1) (zcp (Z (j + 1)) (Z (k + 1)) 0 0 6)) (k + 2)) 0 0 21)) (k + 3) (zcp ((zr (zr Z (k + 1) (zcp (Z (j + 1)) (Z (k + 1)) 0 0 6)) (k + 2) (zcp ((zr Z (k + 1) (zcp (Z (j + 1)) (Z (k + 1)) 0 0 6)) (j + 2)) ((zr Z (k + 1) (zcp (Z (j + 1)) (Z (k + 1)) 0 0 6)) (k + 2)) 0 0 21)) (j + 3)) ((zr (zr Z (k + 1) (zcp (Z (j + 1)) (Z (k + 1)) 0 0 6)) (k + 2) (zcp ((zr Z (k + 1) (zcp (Z (j + 1)) (Z (k + 1)) 0 0 6)) (j + 2)) ((zr Z (k + 1) (zcp (Z (j + 1)) (Z (k + 1)) 0 0 6)) (k + 2)) 0 0 21)) (k + 3)) 0 0 30)) (j + 4)) ((zr (zr (zr Z (k + 1) (zcp (Z (j + 1)) (Z (k + 1)) 0 0 6)) (k + 2) (zcp ((zr Z (k + 1) (zcp (Z (j + 1)) (Z (k + 1)) 0 0 6)) (j + 2)) ((zr Z (k + 1) (zcp (Z (j + 1)) (Z (k + 1)) 0 0 6)) (k + 2)) 0 0 21)) (k + 3) (zcp ((zr (zr Z (k + 1) (zcp (Z (j + 1)) (Z (k + 1)) 0 0 6)) (k + 2) (zcp ((zr Z (k + 1) (zcp (Z (j + 1)) (Z (k + 1)) 0 0 6)) (j + 2)) ((zr Z (k + 1) (zcp (Z (j + 1)) (Z (k + 1)) 0 0 6)) (k + 2)) 0 0 21)) (j + 3)) ((zr (zr Z (k + 1) (zcp (Z (j + 1)) (Z (k + 1)) 0 0 6)) (k + 2) (zcp ((zr Z (k + 1) (zcp (Z (j + 1)) (Z (k + 1)) 0 0 6)) (j + 2)) ((zr Z (k + 1) (zcp (Z (j + 1)) (Z (k + 1)) 0 0 6)) (k + 2)) 0 0 21)) (k + 3)) 0 0 30)) (k + 4)) 0 0 48)) k 4 (Z j 4)) k 5 (Z j 5)) k 6 (Z j 6)) := ⟨_, rfl⟩
  rw [← eW]
  have cs : ∀ P : Nat → Nat → Prop, P 1 6 → P 1 11 → P 1 19 → P 6 1 → P 6 11 → P 6 19 → P 11 1 → P 11 6 → P 11 19 → P 19 1 → P 19 6 → P 19 11 → P k j := by
    intro P a1 a2 a3 a4 a5 a6 a7 a8 a9 a10 a11 a12
    rcases hk with rfl | rfl | rfl | rfl <;> rcases hj with rfl | rfl | rfl | rfl <;> first | assumption | (exact absurd rfl hkj)
  have dj : k + 4 < j ∨ j + 4 < k := by apply cs (fun k j => k + 4 < j ∨ j + 4 < k) <;> omega
  refine ⟨br_copy hB (fun i hi => ?_) (fun i hi => ?_) (fun i hi => ?_) (fun i hi => ?_) ?_ ?_ ?_, ?_⟩
  · subst eW; rw [zu_row (by omega), zu_row (by omega), zu_row (by omega), zr_ne (by omega), zr_ne (by omega), zr_ne (by omega), zr_eq, zcp, if_pos (by omega)]; congr 1; omega
  · subst eW; rw [zu_row (by omega), zu_row (by omega), zu_row (by omega), zr_ne (by omega), zr_ne (by omega), zr_eq, zcp, if_pos (by omega), zr_ne (by omega)]; congr 1; omega
  · subst eW; rw [zu_row (by omega), zu_row (by omega), zu_row (by omega), zr_ne (by omega), zr_eq, zcp, if_pos (by omega), zr_ne (by omega), zr_ne (by omega)]; congr 1; omega
  · subst eW; rw [zu_row (by omega), zu_row (by omega), zu_row (by omega), zr_eq, zcp, if_pos (by omega), zr_ne (by omega), zr_ne (by omega), zr_ne (by omega)]; congr 1; omega
  · subst eW; rw [zu_ne (by omega), zu_ne (by omega), zu_eq]
  · subst eW; rw [zu_ne (by omega), zu_eq]
  · subst eW; rw [zu_eq]
  · rw [eW]; exact (Fb.u (Fb.u (Fb.u (Fb.r (Fb.r (Fb.r (Fb.r Fb.rf ⟨by omega, by omega⟩) ⟨by omega, by omega⟩) ⟨by omega, by omega⟩) ⟨by omega, by omega⟩) ⟨by omega, by omega⟩) ⟨by omega, by omega⟩) ⟨by omega, by omega⟩)
end
section
/-! the kinds -/
def dayB (κ d : Int) : Int := if κ = 1 ∨ κ = 5 then (if d % 7 = 0 then (if d = 28 then d - 1 else d + 1) else d) else if κ = 3 then (if d + 14 ≤ 28 then d + 14 else d + 14 - 28) else d
def pndB (κ p m : Int) : Int := if κ = 2 then (if m % 3 = 0 then p else 0) else if κ = 4 then (if m % 12 = 0 then 10 * p else 0) else if κ = 5 then -p else p
theorem dayB_in {κ d : Int} (hd : 1 ≤ d ∧ d ≤ 28) : 1 ≤ dayB κ d ∧ dayB κ d ≤ 28 := by
  unfold dayB
  repeat' split
  all_goals omega
theorem pndB_in {κ p m : Int} (hp : 0 ≤ p ∧ p ≤ 99) : -99 ≤ pndB κ p m ∧ pndB κ p m ≤ 990 := by
  unfold pndB
  repeat' split
  all_goals omega

set_option maxRecDepth 20000 in
set_option maxHeartbeats 4000000 in
theorem c_plainDay (G : Wd) (Z : ZS) (k : Nat) (d : Int) : Cn G mX6_drawnOn 0 [some (.ref k), some (iv (d))] [] Z (qi (fun r W => d = r ∧ Z = W)) := by
  refine cz_iload_n (pc' := 1) (g_d dtbX6_drawnOn_0 0 rfl) rfl rfl ?_
  refine nz_ri .int (g_d dtbX6_drawnOn_0 1 rfl) rfl rfl ?_
  exact ⟨rfl, rfl⟩

set_option maxRecDepth 20000 in
set_option maxHeartbeats 4000000 in
theorem c_plainPnd (G : Wd) (Z : ZS) (k : Nat) (m p : Int) : Cn G mX6_poundsIn 0 [some (.ref k), some (iv (m)), some (iv (p))] [] Z (qi (fun r W => p = r ∧ Z = W)) := by
  refine cz_iload_n (pc' := 1) (g_d dtbX6_poundsIn_0 0 rfl) rfl rfl ?_
  refine nz_ri .int (g_d dtbX6_poundsIn_0 1 rfl) rfl rfl ?_
  exact ⟨rfl, rfl⟩

set_option maxRecDepth 20000 in
set_option maxHeartbeats 4000000 in
theorem c_cardDay (G : Wd) (Z : ZS) (d : Int) (hd : 1 ≤ d ∧ d ≤ 28) : Cn G mX1_drawnOn 0 [some (.ref 29), some (iv (d)), none] [] Z (qi (fun r W => dayB 3 d = r ∧ Z = W)) := by
  refine cz_aload_n (pc' := 1) (g_d dtbX1_drawnOn_0 0 rfl) rfl rfl ?_
  refine cz_iload_n (pc' := 2) (g_d dtbX1_drawnOn_0 1 rfl) rfl rfl ?_
  refine nz_cVi (M' := mX6_drawnOn) (k := 29) (As := [iv (d)]) (S := []) (L := [some (.ref 29), some (iv (d)), none]) (pc' := 5) (g_d dtbX1_drawnOn_0 2 rfl) lk_X1_9_X1 okX6_drawnOn (by decide) rfl rfl rfl rfl (Nat.le_of_ble_eq_true rfl) (Nat.le_of_ble_eq_true rfl) (by decide) rfl (c_plainDay G Z 29 d) ?_
  rintro _ _ ⟨rfl, rfl⟩
  refine nz_bipush (pc' := 7) (g_d dtbX1_drawnOn_0 3 rfl) (by decide) rfl ?_
  refine nz_iadd (pc' := 8) (g_d dtbX1_drawnOn_0 4 rfl) rfl ?_
  refine cz_istore_n (L' := [some (.ref 29), some (iv (d)), some (iv (d + 14))]) (pc' := 9) (g_d dtbX1_drawnOn_0 5 rfl) (by decide) rfl rfl ?_
  refine cz_iload_n (pc' := 10) (g_d dtbX1_drawnOn_0 6 rfl) rfl rfl ?_
  refine nz_bipush (pc' := 12) (g_d dtbX1_drawnOn_0 7 rfl) (by decide) rfl ?_
  refine nz_icmp_le (tgt := 22) (pc' := 15) (g_d dtbX1_drawnOn_0 8 rfl) (by omega) (by omega) rfl rfl (fun h12 => ?_) (fun h12 => ?_)
  · refine cz_iload_n (pc' := 23) (g_d dtbX1_drawnOn_0 13 rfl) rfl rfl ?_
    refine nz_ri .int (g_d dtbX1_drawnOn_0 14 rfl) rfl rfl ?_
    refine ⟨?_, rfl⟩
    unfold dayB
    rw [if_neg (by omega), if_pos rfl]
    first | rw [if_pos (by omega)] | rw [if_neg (by omega)]
  · refine cz_iload_n (pc' := 16) (g_d dtbX1_drawnOn_0 9 rfl) rfl rfl ?_
    refine nz_bipush (pc' := 18) (g_d dtbX1_drawnOn_0 10 rfl) (by decide) rfl ?_
    refine nz_isub (pc' := 19) (g_d dtbX1_drawnOn_0 11 rfl) rfl ?_
    refine cz_goto (pc' := 23) (g_d dtbX1_drawnOn_0 12 rfl) rfl ?_
    refine nz_ri .int (g_d dtbX1_drawnOn_0 14 rfl) rfl rfl ?_
    refine ⟨?_, rfl⟩
    unfold dayB
    rw [if_neg (by omega), if_pos rfl]
    first | rw [if_pos (by omega)] | rw [if_neg (by omega)]

set_option maxRecDepth 20000 in
set_option maxHeartbeats 4000000 in
theorem c_movedDay27 (G : Wd) (Z : ZS) (d : Int) (hd : 1 ≤ d ∧ d ≤ 28) : Cn G mX3_drawnOn 0 [some (.ref 27), some (iv (d)), none] [] Z (qi (fun r W => dayB 1 d = r ∧ Z = W)) := by
  refine cz_aload_n (pc' := 1) (g_d dtbX3_drawnOn_0 0 rfl) rfl rfl ?_
  refine cz_iload_n (pc' := 2) (g_d dtbX3_drawnOn_0 1 rfl) rfl rfl ?_
  refine nz_cVi (M' := mX6_drawnOn) (k := 27) (As := [iv (d)]) (S := []) (L := [some (.ref 27), some (iv (d)), none]) (pc' := 5) (g_d dtbX3_drawnOn_0 2 rfl) lk_X3_9_X3 okX6_drawnOn (by decide) rfl rfl rfl rfl (Nat.le_of_ble_eq_true rfl) (Nat.le_of_ble_eq_true rfl) (by decide) rfl (c_plainDay G Z 27 d) ?_
  rintro _ _ ⟨rfl, rfl⟩
  refine cz_istore_n (L' := [some (.ref 27), some (iv (d)), some (iv (d))]) (pc' := 6) (g_d dtbX3_drawnOn_0 3 rfl) (by decide) rfl rfl ?_
  refine cz_iload_n (pc' := 7) (g_d dtbX3_drawnOn_0 4 rfl) rfl rfl ?_
  refine nz_bipush (pc' := 9) (g_d dtbX3_drawnOn_0 5 rfl) (by decide) rfl ?_
  refine nz_irem (pc' := 10) (g_d dtbX3_drawnOn_0 6 rfl) (by omega) (by omega) rfl ?_
  refine nz_if_eq (tgt := 15) (pc' := 13) (g_d dtbX3_drawnOn_0 7 rfl) (by omega) rfl rfl (fun h10 => ?_) (fun h10 => ?_)
  · refine cz_iload_n (pc' := 16) (g_d dtbX3_drawnOn_0 10 rfl) rfl rfl ?_
    refine nz_bipush (pc' := 18) (g_d dtbX3_drawnOn_0 11 rfl) (by decide) rfl ?_
    refine nz_icmp_ne (tgt := 27) (pc' := 21) (g_d dtbX3_drawnOn_0 12 rfl) (by omega) (by omega) rfl rfl (fun h18 => ?_) (fun h18 => ?_)
    · refine cz_iload_n (pc' := 28) (g_d dtbX3_drawnOn_0 17 rfl) rfl rfl ?_
      refine nz_iconst (pc' := 29) (g_d dtbX3_drawnOn_0 18 rfl) rfl ?_
      refine nz_iadd (pc' := 30) (g_d dtbX3_drawnOn_0 19 rfl) rfl ?_
      refine nz_ri .int (g_d dtbX3_drawnOn_0 20 rfl) rfl rfl ?_
      refine ⟨?_, rfl⟩
      unfold dayB
      rw [if_pos (by omega)]
      first | rw [if_neg (by omega)] | rw [if_pos (by omega), if_pos (by omega)] | rw [if_pos (by omega), if_neg (by omega)]
    · refine cz_iload_n (pc' := 22) (g_d dtbX3_drawnOn_0 13 rfl) rfl rfl ?_
      refine nz_iconst (pc' := 23) (g_d dtbX3_drawnOn_0 14 rfl) rfl ?_
      refine nz_isub (pc' := 24) (g_d dtbX3_drawnOn_0 15 rfl) rfl ?_
      refine cz_goto (pc' := 30) (g_d dtbX3_drawnOn_0 16 rfl) rfl ?_
      refine nz_ri .int (g_d dtbX3_drawnOn_0 20 rfl) rfl rfl ?_
      refine ⟨?_, rfl⟩
      unfold dayB
      rw [if_pos (by omega)]
      first | rw [if_neg (by omega)] | rw [if_pos (by omega), if_pos (by omega)] | rw [if_pos (by omega), if_neg (by omega)]
  · refine cz_iload_n (pc' := 14) (g_d dtbX3_drawnOn_0 8 rfl) rfl rfl ?_
    refine nz_ri .int (g_d dtbX3_drawnOn_0 9 rfl) rfl rfl ?_
    refine ⟨?_, rfl⟩
    unfold dayB
    rw [if_pos (by omega)]
    first | rw [if_neg (by omega)] | rw [if_pos (by omega), if_pos (by omega)] | rw [if_pos (by omega), if_neg (by omega)]

set_option maxRecDepth 20000 in
set_option maxHeartbeats 4000000 in
theorem c_movedDay31 (G : Wd) (Z : ZS) (d : Int) (hd : 1 ≤ d ∧ d ≤ 28) : Cn G mX3_drawnOn 0 [some (.ref 31), some (iv (d)), none] [] Z (qi (fun r W => dayB 5 d = r ∧ Z = W)) := by
  refine cz_aload_n (pc' := 1) (g_d dtbX3_drawnOn_0 0 rfl) rfl rfl ?_
  refine cz_iload_n (pc' := 2) (g_d dtbX3_drawnOn_0 1 rfl) rfl rfl ?_
  refine nz_cVi (M' := mX6_drawnOn) (k := 31) (As := [iv (d)]) (S := []) (L := [some (.ref 31), some (iv (d)), none]) (pc' := 5) (g_d dtbX3_drawnOn_0 2 rfl) lk_X3_9_X5 okX6_drawnOn (by decide) rfl rfl rfl rfl (Nat.le_of_ble_eq_true rfl) (Nat.le_of_ble_eq_true rfl) (by decide) rfl (c_plainDay G Z 31 d) ?_
  rintro _ _ ⟨rfl, rfl⟩
  refine cz_istore_n (L' := [some (.ref 31), some (iv (d)), some (iv (d))]) (pc' := 6) (g_d dtbX3_drawnOn_0 3 rfl) (by decide) rfl rfl ?_
  refine cz_iload_n (pc' := 7) (g_d dtbX3_drawnOn_0 4 rfl) rfl rfl ?_
  refine nz_bipush (pc' := 9) (g_d dtbX3_drawnOn_0 5 rfl) (by decide) rfl ?_
  refine nz_irem (pc' := 10) (g_d dtbX3_drawnOn_0 6 rfl) (by omega) (by omega) rfl ?_
  refine nz_if_eq (tgt := 15) (pc' := 13) (g_d dtbX3_drawnOn_0 7 rfl) (by omega) rfl rfl (fun h10 => ?_) (fun h10 => ?_)
  · refine cz_iload_n (pc' := 16) (g_d dtbX3_drawnOn_0 10 rfl) rfl rfl ?_
    refine nz_bipush (pc' := 18) (g_d dtbX3_drawnOn_0 11 rfl) (by decide) rfl ?_
    refine nz_icmp_ne (tgt := 27) (pc' := 21) (g_d dtbX3_drawnOn_0 12 rfl) (by omega) (by omega) rfl rfl (fun h18 => ?_) (fun h18 => ?_)
    · refine cz_iload_n (pc' := 28) (g_d dtbX3_drawnOn_0 17 rfl) rfl rfl ?_
      refine nz_iconst (pc' := 29) (g_d dtbX3_drawnOn_0 18 rfl) rfl ?_
      refine nz_iadd (pc' := 30) (g_d dtbX3_drawnOn_0 19 rfl) rfl ?_
      refine nz_ri .int (g_d dtbX3_drawnOn_0 20 rfl) rfl rfl ?_
      refine ⟨?_, rfl⟩
      unfold dayB
      rw [if_pos (by omega)]
      first | rw [if_neg (by omega)] | rw [if_pos (by omega), if_pos (by omega)] | rw [if_pos (by omega), if_neg (by omega)]
    · refine cz_iload_n (pc' := 22) (g_d dtbX3_drawnOn_0 13 rfl) rfl rfl ?_
      refine nz_iconst (pc' := 23) (g_d dtbX3_drawnOn_0 14 rfl) rfl ?_
      refine nz_isub (pc' := 24) (g_d dtbX3_drawnOn_0 15 rfl) rfl ?_
      refine cz_goto (pc' := 30) (g_d dtbX3_drawnOn_0 16 rfl) rfl ?_
      refine nz_ri .int (g_d dtbX3_drawnOn_0 20 rfl) rfl rfl ?_
      refine ⟨?_, rfl⟩
      unfold dayB
      rw [if_pos (by omega)]
      first | rw [if_neg (by omega)] | rw [if_pos (by omega), if_pos (by omega)] | rw [if_pos (by omega), if_neg (by omega)]
  · refine cz_iload_n (pc' := 14) (g_d dtbX3_drawnOn_0 8 rfl) rfl rfl ?_
    refine nz_ri .int (g_d dtbX3_drawnOn_0 9 rfl) rfl rfl ?_
    refine ⟨?_, rfl⟩
    unfold dayB
    rw [if_pos (by omega)]
    first | rw [if_neg (by omega)] | rw [if_pos (by omega), if_pos (by omega)] | rw [if_pos (by omega), if_neg (by omega)]

set_option maxRecDepth 20000 in
set_option maxHeartbeats 4000000 in
theorem c_quarterPnd28 (G : Wd) (Z : ZS) (m p : Int) (hm : 0 ≤ m ∧ m ≤ 1000000000) (hp : 0 ≤ p ∧ p ≤ 99) : Cn G mX7_poundsIn 0 [some (.ref 28), some (iv (m)), some (iv (p))] [] Z (qi (fun r W => pndB 2 p m = r ∧ Z = W)) := by
  refine cz_iload_n (pc' := 1) (g_d dtbX7_poundsIn_0 0 rfl) rfl rfl ?_
  refine nz_iconst (pc' := 2) (g_d dtbX7_poundsIn_0 1 rfl) rfl ?_
  refine nz_irem (pc' := 3) (g_d dtbX7_poundsIn_0 2 rfl) (by omega) (by omega) rfl ?_
  refine nz_if_ne (tgt := 15) (pc' := 6) (g_d dtbX7_poundsIn_0 3 rfl) (by omega) rfl rfl (fun h3 => ?_) (fun h3 => ?_)
  · refine nz_iconst (pc' := 16) (g_d dtbX7_poundsIn_0 9 rfl) rfl ?_
    refine nz_ri .int (g_d dtbX7_poundsIn_0 10 rfl) rfl rfl ?_
    refine ⟨?_, rfl⟩
    unfold pndB
    rw [if_pos rfl]
    first | rw [if_pos (by omega)] | rw [if_neg (by omega)]
  · refine cz_aload_n (pc' := 7) (g_d dtbX7_poundsIn_0 4 rfl) rfl rfl ?_
    refine cz_iload_n (pc' := 8) (g_d dtbX7_poundsIn_0 5 rfl) rfl rfl ?_
    refine cz_iload_n (pc' := 9) (g_d dtbX7_poundsIn_0 6 rfl) rfl rfl ?_
    refine nz_cVi (M' := mX6_poundsIn) (k := 28) (As := [iv (m), iv (p)]) (S := []) (L := [some (.ref 28), some (iv (m)), some (iv (p))]) (pc' := 12) (g_d dtbX7_poundsIn_0 7 rfl) lk_X7_7_X7 okX6_poundsIn (by decide) rfl rfl rfl rfl (Nat.le_of_ble_eq_true rfl) (Nat.le_of_ble_eq_true rfl) (by decide) rfl (c_plainPnd G Z 28 m p) ?_
    rintro _ _ ⟨rfl, rfl⟩
    refine cz_goto (pc' := 16) (g_d dtbX7_poundsIn_0 8 rfl) rfl ?_
    refine nz_ri .int (g_d dtbX7_poundsIn_0 10 rfl) rfl rfl ?_
    refine ⟨?_, rfl⟩
    unfold pndB
    rw [if_pos rfl]
    first | rw [if_pos (by omega)] | rw [if_neg (by omega)]

set_option maxRecDepth 20000 in
set_option maxHeartbeats 4000000 in
theorem c_quarterPnd30 (G : Wd) (Z : ZS) (m p : Int) (hm : 0 ≤ m ∧ m ≤ 1000000000) (hp : 0 ≤ p ∧ p ≤ 99) : Cn G mX7_poundsIn 0 [some (.ref 30), some (iv (m)), some (iv (p))] [] Z (qi (fun r W => pndB 2 p m = r ∧ Z = W)) := by
  refine cz_iload_n (pc' := 1) (g_d dtbX7_poundsIn_0 0 rfl) rfl rfl ?_
  refine nz_iconst (pc' := 2) (g_d dtbX7_poundsIn_0 1 rfl) rfl ?_
  refine nz_irem (pc' := 3) (g_d dtbX7_poundsIn_0 2 rfl) (by omega) (by omega) rfl ?_
  refine nz_if_ne (tgt := 15) (pc' := 6) (g_d dtbX7_poundsIn_0 3 rfl) (by omega) rfl rfl (fun h3 => ?_) (fun h3 => ?_)
  · refine nz_iconst (pc' := 16) (g_d dtbX7_poundsIn_0 9 rfl) rfl ?_
    refine nz_ri .int (g_d dtbX7_poundsIn_0 10 rfl) rfl rfl ?_
    refine ⟨?_, rfl⟩
    unfold pndB
    rw [if_pos rfl]
    first | rw [if_pos (by omega)] | rw [if_neg (by omega)]
  · refine cz_aload_n (pc' := 7) (g_d dtbX7_poundsIn_0 4 rfl) rfl rfl ?_
    refine cz_iload_n (pc' := 8) (g_d dtbX7_poundsIn_0 5 rfl) rfl rfl ?_
    refine cz_iload_n (pc' := 9) (g_d dtbX7_poundsIn_0 6 rfl) rfl rfl ?_
    refine nz_cVi (M' := mX6_poundsIn) (k := 30) (As := [iv (m), iv (p)]) (S := []) (L := [some (.ref 30), some (iv (m)), some (iv (p))]) (pc' := 12) (g_d dtbX7_poundsIn_0 7 rfl) lk_X7_7_X9 okX6_poundsIn (by decide) rfl rfl rfl rfl (Nat.le_of_ble_eq_true rfl) (Nat.le_of_ble_eq_true rfl) (by decide) rfl (c_plainPnd G Z 30 m p) ?_
    rintro _ _ ⟨rfl, rfl⟩
    refine cz_goto (pc' := 16) (g_d dtbX7_poundsIn_0 8 rfl) rfl ?_
    refine nz_ri .int (g_d dtbX7_poundsIn_0 10 rfl) rfl rfl ?_
    refine ⟨?_, rfl⟩
    unfold pndB
    rw [if_pos rfl]
    first | rw [if_pos (by omega)] | rw [if_neg (by omega)]

set_option maxRecDepth 20000 in
set_option maxHeartbeats 4000000 in
theorem c_yearlyPnd (G : Wd) (Z : ZS) (m p : Int) (hm : 0 ≤ m ∧ m ≤ 1000000000) (hp : 0 ≤ p ∧ p ≤ 99) : Cn G mX9_poundsIn 0 [some (.ref 30), some (iv (m)), some (iv (p))] [] Z (qi (fun r W => pndB 4 p m = r ∧ Z = W)) := by
  refine cz_iload_n (pc' := 1) (g_d dtbX9_poundsIn_0 0 rfl) rfl rfl ?_
  refine nz_bipush (pc' := 3) (g_d dtbX9_poundsIn_0 1 rfl) (by decide) rfl ?_
  refine nz_irem (pc' := 4) (g_d dtbX9_poundsIn_0 2 rfl) (by omega) (by omega) rfl ?_
  refine nz_if_ne (tgt := 19) (pc' := 7) (g_d dtbX9_poundsIn_0 3 rfl) (by omega) rfl rfl (fun h4 => ?_) (fun h4 => ?_)
  · refine nz_iconst (pc' := 20) (g_d dtbX9_poundsIn_0 11 rfl) rfl ?_
    refine nz_ri .int (g_d dtbX9_poundsIn_0 12 rfl) rfl rfl ?_
    refine ⟨?_, rfl⟩
    unfold pndB
    first | rw [if_pos rfl, if_neg (by decide), if_pos rfl, if_pos (by omega), if_pos (by omega)] | rw [if_neg (by decide), if_pos rfl, if_neg (by omega)]
  · refine nz_bipush (pc' := 9) (g_d dtbX9_poundsIn_0 4 rfl) (by decide) rfl ?_
    refine cz_aload_n (pc' := 10) (g_d dtbX9_poundsIn_0 5 rfl) rfl rfl ?_
    refine cz_iload_n (pc' := 11) (g_d dtbX9_poundsIn_0 6 rfl) rfl rfl ?_
    refine cz_iload_n (pc' := 12) (g_d dtbX9_poundsIn_0 7 rfl) rfl rfl ?_
    refine nz_cVi (M' := mX7_poundsIn) (k := 30) (As := [iv (m), iv (p)]) (S := [iv 10]) (L := [some (.ref 30), some (iv (m)), some (iv (p))]) (pc' := 15) (g_d dtbX9_poundsIn_0 8 rfl) lk_X9_7_X9 okX7_poundsIn (by decide) rfl rfl rfl rfl (Nat.le_of_ble_eq_true rfl) (Nat.le_of_ble_eq_true rfl) (by decide) rfl (c_quarterPnd30 G Z m p hm hp) ?_
    rintro _ _ ⟨rfl, rfl⟩
    refine nz_imul (pc' := 16) (g_d dtbX9_poundsIn_0 9 rfl) rfl ?_
    refine cz_goto (pc' := 20) (g_d dtbX9_poundsIn_0 10 rfl) rfl ?_
    refine nz_ri .int (g_d dtbX9_poundsIn_0 12 rfl) rfl rfl ?_
    refine ⟨?_, rfl⟩
    unfold pndB
    first | rw [if_pos rfl, if_neg (by decide), if_pos rfl, if_pos (by omega), if_pos (by omega)] | rw [if_neg (by decide), if_pos rfl, if_neg (by omega)]

set_option maxRecDepth 20000 in
set_option maxHeartbeats 4000000 in
theorem c_payPnd (G : Wd) (Z : ZS) (m p : Int) : Cn G mX5_poundsIn 0 [some (.ref 31), some (iv (m)), some (iv (p))] [] Z (qi (fun r W => pndB 5 p m = r ∧ Z = W)) := by
  refine cz_aload_n (pc' := 1) (g_d dtbX5_poundsIn_0 0 rfl) rfl rfl ?_
  refine cz_iload_n (pc' := 2) (g_d dtbX5_poundsIn_0 1 rfl) rfl rfl ?_
  refine cz_iload_n (pc' := 3) (g_d dtbX5_poundsIn_0 2 rfl) rfl rfl ?_
  refine nz_cVi (M' := mX6_poundsIn) (k := 31) (As := [iv (m), iv (p)]) (S := []) (L := [some (.ref 31), some (iv (m)), some (iv (p))]) (pc' := 6) (g_d dtbX5_poundsIn_0 3 rfl) lk_X5_7 okX6_poundsIn (by decide) rfl rfl rfl rfl (Nat.le_of_ble_eq_true rfl) (Nat.le_of_ble_eq_true rfl) (by decide) rfl (c_plainPnd G Z 31 m p) ?_
  rintro _ _ ⟨rfl, rfl⟩
  refine nz_ineg (pc' := 7) (g_d dtbX5_poundsIn_0 4 rfl) rfl ?_
  refine nz_ri .int (g_d dtbX5_poundsIn_0 5 rfl) rfl rfl ?_
  refine ⟨?_, rfl⟩
  unfold pndB
  rw [if_neg (by decide), if_neg (by decide), if_pos rfl]

set_option maxRecDepth 20000 in
set_option maxHeartbeats 4000000 in
theorem c_numbered (G : Wd) (Z : ZS) (κ : Nat) (hκ : κ < 6) : Cn G mX2_numbered 0 [some (.ref 25), some (iv ((κ : Int)))] [] Z (qr (fun r W => 26 + κ = r ∧ Z = W)) := by
  refine cz_iload_n (pc' := 1) (g_d dtbX2_numbered_0 0 rfl) rfl rfl ?_
  rcases (show (κ : Int) = 1 ∨ (κ : Int) = 2 ∨ (κ : Int) = 3 ∨ (κ : Int) = 4 ∨ (κ : Int) = 5 ∨ ((κ : Int) < 1 ∨ 5 < (κ : Int)) from by omega) with h1 | h1 | h1 | h1 | h1 | h1
  · refine nz_tabIn (tgt := 36) 0 (g_d dtbX2_numbered_0 1 rfl) (by omega) (by omega) (by omega) rfl rfl ?_
    refine cz_aload_n (pc' := 37) (g_d dtbX2_numbered_0 2 rfl) rfl rfl ?_
    refine nz_getf (v := .ref 27) (pc' := 40) (g_d dtbX2_numbered_0 3 rfl) gf_X2_19 (by decide) rfl rfl rfl ?_
    refine nz_rr (g_d dtbX2_numbered_0 4 rfl) rfl ?_
    exact ⟨by omega, rfl⟩
  · refine nz_tabIn (tgt := 41) 1 (g_d dtbX2_numbered_0 1 rfl) (by omega) (by omega) (by omega) rfl rfl ?_
    refine cz_aload_n (pc' := 42) (g_d dtbX2_numbered_0 5 rfl) rfl rfl ?_
    refine nz_getf (v := .ref 28) (pc' := 45) (g_d dtbX2_numbered_0 6 rfl) gf_X2_26 (by decide) rfl rfl rfl ?_
    refine nz_rr (g_d dtbX2_numbered_0 7 rfl) rfl ?_
    exact ⟨by omega, rfl⟩
  · refine nz_tabIn (tgt := 46) 2 (g_d dtbX2_numbered_0 1 rfl) (by omega) (by omega) (by omega) rfl rfl ?_
    refine cz_aload_n (pc' := 47) (g_d dtbX2_numbered_0 8 rfl) rfl rfl ?_
    refine nz_getf (v := .ref 29) (pc' := 50) (g_d dtbX2_numbered_0 9 rfl) gf_X2_33 (by decide) rfl rfl rfl ?_
    refine nz_rr (g_d dtbX2_numbered_0 10 rfl) rfl ?_
    exact ⟨by omega, rfl⟩
  · refine nz_tabIn (tgt := 51) 3 (g_d dtbX2_numbered_0 1 rfl) (by omega) (by omega) (by omega) rfl rfl ?_
    refine cz_aload_n (pc' := 52) (g_d dtbX2_numbered_0 11 rfl) rfl rfl ?_
    refine nz_getf (v := .ref 30) (pc' := 55) (g_d dtbX2_numbered_0 12 rfl) gf_X2_40 (by decide) rfl rfl rfl ?_
    refine nz_rr (g_d dtbX2_numbered_0 13 rfl) rfl ?_
    exact ⟨by omega, rfl⟩
  · refine nz_tabIn (tgt := 56) 4 (g_d dtbX2_numbered_0 1 rfl) (by omega) (by omega) (by omega) rfl rfl ?_
    refine cz_aload_n (pc' := 57) (g_d dtbX2_numbered_0 14 rfl) rfl rfl ?_
    refine nz_getf (v := .ref 31) (pc' := 60) (g_d dtbX2_numbered_0 15 rfl) gf_X2_47 (by decide) rfl rfl rfl ?_
    refine nz_rr (g_d dtbX2_numbered_0 16 rfl) rfl ?_
    exact ⟨by omega, rfl⟩
  · refine nz_tabOut (tgt := 61) (g_d dtbX2_numbered_0 1 rfl) (by omega) h1 rfl ?_
    refine cz_aload_n (pc' := 62) (g_d dtbX2_numbered_0 17 rfl) rfl rfl ?_
    refine nz_getf (v := .ref 26) (pc' := 65) (g_d dtbX2_numbered_0 18 rfl) gf_X2_10 (by decide) rfl rfl rfl ?_
    refine nz_rr (g_d dtbX2_numbered_0 19 rfl) rfl ?_
    exact ⟨by omega, rfl⟩

/-- on which day, whichever kind it is -/
def g_KD (own : String) (ins : Instr) : Prop := g_LkV own ins RX6 1 mX6_drawnOn ∧ g_LkV own ins RX3 1 mX3_drawnOn ∧ g_LkV own ins RX7 1 mX6_drawnOn ∧ g_LkV own ins RX1 1 mX1_drawnOn ∧ g_LkV own ins RX9 1 mX6_drawnOn ∧ g_LkV own ins RX5 1 mX3_drawnOn
def g_KP (own : String) (ins : Instr) : Prop := g_LkV own ins RX6 2 mX6_poundsIn ∧ g_LkV own ins RX3 2 mX6_poundsIn ∧ g_LkV own ins RX7 2 mX7_poundsIn ∧ g_LkV own ins RX1 2 mX6_poundsIn ∧ g_LkV own ins RX9 2 mX9_poundsIn ∧ g_LkV own ins RX5 2 mX5_poundsIn
theorem kd_X4 : g_KD RX4 (.invokevirtual 61) := ⟨lk_X4_61_X6, lk_X4_61_X3, lk_X4_61_X7, lk_X4_61_X1, lk_X4_61_X9, lk_X4_61_X5⟩
theorem kp_X4 : g_KP RX4 (.invokevirtual 75) := ⟨lk_X4_75_X6, lk_X4_75_X3, lk_X4_75_X7, lk_X4_75_X1, lk_X4_75_X9, lk_X4_75_X5⟩
theorem kd_X10 : g_KD RX10 (.invokevirtual 133) := ⟨lk_X10_133_X6, lk_X10_133_X3, lk_X10_133_X7, lk_X10_133_X1, lk_X10_133_X9, lk_X10_133_X5⟩
theorem kp_X10 : g_KP RX10 (.invokevirtual 138) := ⟨lk_X10_138_X6, lk_X10_138_X3, lk_X10_138_X7, lk_X10_138_X1, lk_X10_138_X9, lk_X10_138_X5⟩
section
variable {G : Wd} {M : MD} {pc pc' : Nat} {L : List (Option Value)} {S : List Value} {Z : ZS} {Q : Option Value → ZS → Prop}
theorem nz_cD {κ : Nat} {d : Int} {ins : Instr} (hd : decode M.2.1 pc = .ok (ins, 3)) (hK : g_KD M.1.cls ins) (hκ : κ < 6) (hdd : 1 ≤ d ∧ d ≤ 28) (hcat : (S.map fun v => v.category).sum ≤ 8) (hf : 2 ≤ M.2.2.2.2.1) (hl : 43 ≤ M.2.2.2.2.2) (hp : pc + 3 = pc') (h : Cn G M pc' L (iv (dayB κ d) :: S) Z Q) : Cn G M pc L (iv d :: .ref (26 + κ) :: S) Z Q := by
  obtain ⟨k0, k1, k2, k3, k4, k5⟩ := hK
  have r6 : mX6_drawnOn.2.2.2.2.1 + 1 ≤ M.2.2.2.2.1 ∧ 8 + (mX6_drawnOn.2.2.1 + 11) + mX6_drawnOn.2.2.2.2.2 ≤ M.2.2.2.2.2 := ⟨Nat.le_trans (by decide) hf, Nat.le_trans (by decide) hl⟩
  have r3 : mX3_drawnOn.2.2.2.2.1 + 1 ≤ M.2.2.2.2.1 ∧ 8 + (mX3_drawnOn.2.2.1 + 11) + mX3_drawnOn.2.2.2.2.2 ≤ M.2.2.2.2.2 := ⟨Nat.le_trans (by decide) hf, Nat.le_trans (by decide) hl⟩
  have r1 : mX1_drawnOn.2.2.2.2.1 + 1 ≤ M.2.2.2.2.1 ∧ 8 + (mX1_drawnOn.2.2.1 + 11) + mX1_drawnOn.2.2.2.2.2 ≤ M.2.2.2.2.2 := ⟨Nat.le_trans (by decide) hf, Nat.le_trans (by decide) hl⟩
  rcases (show κ = 0 ∨ κ = 1 ∨ κ = 2 ∨ κ = 3 ∨ κ = 4 ∨ κ = 5 by omega) with rfl | rfl | rfl | rfl | rfl | rfl
  · refine nz_cVi (As := [iv d]) (k := 26) (S := S) hd k0 okX6_drawnOn (by decide) rfl rfl rfl rfl (Nat.le_of_ble_eq_true rfl) hcat r6 hp (c_plainDay G Z 26 d) ?_
    rintro _ _ ⟨rfl, rfl⟩
    exact h
  · refine nz_cVi (As := [iv d]) (k := 27) (S := S) hd k1 okX3_drawnOn (by decide) rfl rfl rfl rfl (Nat.le_of_ble_eq_true rfl) hcat r3 hp (c_movedDay27 G Z d hdd) ?_
    rintro _ _ ⟨rfl, rfl⟩
    exact h
  · refine nz_cVi (As := [iv d]) (k := 28) (S := S) hd k2 okX6_drawnOn (by decide) rfl rfl rfl rfl (Nat.le_of_ble_eq_true rfl) hcat r6 hp (c_plainDay G Z 28 d) ?_
    rintro _ _ ⟨rfl, rfl⟩
    exact h
  · refine nz_cVi (As := [iv d]) (k := 29) (S := S) hd k3 okX1_drawnOn (by decide) rfl rfl rfl rfl (Nat.le_of_ble_eq_true rfl) hcat r1 hp (c_cardDay G Z d hdd) ?_
    rintro _ _ ⟨rfl, rfl⟩
    exact h
  · refine nz_cVi (As := [iv d]) (k := 30) (S := S) hd k4 okX6_drawnOn (by decide) rfl rfl rfl rfl (Nat.le_of_ble_eq_true rfl) hcat r6 hp (c_plainDay G Z 30 d) ?_
    rintro _ _ ⟨rfl, rfl⟩
    exact h
  · refine nz_cVi (As := [iv d]) (k := 31) (S := S) hd k5 okX3_drawnOn (by decide) rfl rfl rfl rfl (Nat.le_of_ble_eq_true rfl) hcat r3 hp (c_movedDay31 G Z d hdd) ?_
    rintro _ _ ⟨rfl, rfl⟩
    exact h
theorem nz_cP {κ : Nat} {m p : Int} {ins : Instr} (hd : decode M.2.1 pc = .ok (ins, 3)) (hK : g_KP M.1.cls ins) (hκ : κ < 6) (hm : 0 ≤ m ∧ m ≤ 1000000000) (hpp : 0 ≤ p ∧ p ≤ 99) (hcat : (S.map fun v => v.category).sum ≤ 8) (hf : 3 ≤ M.2.2.2.2.1) (hl : 66 ≤ M.2.2.2.2.2) (hp : pc + 3 = pc') (h : Cn G M pc' L (iv (pndB κ p m) :: S) Z Q) : Cn G M pc L (iv p :: iv m :: .ref (26 + κ) :: S) Z Q := by
  obtain ⟨k0, k1, k2, k3, k4, k5⟩ := hK
  have r6 : mX6_poundsIn.2.2.2.2.1 + 1 ≤ M.2.2.2.2.1 ∧ 8 + (mX6_poundsIn.2.2.1 + 11) + mX6_poundsIn.2.2.2.2.2 ≤ M.2.2.2.2.2 := ⟨Nat.le_trans (by decide) hf, Nat.le_trans (by decide) hl⟩
  have r7 : mX7_poundsIn.2.2.2.2.1 + 1 ≤ M.2.2.2.2.1 ∧ 8 + (mX7_poundsIn.2.2.1 + 11) + mX7_poundsIn.2.2.2.2.2 ≤ M.2.2.2.2.2 := ⟨Nat.le_trans (by decide) hf, Nat.le_trans (by decide) hl⟩
  have r9 : mX9_poundsIn.2.2.2.2.1 + 1 ≤ M.2.2.2.2.1 ∧ 8 + (mX9_poundsIn.2.2.1 + 11) + mX9_poundsIn.2.2.2.2.2 ≤ M.2.2.2.2.2 := ⟨Nat.le_trans (by decide) hf, Nat.le_trans (by decide) hl⟩
  have r5 : mX5_poundsIn.2.2.2.2.1 + 1 ≤ M.2.2.2.2.1 ∧ 8 + (mX5_poundsIn.2.2.1 + 11) + mX5_poundsIn.2.2.2.2.2 ≤ M.2.2.2.2.2 := ⟨Nat.le_trans (by decide) hf, Nat.le_trans (by decide) hl⟩
  rcases (show κ = 0 ∨ κ = 1 ∨ κ = 2 ∨ κ = 3 ∨ κ = 4 ∨ κ = 5 by omega) with rfl | rfl | rfl | rfl | rfl | rfl
  · refine nz_cVi (As := [iv m, iv p]) (k := 26) (S := S) hd k0 okX6_poundsIn (by decide) rfl rfl rfl rfl (Nat.le_of_ble_eq_true rfl) hcat r6 hp (c_plainPnd G Z 26 m p) ?_
    rintro _ _ ⟨rfl, rfl⟩
    exact h
  · refine nz_cVi (As := [iv m, iv p]) (k := 27) (S := S) hd k1 okX6_poundsIn (by decide) rfl rfl rfl rfl (Nat.le_of_ble_eq_true rfl) hcat r6 hp (c_plainPnd G Z 27 m p) ?_
    rintro _ _ ⟨rfl, rfl⟩
    exact h
  · refine nz_cVi (As := [iv m, iv p]) (k := 28) (S := S) hd k2 okX7_poundsIn (by decide) rfl rfl rfl rfl (Nat.le_of_ble_eq_true rfl) hcat r7 hp (c_quarterPnd28 G Z m p hm hpp) ?_
    rintro _ _ ⟨rfl, rfl⟩
    exact h
  · refine nz_cVi (As := [iv m, iv p]) (k := 29) (S := S) hd k3 okX6_poundsIn (by decide) rfl rfl rfl rfl (Nat.le_of_ble_eq_true rfl) hcat r6 hp (c_plainPnd G Z 29 m p) ?_
    rintro _ _ ⟨rfl, rfl⟩
    exact h
  · refine nz_cVi (As := [iv m, iv p]) (k := 30) (S := S) hd k4 okX9_poundsIn (by decide) rfl rfl rfl rfl (Nat.le_of_ble_eq_true rfl) hcat r9 hp (c_yearlyPnd G Z m p hm hpp) ?_
    rintro _ _ ⟨rfl, rfl⟩
    exact h
  · refine nz_cVi (As := [iv m, iv p]) (k := 31) (S := S) hd k5 okX5_poundsIn (by decide) rfl rfl rfl rfl (Nat.le_of_ble_eq_true rfl) hcat r5 hp (c_payPnd G Z m p) ?_
    rintro _ _ ⟨rfl, rfl⟩
    exact h
end
end
section
/-! more of numbers: quotients of negative ones, signs, Math's own -/
theorem d32n {a b : Int} (ha : -2147483647 ≤ a ∧ a < 0) (hb : 1 ≤ b ∧ b ≤ 2147483647) : Int32.ofInt a / Int32.ofInt b = Int32.ofInt (-((-a) / b)) := by
  have h1 := Int.ediv_nonneg (show 0 ≤ -a by omega) (show 0 ≤ b by omega)
  have h2 := Int.ediv_le_self b (show 0 ≤ -a by omega)
  have e : a.tdiv b = -((-a) / b) := by
    have h3 := Int.neg_tdiv (-a) b
    rw [Int.neg_neg] at h3
    rw [h3, Int.tdiv_eq_ediv_of_nonneg (show 0 ≤ -a by omega)]
  apply Int32.toInt_inj.mp
  rw [Int32.toInt_div, t32 (by omega), t32 (by omega), t32 (by omega), e, Int.bmod_eq_of_le (by omega) (by omega)]
theorem xr32 {a b : Int} (ha : -2147483648 ≤ a ∧ a ≤ 2147483647) (hb : 0 ≤ b ∧ b ≤ 2147483647) : (0 : Int32) ≤ Int32.ofInt a ^^^ Int32.ofInt b ↔ 0 ≤ a := by
  have key : ∀ v : Int32, (0 : Int32) ≤ v ↔ v.toBitVec.msb = false := fun v => by
    rw [Int32.le_iff_toInt_le, BitVec.msb_eq_toInt]
    show (0 : Int) ≤ v.toInt ↔ _
    have e : v.toInt = v.toBitVec.toInt := rfl
    rw [e]
    simp
  have hA := key (Int32.ofInt a)
  have hB := key (Int32.ofInt b)
  have zA : (0 : Int32) ≤ Int32.ofInt a ↔ 0 ≤ a := le32 (a := 0) (by omega) ha
  have zB : (0 : Int32) ≤ Int32.ofInt b ↔ 0 ≤ b := le32 (a := 0) (by omega) (by omega)
  rw [key, show (Int32.ofInt a ^^^ Int32.ofInt b).toBitVec = (Int32.ofInt a).toBitVec ^^^ (Int32.ofInt b).toBitVec from rfl, BitVec.msb_xor, hB.mp (zB.mpr hb.1), ← zA, hA]
  simp
section
variable {G : Wd} {M M' : MD} {pc pc' : Nat} {L L' : List (Option Value)} {S : List Value} {Z : ZS} {Q Q' : Option Value → ZS → Prop}
theorem nz_iremn {a b : Int} (hd : decode M.2.1 pc = .ok (.irem, 1)) (ha : -2147483647 ≤ a ∧ a < 0) (hb : 1 ≤ b ∧ b ≤ 2147483647) (hp : pc + 1 = pc') (h : Cn G M pc' L (iv (-((-a) % b)) :: S) Z Q) : Cn G M pc L (iv b :: iv a :: S) Z Q := cz_irem hd (n0_32 hb) hp (by
  rw [d32n ha hb, ← Int32.ofInt_mul, ← Int32.ofInt_sub, show a - -((-a) / b) * b = -((-a) % b) by rw [Int.emod_def, Int.neg_mul, Int.mul_comm b]; omega]; exact h)
theorem nz_idivn {a b : Int} (hd : decode M.2.1 pc = .ok (.idiv, 1)) (ha : -2147483647 ≤ a ∧ a < 0) (hb : 1 ≤ b ∧ b ≤ 2147483647) (hp : pc + 1 = pc') (h : Cn G M pc' L (iv (-((-a) / b)) :: S) Z Q) : Cn G M pc L (iv b :: iv a :: S) Z Q := cz_idiv hd (n0_32 hb) hp (by rw [d32n ha hb]; exact h)
/-- the sign of a number, by ixor with one that isn't below 0 -/
theorem nz_xge_t {a b off : Int} {tgt : Nat} (hd : decode M.2.1 pc = .ok (.ixor, 1)) (hd2 : decode M.2.1 (pc + 1) = .ok (.ifCond .ge off, 3)) (ha : 0 ≤ a ∧ a ≤ 2147483647) (hb : 0 ≤ b ∧ b ≤ 2147483647) (ht : ((pc + 1 : Nat) : Int) + off = (tgt : Int)) (h : Cn G M tgt L S Z Q) : Cn G M pc L (iv b :: iv a :: S) Z Q :=
  cz_ixor hd rfl (cz_if_ge hd2 ht rfl (fun _ => h) (fun q => absurd ((xr32 (by omega) hb).mpr ha.1) q))
theorem nz_xge_f {a b off : Int} (hd : decode M.2.1 pc = .ok (.ixor, 1)) (hd2 : decode M.2.1 (pc + 1) = .ok (.ifCond .ge off, 3)) (ha : -2147483648 ≤ a ∧ a < 0) (hb : 0 ≤ b ∧ b ≤ 2147483647) (ht : 0 ≤ ((pc + 1 : Nat) : Int) + off) (hp : pc + 4 = pc') (h : Cn G M pc' L S Z Q) : Cn G M pc L (iv b :: iv a :: S) Z Q :=
  cz_ixor hd rfl (cz_if_ge (tgt := (((pc + 1 : Nat) : Int) + off).toNat) hd2 (by omega) hp (fun q => absurd ((xr32 (by omega) hb).mp q) (by omega)) (fun _ => h))
end
theorem fdiv_neg {x y : Int} (hx : x < 0) (hy : 1 ≤ y) : x / y = if -((-x) / y) * y = x then -((-x) / y) else -((-x) / y) - 1 := by
  have h1 := Int.emod_add_mul_ediv (-x) y
  have h2 := Int.emod_nonneg (-x) (show y ≠ 0 by omega)
  have h3 := Int.emod_lt_of_pos (-x) (show 0 < y by omega)
  have hc : y * ((-x) / y) = (-x) / y * y := Int.mul_comm _ _
  split
  · rename_i e
    have : x = y * (-((-x) / y)) := by rw [Int.mul_comm]; exact e.symm
    conv => lhs; rw [this]
    exact Int.mul_ediv_cancel_left _ (by omega)
  · rename_i e
    have hq : x = y * (-((-x) / y) - 1) + (y - (-x) % y) := by rw [Int.mul_sub, Int.mul_neg]; omega
    have hr0 : (-x) % y ≠ 0 := fun z => e (by rw [Int.neg_mul]; omega)
    conv => lhs; rw [hq]
    rw [Int.mul_add_ediv_left _ _ (by omega), Int.ediv_eq_zero_of_lt (a := y - (-x) % y) (b := y) (by omega) (by omega)]
    omega
end
section
/-! Math's own; what a book tells, by its row -/
theorem br1_fig {Z : ZS} {f : Row} (h : BR Z 1 f) {j : Nat} (hj : j < 6) : Z 2 j = f j := h.1 j hj
theorem br1_4 {Z : ZS} {f : Row} (h : BR Z 1 f) : Z 1 4 = f 6 := h.2.1
theorem br1_5 {Z : ZS} {f : Row} (h : BR Z 1 f) : Z 1 5 = f 28 := h.2.2.2.1
theorem br1_6 {Z : ZS} {f : Row} (h : BR Z 1 f) : Z 1 6 = f 59 := h.2.2.2.2.2.1
theorem bk1 : Bk 1 := Or.inl rfl
theorem c_kindR (G : Wd) (Z : ZS) (b : Nat) (f : Row) (hB : BR Z 1 f) (hb : b < 7) (hb2 : (b : Int) < f 6) : Cn G mX0_kindAt 0 [some (.ref 1), some (iv (b : Int))] [] Z (qi (fun r W => f (7 + b) = r ∧ Z = W)) := nz_wi (c_kindAt G Z 1 b bk1 hb) (fun r W h => ⟨(hB.2.2.1 b hb hb2).1.symm.trans h.1, h.2⟩)
theorem c_dayR (G : Wd) (Z : ZS) (b : Nat) (f : Row) (hB : BR Z 1 f) (hb : b < 7) (hb2 : (b : Int) < f 6) : Cn G mX0_dayAt 0 [some (.ref 1), some (iv (b : Int))] [] Z (qi (fun r W => f (14 + b) = r ∧ Z = W)) := nz_wi (c_dayAt G Z 1 b bk1 hb) (fun r W h => ⟨(hB.2.2.1 b hb hb2).2.1.symm.trans h.1, h.2⟩)
theorem c_poundsR (G : Wd) (Z : ZS) (b : Nat) (f : Row) (hB : BR Z 1 f) (hb : b < 7) (hb2 : (b : Int) < f 6) : Cn G mX0_poundsAt 0 [some (.ref 1), some (iv (b : Int))] [] Z (qi (fun r W => f (21 + b) = r ∧ Z = W)) := nz_wi (c_poundsAt G Z 1 b bk1 hb) (fun r W h => ⟨(hB.2.2.1 b hb hb2).2.2.symm.trans h.1, h.2⟩)
theorem c_noteR (G : Wd) (Z : ZS) (i p : Nat) (f : Row) (hB : BR Z 1 f) (hi : i < 6) (hi2 : (i : Int) < f 28) (hp : p < 5) : Cn G mX0_notePart 0 [some (.ref 1), some (iv (i : Int)), some (iv (p : Int))] [] Z (qi (fun r W => f (29 + 5 * i + p) = r ∧ Z = W)) := nz_wi (c_notePart G Z 1 i p bk1 hi hp) (fun r W h => ⟨(hB.2.2.2.2.1 i hi hi2 p hp).symm.trans h.1, h.2⟩)

set_option maxRecDepth 20000 in
set_option maxHeartbeats 4000000 in
theorem c_max (G : Wd) (Z : ZS) (a b : Int) (ha : -2147483648 ≤ a ∧ a ≤ 2147483647) (hb : -2147483648 ≤ b ∧ b ≤ 2147483647) : Cn G mJ9_max_7cf53 0 [some (iv (a)), some (iv (b))] [] Z (qi (fun r W => max a b = r ∧ Z = W)) := by
  refine cz_iload_n (pc' := 1) (g_d dtbJ9_max_7cf53_0 0 rfl) rfl rfl ?_
  refine cz_iload_n (pc' := 2) (g_d dtbJ9_max_7cf53_0 1 rfl) rfl rfl ?_
  refine nz_icmp_lt (tgt := 9) (pc' := 5) (g_d dtbJ9_max_7cf53_0 2 rfl) (by omega) (by omega) rfl rfl (fun h2 => ?_) (fun h2 => ?_)
  · refine cz_iload_n (pc' := 10) (g_d dtbJ9_max_7cf53_0 5 rfl) rfl rfl ?_
    refine nz_ri .int (g_d dtbJ9_max_7cf53_0 6 rfl) rfl rfl ?_
    exact ⟨by omega, rfl⟩
  · refine cz_iload_n (pc' := 6) (g_d dtbJ9_max_7cf53_0 3 rfl) rfl rfl ?_
    refine cz_goto (pc' := 10) (g_d dtbJ9_max_7cf53_0 4 rfl) rfl ?_
    refine nz_ri .int (g_d dtbJ9_max_7cf53_0 6 rfl) rfl rfl ?_
    exact ⟨by omega, rfl⟩

set_option maxRecDepth 20000 in
set_option maxHeartbeats 4000000 in
theorem c_min (G : Wd) (Z : ZS) (a b : Int) (ha : -2147483648 ≤ a ∧ a ≤ 2147483647) (hb : -2147483648 ≤ b ∧ b ≤ 2147483647) : Cn G mJ9_min_7cf53 0 [some (iv (a)), some (iv (b))] [] Z (qi (fun r W => min a b = r ∧ Z = W)) := by
  refine cz_iload_n (pc' := 1) (g_d dtbJ9_min_7cf53_0 0 rfl) rfl rfl ?_
  refine cz_iload_n (pc' := 2) (g_d dtbJ9_min_7cf53_0 1 rfl) rfl rfl ?_
  refine nz_icmp_gt (tgt := 9) (pc' := 5) (g_d dtbJ9_min_7cf53_0 2 rfl) (by omega) (by omega) rfl rfl (fun h2 => ?_) (fun h2 => ?_)
  · refine cz_iload_n (pc' := 10) (g_d dtbJ9_min_7cf53_0 5 rfl) rfl rfl ?_
    refine nz_ri .int (g_d dtbJ9_min_7cf53_0 6 rfl) rfl rfl ?_
    exact ⟨by omega, rfl⟩
  · refine cz_iload_n (pc' := 6) (g_d dtbJ9_min_7cf53_0 3 rfl) rfl rfl ?_
    refine cz_goto (pc' := 10) (g_d dtbJ9_min_7cf53_0 4 rfl) rfl ?_
    refine nz_ri .int (g_d dtbJ9_min_7cf53_0 6 rfl) rfl rfl ?_
    exact ⟨by omega, rfl⟩

set_option maxRecDepth 20000 in
set_option maxHeartbeats 4000000 in
theorem c_fmodp (G : Wd) (Z : ZS) (x : Int) (hx : 0 ≤ x ∧ x ≤ 1000000000) : Cn G mJ9_floorMod_7cf53 0 [some (iv (x)), some (iv 28), none] [] Z (qi (fun r W => x % 28 = r ∧ Z = W)) := by
  refine cz_iload_n (pc' := 1) (g_d dtbJ9_floorMod_7cf53_0 0 rfl) rfl rfl ?_
  refine cz_iload_n (pc' := 2) (g_d dtbJ9_floorMod_7cf53_0 1 rfl) rfl rfl ?_
  refine nz_irem (pc' := 3) (g_d dtbJ9_floorMod_7cf53_0 2 rfl) (by omega) (by omega) rfl ?_
  refine cz_istore_n (L' := [some (iv (x)), some (iv 28), some (iv (x % 28))]) (pc' := 4) (g_d dtbJ9_floorMod_7cf53_0 3 rfl) (by decide) rfl rfl ?_
  refine cz_iload_n (pc' := 5) (g_d dtbJ9_floorMod_7cf53_0 4 rfl) rfl rfl ?_
  refine cz_iload_n (pc' := 6) (g_d dtbJ9_floorMod_7cf53_0 5 rfl) rfl rfl ?_
  refine nz_xge_t (tgt := 18) (g_d dtbJ9_floorMod_7cf53_0 6 rfl) (g_d dtbJ9_floorMod_7cf53_0 7 rfl) (by omega) (by omega) rfl ?_
  refine cz_iload_n (pc' := 19) (g_d dtbJ9_floorMod_7cf53_0 14 rfl) rfl rfl ?_
  refine nz_ri .int (g_d dtbJ9_floorMod_7cf53_0 15 rfl) rfl rfl ?_
  exact ⟨by omega, rfl⟩

set_option maxRecDepth 20000 in
set_option maxHeartbeats 4000000 in
theorem c_fmodn (G : Wd) (Z : ZS) (x : Int) (hx : -1000000000 ≤ x ∧ x < 0) : Cn G mJ9_floorMod_7cf53 0 [some (iv (x)), some (iv 28), none] [] Z (qi (fun r W => x % 28 = r ∧ Z = W)) := by
  refine cz_iload_n (pc' := 1) (g_d dtbJ9_floorMod_7cf53_0 0 rfl) rfl rfl ?_
  refine cz_iload_n (pc' := 2) (g_d dtbJ9_floorMod_7cf53_0 1 rfl) rfl rfl ?_
  refine nz_iremn (pc' := 3) (g_d dtbJ9_floorMod_7cf53_0 2 rfl) (by omega) (by omega) rfl ?_
  refine cz_istore_n (L' := [some (iv (x)), some (iv 28), some (iv (-((-x) % 28)))]) (pc' := 4) (g_d dtbJ9_floorMod_7cf53_0 3 rfl) (by decide) rfl rfl ?_
  refine cz_iload_n (pc' := 5) (g_d dtbJ9_floorMod_7cf53_0 4 rfl) rfl rfl ?_
  refine cz_iload_n (pc' := 6) (g_d dtbJ9_floorMod_7cf53_0 5 rfl) rfl rfl ?_
  refine nz_xge_f (pc' := 10) (g_d dtbJ9_floorMod_7cf53_0 6 rfl) (g_d dtbJ9_floorMod_7cf53_0 7 rfl) (by omega) (by omega) (by decide) rfl ?_
  refine cz_iload_n (pc' := 11) (g_d dtbJ9_floorMod_7cf53_0 8 rfl) rfl rfl ?_
  refine nz_if_eq (tgt := 18) (pc' := 14) (g_d dtbJ9_floorMod_7cf53_0 9 rfl) (by omega) rfl rfl (fun h11 => ?_) (fun h11 => ?_)
  · refine cz_iload_n (pc' := 19) (g_d dtbJ9_floorMod_7cf53_0 14 rfl) rfl rfl ?_
    refine nz_ri .int (g_d dtbJ9_floorMod_7cf53_0 15 rfl) rfl rfl ?_
    exact ⟨by omega, rfl⟩
  · refine cz_iload_n (pc' := 15) (g_d dtbJ9_floorMod_7cf53_0 10 rfl) rfl rfl ?_
    refine cz_iload_n (pc' := 16) (g_d dtbJ9_floorMod_7cf53_0 11 rfl) rfl rfl ?_
    refine nz_iadd (pc' := 17) (g_d dtbJ9_floorMod_7cf53_0 12 rfl) rfl ?_
    refine nz_ri .int (g_d dtbJ9_floorMod_7cf53_0 13 rfl) rfl rfl ?_
    exact ⟨by omega, rfl⟩

theorem c_fmod (G : Wd) (Z : ZS) (x : Int) (hx : -1000000000 ≤ x ∧ x ≤ 1000000000) : Cn G mJ9_floorMod_7cf53 0 [some (iv x), some (iv 28), none] [] Z (qi (fun r W => x % 28 = r ∧ Z = W)) := by
  by_cases h : 0 ≤ x
  · exact c_fmodp G Z x (by omega)
  · exact c_fmodn G Z x (by omega)

set_option maxRecDepth 20000 in
set_option maxHeartbeats 4000000 in
theorem c_fdivp (G : Wd) (Z : ZS) (x y : Int) (hx : 0 ≤ x ∧ x ≤ 2000000000) (hy : 1 ≤ y ∧ y ≤ 1000) : Cn G mJ9_floorDiv_7cf53 0 [some (iv (x)), some (iv (y)), none] [] Z (qi (fun r W => x / y = r ∧ Z = W)) := by
  refine cz_iload_n (pc' := 1) (g_d dtbJ9_floorDiv_7cf53_0 0 rfl) rfl rfl ?_
  refine cz_iload_n (pc' := 2) (g_d dtbJ9_floorDiv_7cf53_0 1 rfl) rfl rfl ?_
  refine nz_idiv (pc' := 3) (g_d dtbJ9_floorDiv_7cf53_0 2 rfl) (by omega) (by omega) rfl ?_
  refine cz_istore_n (L' := [some (iv (x)), some (iv (y)), some (iv (x / y))]) (pc' := 4) (g_d dtbJ9_floorDiv_7cf53_0 3 rfl) (by decide) rfl rfl ?_
  refine cz_iload_n (pc' := 5) (g_d dtbJ9_floorDiv_7cf53_0 4 rfl) rfl rfl ?_
  refine cz_iload_n (pc' := 6) (g_d dtbJ9_floorDiv_7cf53_0 5 rfl) rfl rfl ?_
  refine nz_xge_t (tgt := 21) (g_d dtbJ9_floorDiv_7cf53_0 6 rfl) (g_d dtbJ9_floorDiv_7cf53_0 7 rfl) (by omega) (by omega) rfl ?_
  refine cz_iload_n (pc' := 22) (g_d dtbJ9_floorDiv_7cf53_0 17 rfl) rfl rfl ?_
  refine nz_ri .int (g_d dtbJ9_floorDiv_7cf53_0 18 rfl) rfl rfl ?_
  exact ⟨rfl, rfl⟩

set_option maxRecDepth 20000 in
set_option maxHeartbeats 4000000 in
theorem c_fdivn (G : Wd) (Z : ZS) (x y : Int) (hx : -2000000000 ≤ x ∧ x < 0) (hy : 1 ≤ y ∧ y ≤ 1000) : Cn G mJ9_floorDiv_7cf53 0 [some (iv (x)), some (iv (y)), none] [] Z (qi (fun r W => x / y = r ∧ Z = W)) := by
  have m1 := Int.emod_add_mul_ediv (-x) y
  have m2 := Int.emod_nonneg (-x) (show y ≠ 0 by omega)
  have m3 := Int.emod_lt_of_pos (-x) (show 0 < y by omega)
  have m4 : y * ((-x) / y) = (-x) / y * y := Int.mul_comm _ _
  have m5 : -((-x) / y) * y = -((-x) / y * y) := Int.neg_mul _ _
  refine cz_iload_n (pc' := 1) (g_d dtbJ9_floorDiv_7cf53_0 0 rfl) rfl rfl ?_
  refine cz_iload_n (pc' := 2) (g_d dtbJ9_floorDiv_7cf53_0 1 rfl) rfl rfl ?_
  refine nz_idivn (pc' := 3) (g_d dtbJ9_floorDiv_7cf53_0 2 rfl) (by omega) (by omega) rfl ?_
  refine cz_istore_n (L' := [some (iv (x)), some (iv (y)), some (iv (-((-x) / y)))]) (pc' := 4) (g_d dtbJ9_floorDiv_7cf53_0 3 rfl) (by decide) rfl rfl ?_
  refine cz_iload_n (pc' := 5) (g_d dtbJ9_floorDiv_7cf53_0 4 rfl) rfl rfl ?_
  refine cz_iload_n (pc' := 6) (g_d dtbJ9_floorDiv_7cf53_0 5 rfl) rfl rfl ?_
  refine nz_xge_f (pc' := 10) (g_d dtbJ9_floorDiv_7cf53_0 6 rfl) (g_d dtbJ9_floorDiv_7cf53_0 7 rfl) (by omega) (by omega) (by decide) rfl ?_
  refine cz_iload_n (pc' := 11) (g_d dtbJ9_floorDiv_7cf53_0 8 rfl) rfl rfl ?_
  refine cz_iload_n (pc' := 12) (g_d dtbJ9_floorDiv_7cf53_0 9 rfl) rfl rfl ?_
  refine nz_imul (pc' := 13) (g_d dtbJ9_floorDiv_7cf53_0 10 rfl) rfl ?_
  refine cz_iload_n (pc' := 14) (g_d dtbJ9_floorDiv_7cf53_0 11 rfl) rfl rfl ?_
  refine nz_icmp_eq (tgt := 21) (pc' := 17) (g_d dtbJ9_floorDiv_7cf53_0 12 rfl) (by omega) (by omega) rfl rfl (fun h14 => ?_) (fun h14 => ?_)
  · refine cz_iload_n (pc' := 22) (g_d dtbJ9_floorDiv_7cf53_0 17 rfl) rfl rfl ?_
    refine nz_ri .int (g_d dtbJ9_floorDiv_7cf53_0 18 rfl) rfl rfl ?_
    refine ⟨?_, rfl⟩
    rw [fdiv_neg (by omega) hy.1]
    rw [if_pos (by omega)]
  · refine cz_iload_n (pc' := 18) (g_d dtbJ9_floorDiv_7cf53_0 13 rfl) rfl rfl ?_
    refine nz_iconst (pc' := 19) (g_d dtbJ9_floorDiv_7cf53_0 14 rfl) rfl ?_
    refine nz_isub (pc' := 20) (g_d dtbJ9_floorDiv_7cf53_0 15 rfl) rfl ?_
    refine nz_ri .int (g_d dtbJ9_floorDiv_7cf53_0 16 rfl) rfl rfl ?_
    refine ⟨?_, rfl⟩
    rw [fdiv_neg (by omega) hy.1]
    rw [if_neg (by omega)]

theorem c_fdiv (G : Wd) (Z : ZS) (x y : Int) (hx : -2000000000 ≤ x ∧ x ≤ 2000000000) (hy : 1 ≤ y ∧ y ≤ 1000) : Cn G mJ9_floorDiv_7cf53 0 [some (iv x), some (iv y), none] [] Z (qi (fun r W => x / y = r ∧ Z = W)) := by
  by_cases h : 0 ≤ x
  · exact c_fdivp G Z x y (by omega) hy
  · exact c_fdivn G Z x y (by omega) hy
end
section
/-! days ahead: where they lie, what is drawn on them, how an account goes through them -/
def dyA (f : Row) (i : Nat) : Int := (f 3 - 1 + i) % 28 + 1
def mnA (f : Row) (i : Nat) : Int := f 4 + (f 3 - 1 + i) / 28
/-- what a bill of a kind, told for a day, draws on the day i ahead -/
def pA (f : Row) (κ told p : Int) (i : Nat) : Int := if dayB κ told = dyA f i then pndB κ p (mnA f i) else 0
/-- what the first n bills draw on it -/
def drA (f : Row) : Nat → Nat → Int
  | 0, _ => 0
  | n + 1, i => drA f n i + pA f (f (7 + n)) (f (14 + n)) (f (21 + n)) i
theorem pA_in {f : Row} {κ told p : Int} {i : Nat} (hp : 0 ≤ p ∧ p ≤ 99) : -99 ≤ pA f κ told p i ∧ pA f κ told p i ≤ 990 := by
  unfold pA
  have := pndB_in (κ := κ) (m := mnA f i) hp
  split <;> omega
theorem drA_in {B : Int} {f : Row} (h : RO B f) (i : Nat) : ∀ n : Nat, n ≤ 7 → (n : Int) ≤ f 6 → -99 * (n : Int) ≤ drA f n i ∧ drA f n i ≤ 990 * (n : Int) := by
  intro n
  induction n with
  | zero => intro _ _; simp [drA]
  | succ n ih =>
    intro h1 h2
    have a := ih (by omega) (by omega)
    have b := h.2.2.1 n (by omega) (by omega)
    have c := pA_in (f := f) (κ := f (7 + n)) (told := f (14 + n)) (i := i) (p := f (21 + n)) (by have := b.2.2; omega)
    simp only [drA]
    omega
/-- the account through days on which g is drawn and sp spent, from a on: what it is, charges, in which day below first, the least, in which day -/
def rL (g : Row) (sp a : Int) : Nat → Int
  | 0 => a
  | i + 1 => if rL g sp a i - (g i + sp) < 0 then rL g sp a i - (g i + sp) - 1 else rL g sp a i - (g i + sp)
def rC (g : Row) (sp a : Int) : Nat → Int
  | 0 => 0
  | i + 1 => if rL g sp a i - (g i + sp) < 0 then rC g sp a i + 1 else rC g sp a i
def rBl (g : Row) (sp a : Int) : Nat → Int
  | 0 => -1
  | i + 1 => if rL g sp a i - (g i + sp) < 0 then (if rBl g sp a i = -1 then (i : Int) + 1 else rBl g sp a i) else rBl g sp a i
def rM (g : Row) (sp a : Int) : Nat → Int
  | 0 => a
  | i + 1 => if i = 0 ∨ rL g sp a (i + 1) < rM g sp a i then rL g sp a (i + 1) else rM g sp a i
def rI (g : Row) (sp a : Int) : Nat → Int
  | 0 => 0
  | i + 1 => if i = 0 ∨ rL g sp a (i + 1) < rM g sp a i then (i : Int) + 1 else rI g sp a i
theorem rL_in {g : Row} {sp a : Int} {m : Nat} (hg : ∀ i, i < m → -1000000 ≤ g i ∧ g i ≤ 1000000) (hs : 0 ≤ sp ∧ sp ≤ 1000) (ha : -1000000000 ≤ a ∧ a ≤ 1000000000) : ∀ i : Nat, i ≤ m → -1000000000 - 1001001 * (i : Int) ≤ rL g sp a i ∧ rL g sp a i ≤ 1000000000 + 1000000 * (i : Int) := by
  intro i
  induction i with
  | zero => intro _; simp [rL]; omega
  | succ i ih =>
    intro h
    have := ih (by omega)
    have := hg i (by omega)
    simp only [rL]
    split <;> omega
theorem rC_in {g : Row} {sp a : Int} : ∀ i : Nat, 0 ≤ rC g sp a i ∧ rC g sp a i ≤ (i : Int) := by
  intro i
  induction i with
  | zero => simp [rC]
  | succ i ih => simp only [rC]; split <;> omega
theorem rBl_in {g : Row} {sp a : Int} : ∀ i : Nat, -1 ≤ rBl g sp a i ∧ rBl g sp a i ≤ (i : Int) := by
  intro i
  induction i with
  | zero => simp [rBl]
  | succ i ih =>
    simp only [rBl]
    split
    · split <;> omega
    · omega
theorem rM_in {g : Row} {sp a : Int} {m : Nat} (hg : ∀ i, i < m → -1000000 ≤ g i ∧ g i ≤ 1000000) (hs : 0 ≤ sp ∧ sp ≤ 1000) (ha : -1000000000 ≤ a ∧ a ≤ 1000000000) : ∀ i : Nat, i ≤ m → -1000000000 - 1001001 * (i : Int) ≤ rM g sp a i ∧ rM g sp a i ≤ 1000000000 + 1000000 * (i : Int) := by
  intro i
  induction i with
  | zero => intro _; simp [rM]; omega
  | succ i ih =>
    intro h
    have := ih (by omega)
    have := rL_in hg hs ha (i + 1) h
    simp only [rM]
    split <;> omega
/-- the outlook's figures set anew -/
def z5 (Z : ZS) (v3 v4 v5 v6 v7 : Int) : ZS := fun a b => if a = 24 then (if b = 3 then v3 else if b = 4 then v4 else if b = 5 then v5 else if b = 6 then v6 else if b = 7 then v7 else Z a b) else Z a b
theorem z5_3 {Z : ZS} {a b c d e x : Int} : zu (z5 Z a b c d e) 24 3 x = z5 Z x b c d e := by
  funext p q; by_cases h : p = 24 <;> by_cases h3 : q = 3 <;> simp [zu, z5, h, h3]
theorem z5_4 {Z : ZS} {a b c d e x : Int} : zu (z5 Z a b c d e) 24 4 x = z5 Z a x c d e := by
  funext p q; by_cases h : p = 24 <;> by_cases h3 : q = 4 <;> simp [zu, z5, h, h3]
theorem z5_5 {Z : ZS} {a b c d e x : Int} : zu (z5 Z a b c d e) 24 5 x = z5 Z a b x d e := by
  funext p q; by_cases h : p = 24 <;> by_cases h3 : q = 5 <;> simp [zu, z5, h, h3]
theorem z5_6 {Z : ZS} {a b c d e x : Int} : zu (z5 Z a b c d e) 24 6 x = z5 Z a b c x e := by
  funext p q; by_cases h : p = 24 <;> by_cases h3 : q = 6 <;> simp [zu, z5, h, h3]
theorem z5_7 {Z : ZS} {a b c d e x : Int} : zu (z5 Z a b c d e) 24 7 x = z5 Z a b c d x := by
  funext p q; by_cases h : p = 24 <;> by_cases h3 : q = 7 <;> simp [zu, z5, h, h3]
theorem z5_in (Z : ZS) : Z = z5 Z (Z 24 3) (Z 24 4) (Z 24 5) (Z 24 6) (Z 24 7) := by
  funext p q
  by_cases h : p = 24
  · subst h
    simp only [z5, if_true]
    by_cases h3 : q = 3
    · subst h3; rfl
    by_cases h4 : q = 4
    · subst h4; rfl
    by_cases h5 : q = 5
    · subst h5; rfl
    by_cases h6 : q = 6
    · subst h6; rfl
    by_cases h7 : q = 7
    · subst h7; rfl
    simp [h3, h4, h5, h6, h7]
  · simp [z5, h]
theorem z5_row {Z : ZS} {a b c d e : Int} {p : Nat} (h : p ≠ 24) : z5 Z a b c d e p = Z p := by funext q; simp [z5, h]
/-- behind a run -/
def zrun (Z : ZS) (sp a : Int) (m : Nat) : ZS := z5 Z (rL (Z 32) sp a m) (rC (Z 32) sp a m) (rM (Z 32) sp a m) (rI (Z 32) sp a m) (rBl (Z 32) sp a m)
/-- a row with what c says added at its first places -/
def zad (Z : ZS) (c : Row) (j m : Nat) : ZS := zr Z 32 (fun i => if i < j ∧ i < m then Z 32 i + c i else Z 32 i)
theorem zad_0 {Z : ZS} {c : Row} {j m : Nat} (h : ∀ i, i < j → i < m → c i = 0) : zad Z c j m = Z := by
  funext a b
  by_cases ha : a = 32
  · subst ha
    by_cases hb : b < j ∧ b < m
    · simp [zad, zr, hb, h b hb.1 hb.2]
    · simp [zad, zr, hb]
  · simp [zad, zr, ha]
theorem zad_s {Z : ZS} {c : Row} {j m : Nat} {v : Int} (hj : j < m) (hv : v = Z 32 j + c j) (h : ∀ i, j < i → i < j + 28 → i < m → c i = 0) : zu (zad Z c j m) 32 j v = zad Z c (j + 28) m := by
  funext a b
  by_cases ha : a = 32
  · subst ha
    by_cases hb : b = j
    · subst hb
      have h2 : b < b + 28 := by omega
      simp [zu, zad, zr, hj, hv, h2]
    · rcases Nat.lt_or_ge b j with h1 | h1
      · have h2 : b < j + 28 := by omega
        simp [zu, zad, zr, hb, h1, h2]
      · have h3 : ¬ b < j := by omega
        by_cases h4 : b < j + 28 ∧ b < m
        · have h5 := h b (by omega) h4.1 h4.2
          simp [zu, zad, zr, hb, h3, h4, h5]
        · simp [zu, zad, zr, hb, h3, h4]
  · simp [zu, zad, zr, ha]
theorem zad_e {Z : ZS} {c : Row} {j m : Nat} (h : m ≤ j) : zad Z c j m = zad Z c m m := by
  funext a b
  by_cases ha : a = 32
  · subst ha
    by_cases hb : b < m
    · have : b < j := by omega
      simp [zad, zr, hb, this]
    · simp [zad, zr, hb]
  · simp [zad, zr, ha]
/-- what is laid for m days: the first n bills -/
def zly (Z : ZS) (f : Row) (m n : Nat) : ZS := zr (zu Z 24 2 (m : Int)) 32 (fun i => if i < m then drA f n i else if i < 99 then 0 else Z 32 i)
theorem zly_s {Z : ZS} {f : Row} {m n : Nat} (hm : m ≤ 99) : zad (zly Z f m n) (fun i => 1 * pA f (f (7 + n)) (f (14 + n)) (f (21 + n)) i) m m = zly Z f m (n + 1) := by
  funext a b
  by_cases ha : a = 32
  · subst ha
    by_cases hb : b < m
    · simp [zad, zly, zr, hb, drA]
    · simp [zad, zly, zr, hb]
  · simp [zad, zly, zr, ha]
theorem zly_0 {Z : ZS} {f : Row} {m : Nat} (hm : m ≤ 99) : zfl (zu Z 24 2 (m : Int)) 32 0 99 = zly Z f m 0 := by
  funext a b
  by_cases ha : a = 32
  · subst ha
    by_cases hb : b < m
    · have : b < 99 := by omega
      simp [zfl, zly, zr, zu, hb, drA, this]
    · by_cases hc : b < 99 <;> simp [zfl, zly, zr, zu, hb, hc]
  · simp [zfl, zly, zr, ha]
theorem zly_br {Z : ZS} {f g : Row} {m n : Nat} (h : BR Z 1 g) : BR (zly Z f m n) 1 g := h.eq (fun a h1 h2 => by rw [zly, zr_ne (by omega), zu_row (by omega)])
end
section
/-! the outlook -/
theorem zad_br {Z : ZS} {c g : Row} {j m : Nat} (h : BR Z 1 g) : BR (zad Z c j m) 1 g := h.eq (fun a h1 h2 => by rw [zad, zr_ne (by omega)])
def sS (g : Row) (a : Int) : Nat → Int
  | 0 => a
  | i + 1 => sS g a i - g i
def mS (g : Row) (a : Int) : Nat → Int
  | 0 => 30
  | i + 1 => min (mS g a i) ((sS g a i - g i) / ((i : Int) + 1))
def sP (g : Row) (sp a : Int) : Nat → Int
  | 0 => a
  | i + 1 => sP g sp a i - (g i + sp)
def lM (g : Row) (sp a : Int) : Nat → Int
  | 0 => 0
  | i + 1 => max (lM g sp a i) (-(sP g sp a i - (g i + sp)))
theorem sS_in {g : Row} {a : Int} {m : Nat} (hg : ∀ i, i < m → -1000000 ≤ g i ∧ g i ≤ 1000000) (ha : -1000000000 ≤ a ∧ a ≤ 1000000000) : ∀ i : Nat, i ≤ m → -1000000000 - 1000000 * (i : Int) ≤ sS g a i ∧ sS g a i ≤ 1000000000 + 1000000 * (i : Int) := by
  intro i
  induction i with
  | zero => intro _; simp [sS]; omega
  | succ i ih =>
    intro h
    have := ih (by omega)
    have := hg i (by omega)
    simp only [sS]
    omega
theorem mS_in {g : Row} {a : Int} {m : Nat} (hg : ∀ i, i < m → -1000000 ≤ g i ∧ g i ≤ 1000000) (ha : -1000000000 ≤ a ∧ a ≤ 1000000000) (hm : m ≤ 99) : ∀ i : Nat, i ≤ m → -2000000000 ≤ mS g a i ∧ mS g a i ≤ 30 := by
  intro i
  induction i with
  | zero => intro _; simp [mS]
  | succ i ih =>
    intro h
    have h1 := ih (by omega)
    have h2 := sS_in hg ha (i + 1) h
    have h3 : -1200000000 ≤ sS g a (i + 1) := by omega
    have h4 : -1200000000 ≤ (sS g a i - g i) / ((i : Int) + 1) := by
      have e : sS g a (i + 1) = sS g a i - g i := rfl
      have h5 : (0 : Int) < (i : Int) + 1 := by omega
      apply Int.le_ediv_of_mul_le h5
      have h6 : (-1200000000 : Int) * ((i : Int) + 1) ≤ -1200000000 * 1 := by omega
      omega
    simp only [mS]
    omega
theorem sP_in {g : Row} {sp a : Int} {m : Nat} (hg : ∀ i, i < m → -1000000 ≤ g i ∧ g i ≤ 1000000) (hs : 0 ≤ sp ∧ sp ≤ 1000) (ha : -1000000000 ≤ a ∧ a ≤ 1000000000) : ∀ i : Nat, i ≤ m → -1000000000 - 1001000 * (i : Int) ≤ sP g sp a i ∧ sP g sp a i ≤ 1000000000 + 1000000 * (i : Int) := by
  intro i
  induction i with
  | zero => intro _; simp [sP]; omega
  | succ i ih =>
    intro h
    have := ih (by omega)
    have := hg i (by omega)
    simp only [sP]
    omega
theorem lM_in {g : Row} {sp a : Int} {m : Nat} (hg : ∀ i, i < m → -1000000 ≤ g i ∧ g i ≤ 1000000) (hs : 0 ≤ sp ∧ sp ≤ 1000) (ha : -1000000000 ≤ a ∧ a ≤ 1000000000) (hm : m ≤ 99) : ∀ i : Nat, i ≤ m → 0 ≤ lM g sp a i ∧ lM g sp a i ≤ 2000000000 := by
  intro i
  induction i with
  | zero => intro _; simp [lM]
  | succ i ih =>
    intro h
    have := ih (by omega)
    have := sP_in hg hs ha (i + 1) h
    have e : sP g sp a (i + 1) = sP g sp a i - (g i + sp) := rfl
    simp only [lM]
    omega

set_option maxRecDepth 20000 in
set_option maxHeartbeats 4000000 in
theorem l_put (G : Wd) (Z : ZS) (b κ m : Nat) (f : Row) (B told times : Int) (hB : BR Z 1 f) (hR : RO B f) (hBB : B ≤ 100000000) (hm : Z 24 2 = (m : Int)) (hm99 : m ≤ 99) (hb : b < 7) (hb2 : (b : Int) < f 6) (hκ : f (7 + b) = (κ : Int)) (hκ6 : κ < 6) (ht : 1 ≤ told ∧ told ≤ 28) (w6 : Int) : ∀ (d : Nat) (j : Nat), m - j = d → dyA f j = dayB (κ : Int) told → j < m + 28 → Cn G mX4_put 63 [some (.ref 24), some (.ref 1), some (iv ((b : Int))), some (iv (told)), some (iv (times)), some (.ref (26 + κ)), some (iv (w6)), some (iv (mnA f j)), some (iv ((j : Int)))] [] (zad Z (fun i => times * pA f (κ : Int) told (f (21 + b)) i) j m) (qv (fun W => zad Z (fun i => times * pA f (κ : Int) told (f (21 + b)) i) m m = W)) := by
  intro d
  induction d using Nat.strongRecOn with
  | ind d ih =>
    intro j hd hj hj2
    have hbo := hR.2.2.1 b hb hb2
    have hpo : 1 ≤ f (21 + b) ∧ f (21 + b) ≤ 99 := hbo.2.2
    have hf3 : 1 ≤ f 3 ∧ f 3 ≤ 28 := hR.1.2.2.2.1
    have hf4 : 0 ≤ f 4 ∧ f 4 ≤ B := by have := hR.1.2.2.2.2.1; omega
    have hD := dayB_in (κ := (κ : Int)) ht
    refine cz_iload (pc' := 65) (g_d dtbX4_put_0 34 rfl) rfl rfl ?_
    refine cz_aload_n (pc' := 66) (g_d dtbX4_put_0 35 rfl) rfl rfl ?_
    refine nz_getf (v := iv ((m : Int))) (pc' := 69) (g_d dtbX4_put_0 36 rfl) gf_X4_31 (by decide) rfl (congrArg iv (by simp [zad, zr, hm])) rfl ?_
    refine nz_icmp_ge (tgt := 106) (pc' := 72) (g_d dtbX4_put_0 37 rfl) (by omega) (by omega) rfl rfl (fun h69 => ?_) (fun h69 => ?_)
    · refine nz_rv (g_d dtbX4_put_0 56 rfl) rfl ?_
      exact (zad_e (by omega)).symm
    · refine cz_aload_n (pc' := 73) (g_d dtbX4_put_0 38 rfl) rfl rfl ?_
      refine nz_getf (v := .ref 32) (pc' := 76) (g_d dtbX4_put_0 39 rfl) gf_X4_18 (by decide) rfl rfl rfl ?_
      refine cz_iload (pc' := 78) (g_d dtbX4_put_0 40 rfl) rfl rfl ?_
      refine cz_dup2 (pc' := 79) (g_d dtbX4_put_0 41 rfl) rfl rfl rfl ?_
      refine nz_iald j (pc' := 80) (g_d dtbX4_put_0 42 rfl) (by decide) rfl (by omega) (by rfl) (by omega) rfl ?_
      rw [show (zad Z (fun i => times * pA f (κ : Int) told (f (21 + b)) i) j m) 32 j = Z 32 j from by simp [zad, zr]]
      refine cz_iload (pc' := 82) (g_d dtbX4_put_0 43 rfl) rfl rfl ?_
      refine cz_aload (pc' := 84) (g_d dtbX4_put_0 44 rfl) rfl rfl ?_
      refine cz_iload (pc' := 86) (g_d dtbX4_put_0 45 rfl) rfl rfl ?_
      refine cz_aload_n (pc' := 87) (g_d dtbX4_put_0 46 rfl) rfl rfl ?_
      refine cz_iload_n (pc' := 88) (g_d dtbX4_put_0 47 rfl) rfl rfl ?_
      refine nz_cVi (M' := mX0_poundsAt) (k := 1) (As := [iv ((b : Int))]) (S := [iv (mnA f j), .ref (26 + κ), iv (times), iv (Z 32 j), iv ((j : Int)), .ref 32]) (L := [some (.ref 24), some (.ref 1), some (iv ((b : Int))), some (iv (told)), some (iv (times)), some (.ref (26 + κ)), some (iv (w6)), some (iv (mnA f j)), some (iv ((j : Int)))]) (pc' := 91) (g_d dtbX4_put_0 48 rfl) lk_X4_72 okX0_poundsAt (by decide) rfl rfl rfl rfl (Nat.le_of_ble_eq_true rfl) (Nat.le_of_ble_eq_true rfl) (by decide) rfl (c_poundsR G (zad Z (fun i => times * pA f (κ : Int) told (f (21 + b)) i) j m) b f (zad_br hB) hb hb2) ?_
      rintro _ _ ⟨rfl, rfl⟩
      refine nz_cP (κ := κ) (S := [iv (times), iv (Z 32 j), iv ((j : Int)), .ref 32]) (L := [some (.ref 24), some (.ref 1), some (iv ((b : Int))), some (iv (told)), some (iv (times)), some (.ref (26 + κ)), some (iv (w6)), some (iv (mnA f j)), some (iv ((j : Int)))]) (pc' := 94) (g_d dtbX4_put_0 49 rfl) kp_X4 hκ6 (by unfold mnA; omega) (by omega) (Nat.le_of_ble_eq_true rfl) (by decide) (by decide) rfl ?_
      refine nz_imul (pc' := 95) (g_d dtbX4_put_0 50 rfl) rfl ?_
      refine nz_iadd (pc' := 96) (g_d dtbX4_put_0 51 rfl) rfl ?_
      refine nz_iast j (pc' := 97) (g_d dtbX4_put_0 52 rfl) (by decide) rfl (by omega) (by rfl) (by omega) rfl ?_
      refine nz_iinc (L' := [some (.ref 24), some (.ref 1), some (iv ((b : Int))), some (iv (told)), some (iv (times)), some (.ref (26 + κ)), some (iv (w6)), some (iv ((mnA f j) + 1)), some (iv ((j : Int)))]) (pc' := 100) (g_d dtbX4_put_0 53 rfl) (by decide) rfl rfl rfl ?_
      refine nz_iinc (L' := [some (.ref 24), some (.ref 1), some (iv ((b : Int))), some (iv (told)), some (iv (times)), some (.ref (26 + κ)), some (iv (w6)), some (iv ((mnA f j) + 1)), some (iv (((j : Int)) + 28))]) (pc' := 103) (g_d dtbX4_put_0 54 rfl) (by decide) rfl rfl rfl ?_
      refine cz_goto (pc' := 63) (g_d dtbX4_put_0 55 rfl) rfl ?_
      have c0 : dayB (κ : Int) told = dyA f j := hj.symm
      have c1 : ∀ i, j < i → i < j + 28 → i < m → (fun i => times * pA f (κ : Int) told (f (21 + b)) i) i = 0 := fun i h1 h2 h3 => by
        have : ¬ dayB (κ : Int) told = dyA f i := by rw [c0]; unfold dyA; omega
        simp only [pA, if_neg this, Int.mul_zero]
      rw [zad_s (show j < m by omega) (show Z 32 j + times * pndB (κ : Int) (f (21 + b)) (mnA f j) = Z 32 j + (fun i => times * pA f (κ : Int) told (f (21 + b)) i) j by simp only [pA, if_pos c0]) c1]
      rw [show mnA f j + 1 = mnA f (j + 28) by unfold mnA; omega]
      exact ih (m - (j + 28)) (by omega) (j + 28) rfl (by rw [c0]; unfold dyA; omega) (by omega)

set_option maxRecDepth 20000 in
set_option maxHeartbeats 4000000 in
theorem c_put (G : Wd) (Z : ZS) (b κ m : Nat) (f : Row) (B told times : Int) (hB : BR Z 1 f) (hR : RO B f) (hBB : B ≤ 100000000) (hm : Z 24 2 = (m : Int)) (hm99 : m ≤ 99) (hb : b < 7) (hb2 : (b : Int) < f 6) (hκ : f (7 + b) = (κ : Int)) (hκ6 : κ < 6) (ht : 1 ≤ told ∧ told ≤ 28) : Cn G mX4_put 0 [some (.ref 24), some (.ref 1), some (iv ((b : Int))), some (iv (told)), some (iv (times)), none, none, none, none] [] Z (qv (fun W => zad Z (fun i => times * pA f (κ : Int) told (f (21 + b)) i) m m = W)) := by
  have hbo := hR.2.2.1 b hb hb2
  have hpo : 1 ≤ f (21 + b) ∧ f (21 + b) ≤ 99 := hbo.2.2
  have hf3 : 1 ≤ f 3 ∧ f 3 ≤ 28 := hR.1.2.2.2.1
  have hf4 : 0 ≤ f 4 ∧ f 4 ≤ B := by have := hR.1.2.2.2.2.1; omega
  have hD := dayB_in (κ := (κ : Int)) ht
  refine cz_aload_n (pc' := 1) (g_d dtbX4_put_0 0 rfl) rfl rfl ?_
  refine nz_getf (v := .ref 25) (pc' := 4) (g_d dtbX4_put_0 1 rfl) gf_X4_12 (by decide) rfl rfl rfl ?_
  refine cz_aload_n (pc' := 5) (g_d dtbX4_put_0 2 rfl) rfl rfl ?_
  refine cz_iload_n (pc' := 6) (g_d dtbX4_put_0 3 rfl) rfl rfl ?_
  refine nz_cVi (M' := mX0_kindAt) (k := 1) (As := [iv ((b : Int))]) (S := [.ref 25]) (L := [some (.ref 24), some (.ref 1), some (iv ((b : Int))), some (iv (told)), some (iv (times)), none, none, none, none]) (pc' := 9) (g_d dtbX4_put_0 4 rfl) lk_X4_54 okX0_kindAt (by decide) rfl rfl rfl rfl (Nat.le_of_ble_eq_true rfl) (Nat.le_of_ble_eq_true rfl) (by decide) rfl (c_kindR G Z b f (hB) hb hb2) ?_
  rintro _ _ ⟨rfl, rfl⟩
  rw [hκ]
  refine nz_cVr (M' := mX2_numbered) (k := 25) (As := [iv ((κ : Int))]) (S := []) (L := [some (.ref 24), some (.ref 1), some (iv ((b : Int))), some (iv (told)), some (iv (times)), none, none, none, none]) (pc' := 12) (g_d dtbX4_put_0 5 rfl) lk_X4_57 okX2_numbered (by decide) rfl rfl rfl rfl (Nat.le_of_ble_eq_true rfl) (Nat.le_of_ble_eq_true rfl) (by decide) rfl (c_numbered G Z κ hκ6) ?_
  rintro _ _ ⟨rfl, rfl⟩
  refine cz_astore (L' := [some (.ref 24), some (.ref 1), some (iv ((b : Int))), some (iv (told)), some (iv (times)), some (.ref (26 + κ)), none, none, none]) (pc' := 14) (g_d dtbX4_put_0 6 rfl) (by decide) rfl rfl ?_
  refine cz_aload (pc' := 16) (g_d dtbX4_put_0 7 rfl) rfl rfl ?_
  refine cz_iload_n (pc' := 17) (g_d dtbX4_put_0 8 rfl) rfl rfl ?_
  refine nz_cD (κ := κ) (S := []) (L := [some (.ref 24), some (.ref 1), some (iv ((b : Int))), some (iv (told)), some (iv (times)), some (.ref (26 + κ)), none, none, none]) (pc' := 20) (g_d dtbX4_put_0 9 rfl) kd_X4 hκ6 (ht) (Nat.le_of_ble_eq_true rfl) (by decide) (by decide) rfl ?_
  refine cz_aload_n (pc' := 21) (g_d dtbX4_put_0 10 rfl) rfl rfl ?_
  refine nz_getf (v := .ref 2) (pc' := 24) (g_d dtbX4_put_0 11 rfl) gf_X4_66 (by decide) rfl rfl rfl ?_
  refine nz_iconst (pc' := 25) (g_d dtbX4_put_0 12 rfl) rfl ?_
  refine nz_iald 3 (pc' := 26) (g_d dtbX4_put_0 13 rfl) (by decide) rfl (by omega) (by rfl) (by omega) rfl ?_
  rw [show Z 2 3 = f 3 from br1_fig (hB) (by decide)]
  refine nz_isub (pc' := 27) (g_d dtbX4_put_0 14 rfl) rfl ?_
  refine nz_bipush (pc' := 29) (g_d dtbX4_put_0 15 rfl) (by decide) rfl ?_
  refine nz_cSi (M' := mJ9_floorMod_7cf53) (As := [iv ((dayB (κ : Int) told) - (f 3)), iv 28]) (S := []) (L := [some (.ref 24), some (.ref 1), some (iv ((b : Int))), some (iv (told)), some (iv (times)), some (.ref (26 + κ)), none, none, none]) (pc' := 32) (g_d dtbX4_put_0 16 rfl) lk_X4_69 okJ9_floorMod_7cf53 rfl rfl (Nat.le_of_ble_eq_true rfl) (Nat.le_of_ble_eq_true rfl) (by decide) rfl (c_fmod G Z ((dayB (κ : Int) told) - (f 3)) (by omega)) ?_
  rintro _ _ ⟨rfl, rfl⟩
  refine cz_istore (L' := [some (.ref 24), some (.ref 1), some (iv ((b : Int))), some (iv (told)), some (iv (times)), some (.ref (26 + κ)), some (iv (((dayB (κ : Int) told) - (f 3)) % 28)), none, none]) (pc' := 34) (g_d dtbX4_put_0 17 rfl) (by decide) rfl rfl ?_
  refine cz_aload_n (pc' := 35) (g_d dtbX4_put_0 18 rfl) rfl rfl ?_
  refine nz_getf (v := .ref 2) (pc' := 38) (g_d dtbX4_put_0 19 rfl) gf_X4_66 (by decide) rfl rfl rfl ?_
  refine nz_iconst (pc' := 39) (g_d dtbX4_put_0 20 rfl) rfl ?_
  refine nz_iald 4 (pc' := 40) (g_d dtbX4_put_0 21 rfl) (by decide) rfl (by omega) (by rfl) (by omega) rfl ?_
  rw [show Z 2 4 = f 4 from br1_fig (hB) (by decide)]
  refine cz_istore (L' := [some (.ref 24), some (.ref 1), some (iv ((b : Int))), some (iv (told)), some (iv (times)), some (.ref (26 + κ)), some (iv (((dayB (κ : Int) told) - (f 3)) % 28)), some (iv (f 4)), none]) (pc' := 42) (g_d dtbX4_put_0 22 rfl) (by decide) rfl rfl ?_
  refine cz_aload_n (pc' := 43) (g_d dtbX4_put_0 23 rfl) rfl rfl ?_
  refine nz_getf (v := .ref 2) (pc' := 46) (g_d dtbX4_put_0 24 rfl) gf_X4_66 (by decide) rfl rfl rfl ?_
  refine nz_iconst (pc' := 47) (g_d dtbX4_put_0 25 rfl) rfl ?_
  refine nz_iald 3 (pc' := 48) (g_d dtbX4_put_0 26 rfl) (by decide) rfl (by omega) (by rfl) (by omega) rfl ?_
  rw [show Z 2 3 = f 3 from br1_fig (hB) (by decide)]
  refine cz_iload (pc' := 50) (g_d dtbX4_put_0 27 rfl) rfl rfl ?_
  refine nz_iadd (pc' := 51) (g_d dtbX4_put_0 28 rfl) rfl ?_
  refine nz_bipush (pc' := 53) (g_d dtbX4_put_0 29 rfl) (by decide) rfl ?_
  refine nz_icmp_le (tgt := 59) (pc' := 56) (g_d dtbX4_put_0 30 rfl) (by omega) (by omega) rfl rfl (fun h53 => ?_) (fun h53 => ?_)
  · refine cz_iload (pc' := 61) (g_d dtbX4_put_0 32 rfl) rfl rfl ?_
    refine cz_istore (L' := [some (.ref 24), some (.ref 1), some (iv ((b : Int))), some (iv (told)), some (iv (times)), some (.ref (26 + κ)), some (iv (((dayB (κ : Int) told) - (f 3)) % 28)), some (iv (f 4)), some (iv (((dayB (κ : Int) told) - (f 3)) % 28))]) (pc' := 63) (g_d dtbX4_put_0 33 rfl) (by decide) rfl rfl ?_
    obtain ⟨j, hj⟩ : ∃ j : Nat, (dayB (κ : Int) told - f 3) % 28 = (j : Int) := ⟨((dayB (κ : Int) told - f 3) % 28).toNat, by omega⟩
    have e1 : dyA f j = dayB (κ : Int) told := by unfold dyA; omega
    have e2 : f 4 = mnA f j := by unfold mnA; omega
    rw [e2]
    rw [hj]
    have q := l_put G Z b κ m f B told times hB hR hBB hm hm99 hb hb2 hκ hκ6 ht (j : Int) (m - j) j rfl e1 (by omega)
    rw [zad_0 (j := j)] at q
    · exact q
    · intro i h1 h2
      have : ¬ dayB (κ : Int) told = dyA f i := by unfold dyA; omega
      simp only [pA, if_neg this, Int.mul_zero]
  · refine nz_iinc (L' := [some (.ref 24), some (.ref 1), some (iv ((b : Int))), some (iv (told)), some (iv (times)), some (.ref (26 + κ)), some (iv (((dayB (κ : Int) told) - (f 3)) % 28)), some (iv ((f 4) + 1)), none]) (pc' := 59) (g_d dtbX4_put_0 31 rfl) (by decide) rfl rfl rfl ?_
    refine cz_iload (pc' := 61) (g_d dtbX4_put_0 32 rfl) rfl rfl ?_
    refine cz_istore (L' := [some (.ref 24), some (.ref 1), some (iv ((b : Int))), some (iv (told)), some (iv (times)), some (.ref (26 + κ)), some (iv (((dayB (κ : Int) told) - (f 3)) % 28)), some (iv ((f 4) + 1)), some (iv (((dayB (κ : Int) told) - (f 3)) % 28))]) (pc' := 63) (g_d dtbX4_put_0 33 rfl) (by decide) rfl rfl ?_
    obtain ⟨j, hj⟩ : ∃ j : Nat, (dayB (κ : Int) told - f 3) % 28 = (j : Int) := ⟨((dayB (κ : Int) told - f 3) % 28).toNat, by omega⟩
    have e1 : dyA f j = dayB (κ : Int) told := by unfold dyA; omega
    have e2 : (f 4) + 1 = mnA f j := by unfold mnA; omega
    rw [e2]
    rw [hj]
    have q := l_put G Z b κ m f B told times hB hR hBB hm hm99 hb hb2 hκ hκ6 ht (j : Int) (m - j) j rfl e1 (by omega)
    rw [zad_0 (j := j)] at q
    · exact q
    · intro i h1 h2
      have : ¬ dayB (κ : Int) told = dyA f i := by unfold dyA; omega
      simp only [pA, if_neg this, Int.mul_zero]

set_option maxRecDepth 20000 in
set_option maxHeartbeats 4000000 in
theorem l_lay (G : Wd) (Z : ZS) (m : Nat) (f : Row) (B : Int) (hB : BR Z 1 f) (hR : RO B f) (hBB : B ≤ 100000000) (hm99 : m ≤ 99) : ∀ (d : Nat) (n : Nat), (f 6).toNat - n = d → (n : Int) ≤ f 6 → Cn G mX4_lay 24 [some (.ref 24), some (.ref 1), some (iv ((m : Int))), some (iv ((n : Int)))] [] (zly Z f m n) (qv (fun W => zly Z f m (f 6).toNat = W)) := by
  intro d
  induction d using Nat.strongRecOn with
  | ind d ih =>
    intro n hd hn
    have h6 := hR.2.1
    refine cz_iload_n (pc' := 25) (g_d dtbX4_lay_0 13 rfl) rfl rfl ?_
    refine cz_aload_n (pc' := 26) (g_d dtbX4_lay_0 14 rfl) rfl rfl ?_
    refine nz_getf (v := iv (f 6)) (pc' := 29) (g_d dtbX4_lay_0 15 rfl) gf_X4_41 (by decide) rfl (congrArg iv (br1_4 (zly_br hB))) rfl ?_
    refine nz_icmp_ge (tgt := 50) (pc' := 32) (g_d dtbX4_lay_0 16 rfl) (by omega) (by omega) rfl rfl (fun h29 => ?_) (fun h29 => ?_)
    · refine nz_rv (g_d dtbX4_lay_0 27 rfl) rfl ?_
      rw [show n = (f 6).toNat by omega]
    · have hn7 : n < 7 := by omega
      have hn2 : (n : Int) < f 6 := by omega
      have hbo := hR.2.2.1 n hn7 hn2
      have hto : 1 ≤ f (14 + n) ∧ f (14 + n) ≤ 28 := hbo.2.1
      obtain ⟨κ, hκ, hκ6⟩ : ∃ κ : Nat, f (7 + n) = (κ : Int) ∧ κ < 6 := ⟨(f (7 + n)).toNat, by have := hbo.1; omega, by have := hbo.1; omega⟩
      refine cz_aload_n (pc' := 33) (g_d dtbX4_lay_0 17 rfl) rfl rfl ?_
      refine cz_aload_n (pc' := 34) (g_d dtbX4_lay_0 18 rfl) rfl rfl ?_
      refine cz_iload_n (pc' := 35) (g_d dtbX4_lay_0 19 rfl) rfl rfl ?_
      refine cz_aload_n (pc' := 36) (g_d dtbX4_lay_0 20 rfl) rfl rfl ?_
      refine cz_iload_n (pc' := 37) (g_d dtbX4_lay_0 21 rfl) rfl rfl ?_
      refine nz_cVi (M' := mX0_dayAt) (k := 1) (As := [iv ((n : Int))]) (S := [iv ((n : Int)), .ref 1, .ref 24]) (L := [some (.ref 24), some (.ref 1), some (iv ((m : Int))), some (iv ((n : Int)))]) (pc' := 40) (g_d dtbX4_lay_0 22 rfl) lk_X4_46 okX0_dayAt (by decide) rfl rfl rfl rfl (Nat.le_of_ble_eq_true rfl) (Nat.le_of_ble_eq_true rfl) (by decide) rfl (c_dayR G (zly Z f m n) n f (zly_br hB) hn7 hn2) ?_
      rintro _ _ ⟨rfl, rfl⟩
      refine nz_iconst (pc' := 41) (g_d dtbX4_lay_0 23 rfl) rfl ?_
      refine nz_cVv (M' := mX4_put) (k := 24) (As := [.ref 1, iv ((n : Int)), iv (f (14 + n)), iv 1]) (S := []) (L := [some (.ref 24), some (.ref 1), some (iv ((m : Int))), some (iv ((n : Int)))]) (pc' := 44) (g_d dtbX4_lay_0 24 rfl) lk_X4_50 okX4_put (by decide) rfl rfl rfl rfl (Nat.le_of_ble_eq_true rfl) (Nat.le_of_ble_eq_true rfl) (by decide) rfl (c_put G (zly Z f m n) n κ m f B (f (14 + n)) 1 (zly_br hB) hR hBB (by simp [zly, zr, zu]) hm99 hn7 hn2 hκ hκ6 hto) ?_
      rintro _ rfl
      rw [← hκ, zly_s hm99]
      refine nz_iinc (L' := [some (.ref 24), some (.ref 1), some (iv ((m : Int))), some (iv (((n : Int)) + 1))]) (pc' := 47) (g_d dtbX4_lay_0 25 rfl) (by decide) rfl rfl rfl ?_
      refine cz_goto (pc' := 24) (g_d dtbX4_lay_0 26 rfl) rfl ?_
      exact ih ((f 6).toNat - (n + 1)) (by omega) (n + 1) rfl (by omega)

set_option maxRecDepth 20000 in
set_option maxHeartbeats 4000000 in
theorem c_lay (G : Wd) (Z : ZS) (m : Nat) (f : Row) (B : Int) (hB : BR Z 1 f) (hR : RO B f) (hBB : B ≤ 100000000) (hm99 : m ≤ 99) : Cn G mX4_lay 0 [some (.ref 24), some (.ref 1), some (iv ((m : Int))), none] [] Z (qv (fun W => zly Z f m (f 6).toNat = W)) := by
  refine cz_aload_n (pc' := 1) (g_d dtbX4_lay_0 0 rfl) rfl rfl ?_
  refine nz_iconst (pc' := 2) (g_d dtbX4_lay_0 1 rfl) rfl ?_
  refine cz_iload_n (pc' := 3) (g_d dtbX4_lay_0 2 rfl) rfl rfl ?_
  refine nz_bipush (pc' := 5) (g_d dtbX4_lay_0 3 rfl) (by decide) rfl ?_
  refine nz_cSi (M' := mJ9_min_7cf53) (As := [iv ((m : Int)), iv 99]) (S := [iv 0, .ref 24]) (L := [some (.ref 24), some (.ref 1), some (iv ((m : Int))), none]) (pc' := 8) (g_d dtbX4_lay_0 4 rfl) lk_X4_22 okJ9_min_7cf53 rfl rfl (Nat.le_of_ble_eq_true rfl) (Nat.le_of_ble_eq_true rfl) (by decide) rfl (c_min G Z ((m : Int)) 99 (by omega) (by omega)) ?_
  rintro _ _ ⟨rfl, rfl⟩
  refine nz_cSi (M' := mJ9_max_7cf53) (As := [iv 0, iv (min ((m : Int)) 99)]) (S := [.ref 24]) (L := [some (.ref 24), some (.ref 1), some (iv ((m : Int))), none]) (pc' := 11) (g_d dtbX4_lay_0 5 rfl) lk_X4_28 okJ9_max_7cf53 rfl rfl (Nat.le_of_ble_eq_true rfl) (Nat.le_of_ble_eq_true rfl) (by decide) rfl (c_max G Z 0 (min ((m : Int)) 99) (by omega) (by omega)) ?_
  rintro _ _ ⟨rfl, rfl⟩
  refine nz_puti (pc' := 14) (g_d dtbX4_lay_0 6 rfl) pf_X4_31 rfl (by decide) rfl rfl ?_
  rw [show max 0 (min (m : Int) 99) = (m : Int) by omega]
  refine cz_aload_n (pc' := 15) (g_d dtbX4_lay_0 7 rfl) rfl rfl ?_
  refine nz_getf (v := .ref 32) (pc' := 18) (g_d dtbX4_lay_0 8 rfl) gf_X4_18 (by decide) rfl rfl rfl ?_
  refine nz_iconst (pc' := 19) (g_d dtbX4_lay_0 9 rfl) rfl ?_
  refine nz_cSv (M' := mJ7_fill_53178) (As := [.ref 32, iv 0]) (S := []) (L := [some (.ref 24), some (.ref 1), some (iv ((m : Int))), none]) (pc' := 22) (g_d dtbX4_lay_0 10 rfl) lk_X4_35 okJ7_fill_53178 rfl rfl (Nat.le_of_ble_eq_true rfl) (Nat.le_of_ble_eq_true rfl) (by decide) rfl (c_fill G (zu Z 24 2 ((m : Int))) 32 _ _ (by decide) rfl (by decide)) ?_
  rintro _ rfl
  rw [zly_0 (f := f) hm99]
  refine nz_iconst (pc' := 23) (g_d dtbX4_lay_0 11 rfl) rfl ?_
  refine cz_istore_n (L' := [some (.ref 24), some (.ref 1), some (iv ((m : Int))), some (iv 0)]) (pc' := 24) (g_d dtbX4_lay_0 12 rfl) (by decide) rfl rfl ?_
  exact l_lay G Z m f B hB hR hBB hm99 ((f 6).toNat - 0) 0 rfl (by have := hR.2.1; omega)

set_option maxRecDepth 20000 in
set_option maxHeartbeats 4000000 in
theorem l_run (G : Wd) (Z : ZS) (m : Nat) (sp a : Int) (hm : Z 24 2 = (m : Int)) (hm99 : m ≤ 99) (hg : ∀ i, i < m → -1000000 ≤ Z 32 i ∧ Z 32 i ≤ 1000000) (hs : 0 ≤ sp ∧ sp ≤ 1000) (ha : -1000000000 ≤ a ∧ a ≤ 1000000000) : ∀ (d : Nat) (i : Nat), m - i = d → i ≤ m → Cn G mX4_run 27 [some (.ref 24), some (iv (a)), some (iv (sp)), some (iv ((i : Int)))] [] (z5 Z (rL (Z 32) sp a i) (rC (Z 32) sp a i) (rM (Z 32) sp a i) (rI (Z 32) sp a i) (rBl (Z 32) sp a i)) (qv (fun W => zrun Z sp a m = W)) := by
  intro d
  induction d using Nat.strongRecOn with
  | ind d ih =>
    intro i hd hi
    have hL := rL_in hg hs ha i hi
    have hM := rM_in hg hs ha i hi
    have hC := rC_in (g := Z 32) (sp := sp) (a := a) i
    have hBl := rBl_in (g := Z 32) (sp := sp) (a := a) i
    refine cz_iload_n (pc' := 28) (g_d dtbX4_run_0 17 rfl) rfl rfl ?_
    refine cz_aload_n (pc' := 29) (g_d dtbX4_run_0 18 rfl) rfl rfl ?_
    refine nz_getf (v := iv ((m : Int))) (pc' := 32) (g_d dtbX4_run_0 19 rfl) gf_X4_31 (by decide) rfl (congrArg iv (hm)) rfl ?_
    refine nz_icmp_ge (tgt := 137) (pc' := 35) (g_d dtbX4_run_0 20 rfl) (by omega) (by omega) rfl rfl (fun h32 => ?_) (fun h32 => ?_)
    · refine nz_rv (g_d dtbX4_run_1 17 rfl) rfl ?_
      rw [show i = m by omega]; rfl
    · have hgi := hg i (by omega)
      refine cz_aload_n (pc' := 36) (g_d dtbX4_run_0 21 rfl) rfl rfl ?_
      refine cz_dup (pc' := 37) (g_d dtbX4_run_0 22 rfl) rfl rfl ?_
      refine nz_getf (v := iv (rL (Z 32) sp a i)) (pc' := 40) (g_d dtbX4_run_0 23 rfl) gf_X4_78 (by decide) rfl rfl rfl ?_
      refine cz_aload_n (pc' := 41) (g_d dtbX4_run_0 24 rfl) rfl rfl ?_
      refine nz_getf (v := .ref 32) (pc' := 44) (g_d dtbX4_run_0 25 rfl) gf_X4_18 (by decide) rfl rfl rfl ?_
      refine cz_iload_n (pc' := 45) (g_d dtbX4_run_0 26 rfl) rfl rfl ?_
      refine nz_iald i (pc' := 46) (g_d dtbX4_run_0 27 rfl) (by decide) rfl (by omega) (by rfl) (by omega) rfl ?_
      rw [show (z5 Z (rL (Z 32) sp a i) (rC (Z 32) sp a i) (rM (Z 32) sp a i) (rI (Z 32) sp a i) (rBl (Z 32) sp a i)) 32 i = Z 32 i from rfl]
      refine cz_iload_n (pc' := 47) (g_d dtbX4_run_0 28 rfl) rfl rfl ?_
      refine nz_iadd (pc' := 48) (g_d dtbX4_run_0 29 rfl) rfl ?_
      refine nz_isub (pc' := 49) (g_d dtbX4_run_0 30 rfl) rfl ?_
      refine nz_puti (pc' := 52) (g_d dtbX4_run_0 31 rfl) pf_X4_78 rfl (by decide) rfl rfl ?_
      rw [z5_3]
      refine cz_aload_n (pc' := 53) (g_d dtbX4_run_0 32 rfl) rfl rfl ?_
      refine nz_getf (v := iv ((rL (Z 32) sp a i) - ((Z 32 i) + sp))) (pc' := 56) (g_d dtbX4_run_0 33 rfl) gf_X4_78 (by decide) rfl rfl rfl ?_
      refine nz_if_ge (tgt := 101) (pc' := 59) (g_d dtbX4_run_0 34 rfl) (by omega) rfl rfl (fun h56 => ?_) (fun h56 => ?_)
      · refine cz_iload_n (pc' := 102) (g_d dtbX4_run_0 59 rfl) rfl rfl ?_
        refine nz_if_eq (tgt := 116) (pc' := 105) (g_d dtbX4_run_1 0 rfl) (by omega) rfl rfl (fun h102 => ?_) (fun h102 => ?_)
        · refine cz_aload_n (pc' := 117) (g_d dtbX4_run_1 6 rfl) rfl rfl ?_
          refine cz_aload_n (pc' := 118) (g_d dtbX4_run_1 7 rfl) rfl rfl ?_
          refine nz_getf (v := iv ((rL (Z 32) sp a i) - ((Z 32 i) + sp))) (pc' := 121) (g_d dtbX4_run_1 8 rfl) gf_X4_78 (by decide) rfl rfl rfl ?_
          refine nz_puti (pc' := 124) (g_d dtbX4_run_1 9 rfl) pf_X4_84 rfl (by decide) rfl rfl ?_
          rw [z5_5]
          refine cz_aload_n (pc' := 125) (g_d dtbX4_run_1 10 rfl) rfl rfl ?_
          refine cz_iload_n (pc' := 126) (g_d dtbX4_run_1 11 rfl) rfl rfl ?_
          refine nz_iconst (pc' := 127) (g_d dtbX4_run_1 12 rfl) rfl ?_
          refine nz_iadd (pc' := 128) (g_d dtbX4_run_1 13 rfl) rfl ?_
          refine nz_puti (pc' := 131) (g_d dtbX4_run_1 14 rfl) pf_X4_87 rfl (by decide) rfl rfl ?_
          rw [z5_6]
          refine nz_iinc (L' := [some (.ref 24), some (iv (a)), some (iv (sp)), some (iv (((i : Int)) + 1))]) (pc' := 134) (g_d dtbX4_run_1 15 rfl) (by decide) rfl rfl rfl ?_
          refine cz_goto (pc' := 27) (g_d dtbX4_run_1 16 rfl) rfl ?_
          rw [show (z5 Z ((rL (Z 32) sp a i) - ((Z 32 i) + sp)) (rC (Z 32) sp a i) ((rL (Z 32) sp a i) - ((Z 32 i) + sp)) (((i : Int)) + 1) (rBl (Z 32) sp a i)) = zrun Z sp a (i + 1) from by
            unfold zrun
            congr 1 <;> (simp only [rL, rC, rBl, rM, rI]; (repeat' split) <;> omega)]
          exact ih (m - (i + 1)) (by omega) (i + 1) rfl (by omega)
        · refine cz_aload_n (pc' := 106) (g_d dtbX4_run_1 1 rfl) rfl rfl ?_
          refine nz_getf (v := iv ((rL (Z 32) sp a i) - ((Z 32 i) + sp))) (pc' := 109) (g_d dtbX4_run_1 2 rfl) gf_X4_78 (by decide) rfl rfl rfl ?_
          refine cz_aload_n (pc' := 110) (g_d dtbX4_run_1 3 rfl) rfl rfl ?_
          refine nz_getf (v := iv (rM (Z 32) sp a i)) (pc' := 113) (g_d dtbX4_run_1 4 rfl) gf_X4_84 (by decide) rfl rfl rfl ?_
          refine nz_icmp_ge (tgt := 131) (pc' := 116) (g_d dtbX4_run_1 5 rfl) (by omega) (by omega) rfl rfl (fun h113 => ?_) (fun h113 => ?_)
          · refine nz_iinc (L' := [some (.ref 24), some (iv (a)), some (iv (sp)), some (iv (((i : Int)) + 1))]) (pc' := 134) (g_d dtbX4_run_1 15 rfl) (by decide) rfl rfl rfl ?_
            refine cz_goto (pc' := 27) (g_d dtbX4_run_1 16 rfl) rfl ?_
            rw [show (z5 Z ((rL (Z 32) sp a i) - ((Z 32 i) + sp)) (rC (Z 32) sp a i) (rM (Z 32) sp a i) (rI (Z 32) sp a i) (rBl (Z 32) sp a i)) = zrun Z sp a (i + 1) from by
              unfold zrun
              congr 1 <;> (simp only [rL, rC, rBl, rM, rI]; (repeat' split) <;> omega)]
            exact ih (m - (i + 1)) (by omega) (i + 1) rfl (by omega)
          · refine cz_aload_n (pc' := 117) (g_d dtbX4_run_1 6 rfl) rfl rfl ?_
            refine cz_aload_n (pc' := 118) (g_d dtbX4_run_1 7 rfl) rfl rfl ?_
            refine nz_getf (v := iv ((rL (Z 32) sp a i) - ((Z 32 i) + sp))) (pc' := 121) (g_d dtbX4_run_1 8 rfl) gf_X4_78 (by decide) rfl rfl rfl ?_
            refine nz_puti (pc' := 124) (g_d dtbX4_run_1 9 rfl) pf_X4_84 rfl (by decide) rfl rfl ?_
            rw [z5_5]
            refine cz_aload_n (pc' := 125) (g_d dtbX4_run_1 10 rfl) rfl rfl ?_
            refine cz_iload_n (pc' := 126) (g_d dtbX4_run_1 11 rfl) rfl rfl ?_
            refine nz_iconst (pc' := 127) (g_d dtbX4_run_1 12 rfl) rfl ?_
            refine nz_iadd (pc' := 128) (g_d dtbX4_run_1 13 rfl) rfl ?_
            refine nz_puti (pc' := 131) (g_d dtbX4_run_1 14 rfl) pf_X4_87 rfl (by decide) rfl rfl ?_
            rw [z5_6]
            refine nz_iinc (L' := [some (.ref 24), some (iv (a)), some (iv (sp)), some (iv (((i : Int)) + 1))]) (pc' := 134) (g_d dtbX4_run_1 15 rfl) (by decide) rfl rfl rfl ?_
            refine cz_goto (pc' := 27) (g_d dtbX4_run_1 16 rfl) rfl ?_
            rw [show (z5 Z ((rL (Z 32) sp a i) - ((Z 32 i) + sp)) (rC (Z 32) sp a i) ((rL (Z 32) sp a i) - ((Z 32 i) + sp)) (((i : Int)) + 1) (rBl (Z 32) sp a i)) = zrun Z sp a (i + 1) from by
              unfold zrun
              congr 1 <;> (simp only [rL, rC, rBl, rM, rI]; (repeat' split) <;> omega)]
            exact ih (m - (i + 1)) (by omega) (i + 1) rfl (by omega)
      · refine cz_aload_n (pc' := 60) (g_d dtbX4_run_0 35 rfl) rfl rfl ?_
        refine cz_dup (pc' := 61) (g_d dtbX4_run_0 36 rfl) rfl rfl ?_
        refine nz_getf (v := iv ((rL (Z 32) sp a i) - ((Z 32 i) + sp))) (pc' := 64) (g_d dtbX4_run_0 37 rfl) gf_X4_78 (by decide) rfl rfl rfl ?_
        refine nz_iconst (pc' := 65) (g_d dtbX4_run_0 38 rfl) rfl ?_
        refine nz_isub (pc' := 66) (g_d dtbX4_run_0 39 rfl) rfl ?_
        refine nz_puti (pc' := 69) (g_d dtbX4_run_0 40 rfl) pf_X4_78 rfl (by decide) rfl rfl ?_
        rw [z5_3]
        refine cz_aload_n (pc' := 70) (g_d dtbX4_run_0 41 rfl) rfl rfl ?_
        refine cz_dup (pc' := 71) (g_d dtbX4_run_0 42 rfl) rfl rfl ?_
        refine nz_getf (v := iv (rC (Z 32) sp a i)) (pc' := 74) (g_d dtbX4_run_0 43 rfl) gf_X4_81 (by decide) rfl rfl rfl ?_
        refine nz_iconst (pc' := 75) (g_d dtbX4_run_0 44 rfl) rfl ?_
        refine nz_iadd (pc' := 76) (g_d dtbX4_run_0 45 rfl) rfl ?_
        refine nz_puti (pc' := 79) (g_d dtbX4_run_0 46 rfl) pf_X4_81 rfl (by decide) rfl rfl ?_
        rw [z5_4]
        refine cz_aload_n (pc' := 80) (g_d dtbX4_run_0 47 rfl) rfl rfl ?_
        refine cz_aload_n (pc' := 81) (g_d dtbX4_run_0 48 rfl) rfl rfl ?_
        refine nz_getf (v := iv (rBl (Z 32) sp a i)) (pc' := 84) (g_d dtbX4_run_0 49 rfl) gf_X4_90 (by decide) rfl rfl rfl ?_
        refine nz_iconst (pc' := 85) (g_d dtbX4_run_0 50 rfl) rfl ?_
        refine nz_icmp_ne (tgt := 94) (pc' := 88) (g_d dtbX4_run_0 51 rfl) (by omega) (by omega) rfl rfl (fun h85 => ?_) (fun h85 => ?_)
        · refine cz_aload_n (pc' := 95) (g_d dtbX4_run_0 56 rfl) rfl rfl ?_
          refine nz_getf (v := iv (rBl (Z 32) sp a i)) (pc' := 98) (g_d dtbX4_run_0 57 rfl) gf_X4_90 (by decide) rfl rfl rfl ?_
          refine nz_puti (pc' := 101) (g_d dtbX4_run_0 58 rfl) pf_X4_90 rfl (by decide) rfl rfl ?_
          rw [z5_7]
          refine cz_iload_n (pc' := 102) (g_d dtbX4_run_0 59 rfl) rfl rfl ?_
          refine nz_if_eq (tgt := 116) (pc' := 105) (g_d dtbX4_run_1 0 rfl) (by omega) rfl rfl (fun h102 => ?_) (fun h102 => ?_)
          · refine cz_aload_n (pc' := 117) (g_d dtbX4_run_1 6 rfl) rfl rfl ?_
            refine cz_aload_n (pc' := 118) (g_d dtbX4_run_1 7 rfl) rfl rfl ?_
            refine nz_getf (v := iv (((rL (Z 32) sp a i) - ((Z 32 i) + sp)) - 1)) (pc' := 121) (g_d dtbX4_run_1 8 rfl) gf_X4_78 (by decide) rfl rfl rfl ?_
            refine nz_puti (pc' := 124) (g_d dtbX4_run_1 9 rfl) pf_X4_84 rfl (by decide) rfl rfl ?_
            rw [z5_5]
            refine cz_aload_n (pc' := 125) (g_d dtbX4_run_1 10 rfl) rfl rfl ?_
            refine cz_iload_n (pc' := 126) (g_d dtbX4_run_1 11 rfl) rfl rfl ?_
            refine nz_iconst (pc' := 127) (g_d dtbX4_run_1 12 rfl) rfl ?_
            refine nz_iadd (pc' := 128) (g_d dtbX4_run_1 13 rfl) rfl ?_
            refine nz_puti (pc' := 131) (g_d dtbX4_run_1 14 rfl) pf_X4_87 rfl (by decide) rfl rfl ?_
            rw [z5_6]
            refine nz_iinc (L' := [some (.ref 24), some (iv (a)), some (iv (sp)), some (iv (((i : Int)) + 1))]) (pc' := 134) (g_d dtbX4_run_1 15 rfl) (by decide) rfl rfl rfl ?_
            refine cz_goto (pc' := 27) (g_d dtbX4_run_1 16 rfl) rfl ?_
            rw [show (z5 Z (((rL (Z 32) sp a i) - ((Z 32 i) + sp)) - 1) ((rC (Z 32) sp a i) + 1) (((rL (Z 32) sp a i) - ((Z 32 i) + sp)) - 1) (((i : Int)) + 1) (rBl (Z 32) sp a i)) = zrun Z sp a (i + 1) from by
              unfold zrun
              congr 1 <;> (simp only [rL, rC, rBl, rM, rI]; (repeat' split) <;> omega)]
            exact ih (m - (i + 1)) (by omega) (i + 1) rfl (by omega)
          · refine cz_aload_n (pc' := 106) (g_d dtbX4_run_1 1 rfl) rfl rfl ?_
            refine nz_getf (v := iv (((rL (Z 32) sp a i) - ((Z 32 i) + sp)) - 1)) (pc' := 109) (g_d dtbX4_run_1 2 rfl) gf_X4_78 (by decide) rfl rfl rfl ?_
            refine cz_aload_n (pc' := 110) (g_d dtbX4_run_1 3 rfl) rfl rfl ?_
            refine nz_getf (v := iv (rM (Z 32) sp a i)) (pc' := 113) (g_d dtbX4_run_1 4 rfl) gf_X4_84 (by decide) rfl rfl rfl ?_
            refine nz_icmp_ge (tgt := 131) (pc' := 116) (g_d dtbX4_run_1 5 rfl) (by omega) (by omega) rfl rfl (fun h113 => ?_) (fun h113 => ?_)
            · refine nz_iinc (L' := [some (.ref 24), some (iv (a)), some (iv (sp)), some (iv (((i : Int)) + 1))]) (pc' := 134) (g_d dtbX4_run_1 15 rfl) (by decide) rfl rfl rfl ?_
              refine cz_goto (pc' := 27) (g_d dtbX4_run_1 16 rfl) rfl ?_
              rw [show (z5 Z (((rL (Z 32) sp a i) - ((Z 32 i) + sp)) - 1) ((rC (Z 32) sp a i) + 1) (rM (Z 32) sp a i) (rI (Z 32) sp a i) (rBl (Z 32) sp a i)) = zrun Z sp a (i + 1) from by
                unfold zrun
                congr 1 <;> (simp only [rL, rC, rBl, rM, rI]; (repeat' split) <;> omega)]
              exact ih (m - (i + 1)) (by omega) (i + 1) rfl (by omega)
            · refine cz_aload_n (pc' := 117) (g_d dtbX4_run_1 6 rfl) rfl rfl ?_
              refine cz_aload_n (pc' := 118) (g_d dtbX4_run_1 7 rfl) rfl rfl ?_
              refine nz_getf (v := iv (((rL (Z 32) sp a i) - ((Z 32 i) + sp)) - 1)) (pc' := 121) (g_d dtbX4_run_1 8 rfl) gf_X4_78 (by decide) rfl rfl rfl ?_
              refine nz_puti (pc' := 124) (g_d dtbX4_run_1 9 rfl) pf_X4_84 rfl (by decide) rfl rfl ?_
              rw [z5_5]
              refine cz_aload_n (pc' := 125) (g_d dtbX4_run_1 10 rfl) rfl rfl ?_
              refine cz_iload_n (pc' := 126) (g_d dtbX4_run_1 11 rfl) rfl rfl ?_
              refine nz_iconst (pc' := 127) (g_d dtbX4_run_1 12 rfl) rfl ?_
              refine nz_iadd (pc' := 128) (g_d dtbX4_run_1 13 rfl) rfl ?_
              refine nz_puti (pc' := 131) (g_d dtbX4_run_1 14 rfl) pf_X4_87 rfl (by decide) rfl rfl ?_
              rw [z5_6]
              refine nz_iinc (L' := [some (.ref 24), some (iv (a)), some (iv (sp)), some (iv (((i : Int)) + 1))]) (pc' := 134) (g_d dtbX4_run_1 15 rfl) (by decide) rfl rfl rfl ?_
              refine cz_goto (pc' := 27) (g_d dtbX4_run_1 16 rfl) rfl ?_
              rw [show (z5 Z (((rL (Z 32) sp a i) - ((Z 32 i) + sp)) - 1) ((rC (Z 32) sp a i) + 1) (((rL (Z 32) sp a i) - ((Z 32 i) + sp)) - 1) (((i : Int)) + 1) (rBl (Z 32) sp a i)) = zrun Z sp a (i + 1) from by
                unfold zrun
                congr 1 <;> (simp only [rL, rC, rBl, rM, rI]; (repeat' split) <;> omega)]
              exact ih (m - (i + 1)) (by omega) (i + 1) rfl (by omega)
        · refine cz_iload_n (pc' := 89) (g_d dtbX4_run_0 52 rfl) rfl rfl ?_
          refine nz_iconst (pc' := 90) (g_d dtbX4_run_0 53 rfl) rfl ?_
          refine nz_iadd (pc' := 91) (g_d dtbX4_run_0 54 rfl) rfl ?_
          refine cz_goto (pc' := 98) (g_d dtbX4_run_0 55 rfl) rfl ?_
          refine nz_puti (pc' := 101) (g_d dtbX4_run_0 58 rfl) pf_X4_90 rfl (by decide) rfl rfl ?_
          rw [z5_7]
          refine cz_iload_n (pc' := 102) (g_d dtbX4_run_0 59 rfl) rfl rfl ?_
          refine nz_if_eq (tgt := 116) (pc' := 105) (g_d dtbX4_run_1 0 rfl) (by omega) rfl rfl (fun h102 => ?_) (fun h102 => ?_)
          · refine cz_aload_n (pc' := 117) (g_d dtbX4_run_1 6 rfl) rfl rfl ?_
            refine cz_aload_n (pc' := 118) (g_d dtbX4_run_1 7 rfl) rfl rfl ?_
            refine nz_getf (v := iv (((rL (Z 32) sp a i) - ((Z 32 i) + sp)) - 1)) (pc' := 121) (g_d dtbX4_run_1 8 rfl) gf_X4_78 (by decide) rfl rfl rfl ?_
            refine nz_puti (pc' := 124) (g_d dtbX4_run_1 9 rfl) pf_X4_84 rfl (by decide) rfl rfl ?_
            rw [z5_5]
            refine cz_aload_n (pc' := 125) (g_d dtbX4_run_1 10 rfl) rfl rfl ?_
            refine cz_iload_n (pc' := 126) (g_d dtbX4_run_1 11 rfl) rfl rfl ?_
            refine nz_iconst (pc' := 127) (g_d dtbX4_run_1 12 rfl) rfl ?_
            refine nz_iadd (pc' := 128) (g_d dtbX4_run_1 13 rfl) rfl ?_
            refine nz_puti (pc' := 131) (g_d dtbX4_run_1 14 rfl) pf_X4_87 rfl (by decide) rfl rfl ?_
            rw [z5_6]
            refine nz_iinc (L' := [some (.ref 24), some (iv (a)), some (iv (sp)), some (iv (((i : Int)) + 1))]) (pc' := 134) (g_d dtbX4_run_1 15 rfl) (by decide) rfl rfl rfl ?_
            refine cz_goto (pc' := 27) (g_d dtbX4_run_1 16 rfl) rfl ?_
            rw [show (z5 Z (((rL (Z 32) sp a i) - ((Z 32 i) + sp)) - 1) ((rC (Z 32) sp a i) + 1) (((rL (Z 32) sp a i) - ((Z 32 i) + sp)) - 1) (((i : Int)) + 1) (((i : Int)) + 1)) = zrun Z sp a (i + 1) from by
              unfold zrun
              congr 1 <;> (simp only [rL, rC, rBl, rM, rI]; (repeat' split) <;> omega)]
            exact ih (m - (i + 1)) (by omega) (i + 1) rfl (by omega)
          · refine cz_aload_n (pc' := 106) (g_d dtbX4_run_1 1 rfl) rfl rfl ?_
            refine nz_getf (v := iv (((rL (Z 32) sp a i) - ((Z 32 i) + sp)) - 1)) (pc' := 109) (g_d dtbX4_run_1 2 rfl) gf_X4_78 (by decide) rfl rfl rfl ?_
            refine cz_aload_n (pc' := 110) (g_d dtbX4_run_1 3 rfl) rfl rfl ?_
            refine nz_getf (v := iv (rM (Z 32) sp a i)) (pc' := 113) (g_d dtbX4_run_1 4 rfl) gf_X4_84 (by decide) rfl rfl rfl ?_
            refine nz_icmp_ge (tgt := 131) (pc' := 116) (g_d dtbX4_run_1 5 rfl) (by omega) (by omega) rfl rfl (fun h113 => ?_) (fun h113 => ?_)
            · refine nz_iinc (L' := [some (.ref 24), some (iv (a)), some (iv (sp)), some (iv (((i : Int)) + 1))]) (pc' := 134) (g_d dtbX4_run_1 15 rfl) (by decide) rfl rfl rfl ?_
              refine cz_goto (pc' := 27) (g_d dtbX4_run_1 16 rfl) rfl ?_
              rw [show (z5 Z (((rL (Z 32) sp a i) - ((Z 32 i) + sp)) - 1) ((rC (Z 32) sp a i) + 1) (rM (Z 32) sp a i) (rI (Z 32) sp a i) (((i : Int)) + 1)) = zrun Z sp a (i + 1) from by
                unfold zrun
                congr 1 <;> (simp only [rL, rC, rBl, rM, rI]; (repeat' split) <;> omega)]
              exact ih (m - (i + 1)) (by omega) (i + 1) rfl (by omega)
            · refine cz_aload_n (pc' := 117) (g_d dtbX4_run_1 6 rfl) rfl rfl ?_
              refine cz_aload_n (pc' := 118) (g_d dtbX4_run_1 7 rfl) rfl rfl ?_
              refine nz_getf (v := iv (((rL (Z 32) sp a i) - ((Z 32 i) + sp)) - 1)) (pc' := 121) (g_d dtbX4_run_1 8 rfl) gf_X4_78 (by decide) rfl rfl rfl ?_
              refine nz_puti (pc' := 124) (g_d dtbX4_run_1 9 rfl) pf_X4_84 rfl (by decide) rfl rfl ?_
              rw [z5_5]
              refine cz_aload_n (pc' := 125) (g_d dtbX4_run_1 10 rfl) rfl rfl ?_
              refine cz_iload_n (pc' := 126) (g_d dtbX4_run_1 11 rfl) rfl rfl ?_
              refine nz_iconst (pc' := 127) (g_d dtbX4_run_1 12 rfl) rfl ?_
              refine nz_iadd (pc' := 128) (g_d dtbX4_run_1 13 rfl) rfl ?_
              refine nz_puti (pc' := 131) (g_d dtbX4_run_1 14 rfl) pf_X4_87 rfl (by decide) rfl rfl ?_
              rw [z5_6]
              refine nz_iinc (L' := [some (.ref 24), some (iv (a)), some (iv (sp)), some (iv (((i : Int)) + 1))]) (pc' := 134) (g_d dtbX4_run_1 15 rfl) (by decide) rfl rfl rfl ?_
              refine cz_goto (pc' := 27) (g_d dtbX4_run_1 16 rfl) rfl ?_
              rw [show (z5 Z (((rL (Z 32) sp a i) - ((Z 32 i) + sp)) - 1) ((rC (Z 32) sp a i) + 1) (((rL (Z 32) sp a i) - ((Z 32 i) + sp)) - 1) (((i : Int)) + 1) (((i : Int)) + 1)) = zrun Z sp a (i + 1) from by
                unfold zrun
                congr 1 <;> (simp only [rL, rC, rBl, rM, rI]; (repeat' split) <;> omega)]
              exact ih (m - (i + 1)) (by omega) (i + 1) rfl (by omega)

set_option maxRecDepth 20000 in
set_option maxHeartbeats 4000000 in
theorem c_run (G : Wd) (Z : ZS) (m : Nat) (sp a : Int) (hm : Z 24 2 = (m : Int)) (hm99 : m ≤ 99) (hg : ∀ i, i < m → -1000000 ≤ Z 32 i ∧ Z 32 i ≤ 1000000) (hs : 0 ≤ sp ∧ sp ≤ 1000) (ha : -1000000000 ≤ a ∧ a ≤ 1000000000) : Cn G mX4_run 0 [some (.ref 24), some (iv (a)), some (iv (sp)), none] [] Z (qv (fun W => zrun Z sp a m = W)) := by
  refine cz_aload_n (pc' := 1) (g_d dtbX4_run_0 0 rfl) rfl rfl ?_
  refine cz_iload_n (pc' := 2) (g_d dtbX4_run_0 1 rfl) rfl rfl ?_
  refine nz_puti (pc' := 5) (g_d dtbX4_run_0 2 rfl) pf_X4_78 rfl (by decide) rfl rfl ?_
  rw [show zu Z 24 3 a = z5 Z a (Z 24 4) (Z 24 5) (Z 24 6) (Z 24 7) from by conv => lhs; rw [z5_in Z, z5_3]]
  refine cz_aload_n (pc' := 6) (g_d dtbX4_run_0 3 rfl) rfl rfl ?_
  refine nz_iconst (pc' := 7) (g_d dtbX4_run_0 4 rfl) rfl ?_
  refine nz_puti (pc' := 10) (g_d dtbX4_run_0 5 rfl) pf_X4_81 rfl (by decide) rfl rfl ?_
  rw [z5_4]
  refine cz_aload_n (pc' := 11) (g_d dtbX4_run_0 6 rfl) rfl rfl ?_
  refine cz_iload_n (pc' := 12) (g_d dtbX4_run_0 7 rfl) rfl rfl ?_
  refine nz_puti (pc' := 15) (g_d dtbX4_run_0 8 rfl) pf_X4_84 rfl (by decide) rfl rfl ?_
  rw [z5_5]
  refine cz_aload_n (pc' := 16) (g_d dtbX4_run_0 9 rfl) rfl rfl ?_
  refine nz_iconst (pc' := 17) (g_d dtbX4_run_0 10 rfl) rfl ?_
  refine nz_puti (pc' := 20) (g_d dtbX4_run_0 11 rfl) pf_X4_87 rfl (by decide) rfl rfl ?_
  rw [z5_6]
  refine cz_aload_n (pc' := 21) (g_d dtbX4_run_0 12 rfl) rfl rfl ?_
  refine nz_iconst (pc' := 22) (g_d dtbX4_run_0 13 rfl) rfl ?_
  refine nz_puti (pc' := 25) (g_d dtbX4_run_0 14 rfl) pf_X4_90 rfl (by decide) rfl rfl ?_
  rw [z5_7]
  refine nz_iconst (pc' := 26) (g_d dtbX4_run_0 15 rfl) rfl ?_
  refine cz_istore_n (L' := [some (.ref 24), some (iv (a)), some (iv (sp)), some (iv 0)]) (pc' := 27) (g_d dtbX4_run_0 16 rfl) (by decide) rfl rfl ?_
  exact l_run G Z m sp a hm hm99 hg hs ha (m - 0) 0 rfl (Nat.zero_le _)

set_option maxRecDepth 20000 in
set_option maxHeartbeats 4000000 in
theorem c_drawMore (G : Wd) (Z : ZS) (m i : Nat) (v : Int) (hm : Z 24 2 = (m : Int)) (hm99 : m ≤ 99) (hi : i < m) : Cn G mX4_drawMore 0 [some (.ref 24), some (iv ((i : Int))), some (iv (v))] [] Z (qv (fun W => zu Z 32 i (Z 32 i + v) = W)) := by
  refine cz_iload_n (pc' := 1) (g_d dtbX4_drawMore_0 0 rfl) rfl rfl ?_
  refine nz_if_lt_f (pc' := 4) (g_d dtbX4_drawMore_0 1 rfl) (by omega) (by decide) rfl (by omega) ?_
  refine cz_iload_n (pc' := 5) (g_d dtbX4_drawMore_0 2 rfl) rfl rfl ?_
  refine cz_aload_n (pc' := 6) (g_d dtbX4_drawMore_0 3 rfl) rfl rfl ?_
  refine nz_getf (v := iv ((m : Int))) (pc' := 9) (g_d dtbX4_drawMore_0 4 rfl) gf_X4_31 (by decide) rfl (congrArg iv (hm)) rfl ?_
  refine nz_icmp_ge_f (pc' := 12) (g_d dtbX4_drawMore_0 5 rfl) (by omega) (by omega) (by decide) rfl (by omega) ?_
  refine cz_aload_n (pc' := 13) (g_d dtbX4_drawMore_0 6 rfl) rfl rfl ?_
  refine nz_getf (v := .ref 32) (pc' := 16) (g_d dtbX4_drawMore_0 7 rfl) gf_X4_18 (by decide) rfl rfl rfl ?_
  refine cz_iload_n (pc' := 17) (g_d dtbX4_drawMore_0 8 rfl) rfl rfl ?_
  refine cz_dup2 (pc' := 18) (g_d dtbX4_drawMore_0 9 rfl) rfl rfl rfl ?_
  refine nz_iald i (pc' := 19) (g_d dtbX4_drawMore_0 10 rfl) (by decide) rfl (by omega) (by rfl) (by omega) rfl ?_
  refine cz_iload_n (pc' := 20) (g_d dtbX4_drawMore_0 11 rfl) rfl rfl ?_
  refine nz_iadd (pc' := 21) (g_d dtbX4_drawMore_0 12 rfl) rfl ?_
  refine nz_iast i (pc' := 22) (g_d dtbX4_drawMore_0 13 rfl) (by decide) rfl (by omega) (by rfl) (by omega) rfl ?_
  refine nz_rv (g_d dtbX4_drawMore_0 14 rfl) rfl ?_
  exact rfl

theorem fdr {x y : Int} (hx : -1500000000 ≤ x ∧ x ≤ 1500000000) (hy : 1 ≤ y) : -1500000000 ≤ x / y ∧ x / y ≤ 1500000000 := by
  have h1 := Int.emod_add_mul_ediv x y
  have h2 := Int.emod_nonneg x (show y ≠ 0 by omega)
  constructor
  · apply Int.le_ediv_of_mul_le (by omega)
    have : (-1500000000 : Int) * y ≤ -1500000000 * 1 := by omega
    omega
  · apply Int.le_of_lt_add_one
    apply Int.ediv_lt_of_lt_mul (by omega)
    have : (1500000001 : Int) * 1 ≤ 1500000001 * y := by omega
    have e : (1500000000 + 1 : Int) = 1500000001 := by omega
    rw [e]
    omega

set_option maxRecDepth 20000 in
set_option maxHeartbeats 4000000 in
theorem l_most (G : Wd) (Z : ZS) (m : Nat) (a : Int) (hm : Z 24 2 = (m : Int)) (hm99 : m ≤ 99) (hg : ∀ i, i < m → -1000000 ≤ Z 32 i ∧ Z 32 i ≤ 1000000) (ha : -1000000000 ≤ a ∧ a ≤ 1000000000) : ∀ (d : Nat) (i : Nat), m - i = d → i ≤ m → Cn G mX4_mostSpending 8 [some (.ref 24), some (iv (a)), some (iv (mS (Z 32) a i)), some (iv (sS (Z 32) a i)), some (iv ((i : Int)))] [] Z (qi (fun r W => mS (Z 32) a m = r ∧ Z = W)) := by
  intro d
  induction d using Nat.strongRecOn with
  | ind d ih =>
    intro i hd hi
    refine cz_iload (pc' := 10) (g_d dtbX4_mostSpending_0 6 rfl) rfl rfl ?_
    refine cz_aload_n (pc' := 11) (g_d dtbX4_mostSpending_0 7 rfl) rfl rfl ?_
    refine nz_getf (v := iv ((m : Int))) (pc' := 14) (g_d dtbX4_mostSpending_0 8 rfl) gf_X4_31 (by decide) rfl (congrArg iv (hm)) rfl ?_
    refine nz_icmp_ge (tgt := 46) (pc' := 17) (g_d dtbX4_mostSpending_0 9 rfl) (by omega) (by omega) rfl rfl (fun h14 => ?_) (fun h14 => ?_)
    · refine cz_iload_n (pc' := 47) (g_d dtbX4_mostSpending_0 27 rfl) rfl rfl ?_
      refine nz_ri .int (g_d dtbX4_mostSpending_0 28 rfl) rfl rfl ?_
      rw [show i = m by omega]; exact ⟨rfl, rfl⟩
    · have hS := sS_in hg ha i hi
      have hgi := hg i (by omega)
      have hM := mS_in hg ha hm99 i hi
      have hM1 := mS_in hg ha hm99 (i + 1) (by omega)
      have hq : -2000000000 ≤ (sS (Z 32) a i - Z 32 i) / ((i : Int) + 1) ∧ (sS (Z 32) a i - Z 32 i) / ((i : Int) + 1) ≤ 2000000000 := by
        have hq1 := fdr (x := sS (Z 32) a i - Z 32 i) (y := (i : Int) + 1) (by omega) (by omega)
        omega
      refine cz_iload_n (pc' := 18) (g_d dtbX4_mostSpending_0 10 rfl) rfl rfl ?_
      refine cz_aload_n (pc' := 19) (g_d dtbX4_mostSpending_0 11 rfl) rfl rfl ?_
      refine nz_getf (v := .ref 32) (pc' := 22) (g_d dtbX4_mostSpending_0 12 rfl) gf_X4_18 (by decide) rfl rfl rfl ?_
      refine cz_iload (pc' := 24) (g_d dtbX4_mostSpending_0 13 rfl) rfl rfl ?_
      refine nz_iald i (pc' := 25) (g_d dtbX4_mostSpending_0 14 rfl) (by decide) rfl (by omega) (by rfl) (by omega) rfl ?_
      refine nz_isub (pc' := 26) (g_d dtbX4_mostSpending_0 15 rfl) rfl ?_
      refine cz_istore_n (L' := [some (.ref 24), some (iv (a)), some (iv (mS (Z 32) a i)), some (iv ((sS (Z 32) a i) - (Z 32 i))), some (iv ((i : Int)))]) (pc' := 27) (g_d dtbX4_mostSpending_0 16 rfl) (by decide) rfl rfl ?_
      refine cz_iload_n (pc' := 28) (g_d dtbX4_mostSpending_0 17 rfl) rfl rfl ?_
      refine cz_iload_n (pc' := 29) (g_d dtbX4_mostSpending_0 18 rfl) rfl rfl ?_
      refine cz_iload (pc' := 31) (g_d dtbX4_mostSpending_0 19 rfl) rfl rfl ?_
      refine nz_iconst (pc' := 32) (g_d dtbX4_mostSpending_0 20 rfl) rfl ?_
      refine nz_iadd (pc' := 33) (g_d dtbX4_mostSpending_0 21 rfl) rfl ?_
      refine nz_cSi (M' := mJ9_floorDiv_7cf53) (As := [iv ((sS (Z 32) a i) - (Z 32 i)), iv (((i : Int)) + 1)]) (S := [iv (mS (Z 32) a i)]) (L := [some (.ref 24), some (iv (a)), some (iv (mS (Z 32) a i)), some (iv ((sS (Z 32) a i) - (Z 32 i))), some (iv ((i : Int)))]) (pc' := 36) (g_d dtbX4_mostSpending_0 22 rfl) lk_X4_93 okJ9_floorDiv_7cf53 rfl rfl (Nat.le_of_ble_eq_true rfl) (Nat.le_of_ble_eq_true rfl) (by decide) rfl (c_fdiv G Z ((sS (Z 32) a i) - (Z 32 i)) (((i : Int)) + 1) (by omega) (by omega)) ?_
      rintro _ _ ⟨rfl, rfl⟩
      refine nz_cSi (M' := mJ9_min_7cf53) (As := [iv (mS (Z 32) a i), iv (((sS (Z 32) a i) - (Z 32 i)) / (((i : Int)) + 1))]) (S := []) (L := [some (.ref 24), some (iv (a)), some (iv (mS (Z 32) a i)), some (iv ((sS (Z 32) a i) - (Z 32 i))), some (iv ((i : Int)))]) (pc' := 39) (g_d dtbX4_mostSpending_0 23 rfl) lk_X4_22 okJ9_min_7cf53 rfl rfl (Nat.le_of_ble_eq_true rfl) (Nat.le_of_ble_eq_true rfl) (by decide) rfl (c_min G Z (mS (Z 32) a i) (((sS (Z 32) a i) - (Z 32 i)) / (((i : Int)) + 1)) (by omega) (by omega)) ?_
      rintro _ _ ⟨rfl, rfl⟩
      refine cz_istore_n (L' := [some (.ref 24), some (iv (a)), some (iv (min (mS (Z 32) a i) (((sS (Z 32) a i) - (Z 32 i)) / (((i : Int)) + 1)))), some (iv ((sS (Z 32) a i) - (Z 32 i))), some (iv ((i : Int)))]) (pc' := 40) (g_d dtbX4_mostSpending_0 24 rfl) (by decide) rfl rfl ?_
      refine nz_iinc (L' := [some (.ref 24), some (iv (a)), some (iv (min (mS (Z 32) a i) (((sS (Z 32) a i) - (Z 32 i)) / (((i : Int)) + 1)))), some (iv ((sS (Z 32) a i) - (Z 32 i))), some (iv (((i : Int)) + 1))]) (pc' := 43) (g_d dtbX4_mostSpending_0 25 rfl) (by decide) rfl rfl rfl ?_
      refine cz_goto (pc' := 8) (g_d dtbX4_mostSpending_0 26 rfl) rfl ?_
      exact ih (m - (i + 1)) (by omega) (i + 1) rfl (by omega)

set_option maxRecDepth 20000 in
set_option maxHeartbeats 4000000 in
theorem c_mostSpending (G : Wd) (Z : ZS) (m : Nat) (a : Int) (hm : Z 24 2 = (m : Int)) (hm99 : m ≤ 99) (hg : ∀ i, i < m → -1000000 ≤ Z 32 i ∧ Z 32 i ≤ 1000000) (ha : -1000000000 ≤ a ∧ a ≤ 1000000000) : Cn G mX4_mostSpending 0 [some (.ref 24), some (iv (a)), none, none, none] [] Z (qi (fun r W => mS (Z 32) a m = r ∧ Z = W)) := by
  refine nz_bipush (pc' := 2) (g_d dtbX4_mostSpending_0 0 rfl) (by decide) rfl ?_
  refine cz_istore_n (L' := [some (.ref 24), some (iv (a)), some (iv 30), none, none]) (pc' := 3) (g_d dtbX4_mostSpending_0 1 rfl) (by decide) rfl rfl ?_
  refine cz_iload_n (pc' := 4) (g_d dtbX4_mostSpending_0 2 rfl) rfl rfl ?_
  refine cz_istore_n (L' := [some (.ref 24), some (iv (a)), some (iv 30), some (iv (a)), none]) (pc' := 5) (g_d dtbX4_mostSpending_0 3 rfl) (by decide) rfl rfl ?_
  refine nz_iconst (pc' := 6) (g_d dtbX4_mostSpending_0 4 rfl) rfl ?_
  refine cz_istore (L' := [some (.ref 24), some (iv (a)), some (iv 30), some (iv (a)), some (iv 0)]) (pc' := 8) (g_d dtbX4_mostSpending_0 5 rfl) (by decide) rfl rfl ?_
  exact l_most G Z m a hm hm99 hg ha (m - 0) 0 rfl (Nat.zero_le _)

set_option maxRecDepth 20000 in
set_option maxHeartbeats 4000000 in
theorem l_least (G : Wd) (Z : ZS) (m : Nat) (sp a : Int) (hm : Z 24 2 = (m : Int)) (hm99 : m ≤ 99) (hg : ∀ i, i < m → -1000000 ≤ Z 32 i ∧ Z 32 i ≤ 1000000) (hs : 0 ≤ sp ∧ sp ≤ 1000) (ha : -1000000000 ≤ a ∧ a ≤ 1000000000) : ∀ (d : Nat) (i : Nat), m - i = d → i ≤ m → Cn G mX4_leastMore 8 [some (.ref 24), some (iv (a)), some (iv (sp)), some (iv (lM (Z 32) sp a i)), some (iv (sP (Z 32) sp a i)), some (iv ((i : Int)))] [] Z (qi (fun r W => lM (Z 32) sp a m = r ∧ Z = W)) := by
  intro d
  induction d using Nat.strongRecOn with
  | ind d ih =>
    intro i hd hi
    refine cz_iload (pc' := 10) (g_d dtbX4_leastMore_0 6 rfl) rfl rfl ?_
    refine cz_aload_n (pc' := 11) (g_d dtbX4_leastMore_0 7 rfl) rfl rfl ?_
    refine nz_getf (v := iv ((m : Int))) (pc' := 14) (g_d dtbX4_leastMore_0 8 rfl) gf_X4_31 (by decide) rfl (congrArg iv (hm)) rfl ?_
    refine nz_icmp_ge (tgt := 45) (pc' := 17) (g_d dtbX4_leastMore_0 9 rfl) (by omega) (by omega) rfl rfl (fun h14 => ?_) (fun h14 => ?_)
    · refine cz_iload_n (pc' := 46) (g_d dtbX4_leastMore_0 26 rfl) rfl rfl ?_
      refine nz_ri .int (g_d dtbX4_leastMore_0 27 rfl) rfl rfl ?_
      rw [show i = m by omega]; exact ⟨rfl, rfl⟩
    · have hS := sP_in hg hs ha i hi
      have hgi := hg i (by omega)
      have hM := lM_in hg hs ha hm99 i hi
      refine cz_iload (pc' := 19) (g_d dtbX4_leastMore_0 10 rfl) rfl rfl ?_
      refine cz_aload_n (pc' := 20) (g_d dtbX4_leastMore_0 11 rfl) rfl rfl ?_
      refine nz_getf (v := .ref 32) (pc' := 23) (g_d dtbX4_leastMore_0 12 rfl) gf_X4_18 (by decide) rfl rfl rfl ?_
      refine cz_iload (pc' := 25) (g_d dtbX4_leastMore_0 13 rfl) rfl rfl ?_
      refine nz_iald i (pc' := 26) (g_d dtbX4_leastMore_0 14 rfl) (by decide) rfl (by omega) (by rfl) (by omega) rfl ?_
      refine cz_iload_n (pc' := 27) (g_d dtbX4_leastMore_0 15 rfl) rfl rfl ?_
      refine nz_iadd (pc' := 28) (g_d dtbX4_leastMore_0 16 rfl) rfl ?_
      refine nz_isub (pc' := 29) (g_d dtbX4_leastMore_0 17 rfl) rfl ?_
      refine cz_istore (L' := [some (.ref 24), some (iv (a)), some (iv (sp)), some (iv (lM (Z 32) sp a i)), some (iv ((sP (Z 32) sp a i) - ((Z 32 i) + sp))), some (iv ((i : Int)))]) (pc' := 31) (g_d dtbX4_leastMore_0 18 rfl) (by decide) rfl rfl ?_
      refine cz_iload_n (pc' := 32) (g_d dtbX4_leastMore_0 19 rfl) rfl rfl ?_
      refine cz_iload (pc' := 34) (g_d dtbX4_leastMore_0 20 rfl) rfl rfl ?_
      refine nz_ineg (pc' := 35) (g_d dtbX4_leastMore_0 21 rfl) rfl ?_
      refine nz_cSi (M' := mJ9_max_7cf53) (As := [iv (lM (Z 32) sp a i), iv (-((sP (Z 32) sp a i) - ((Z 32 i) + sp)))]) (S := []) (L := [some (.ref 24), some (iv (a)), some (iv (sp)), some (iv (lM (Z 32) sp a i)), some (iv ((sP (Z 32) sp a i) - ((Z 32 i) + sp))), some (iv ((i : Int)))]) (pc' := 38) (g_d dtbX4_leastMore_0 22 rfl) lk_X4_28 okJ9_max_7cf53 rfl rfl (Nat.le_of_ble_eq_true rfl) (Nat.le_of_ble_eq_true rfl) (by decide) rfl (c_max G Z (lM (Z 32) sp a i) (-((sP (Z 32) sp a i) - ((Z 32 i) + sp))) (by omega) (by omega)) ?_
      rintro _ _ ⟨rfl, rfl⟩
      refine cz_istore_n (L' := [some (.ref 24), some (iv (a)), some (iv (sp)), some (iv (max (lM (Z 32) sp a i) (-((sP (Z 32) sp a i) - ((Z 32 i) + sp))))), some (iv ((sP (Z 32) sp a i) - ((Z 32 i) + sp))), some (iv ((i : Int)))]) (pc' := 39) (g_d dtbX4_leastMore_0 23 rfl) (by decide) rfl rfl ?_
      refine nz_iinc (L' := [some (.ref 24), some (iv (a)), some (iv (sp)), some (iv (max (lM (Z 32) sp a i) (-((sP (Z 32) sp a i) - ((Z 32 i) + sp))))), some (iv ((sP (Z 32) sp a i) - ((Z 32 i) + sp))), some (iv (((i : Int)) + 1))]) (pc' := 42) (g_d dtbX4_leastMore_0 24 rfl) (by decide) rfl rfl rfl ?_
      refine cz_goto (pc' := 8) (g_d dtbX4_leastMore_0 25 rfl) rfl ?_
      exact ih (m - (i + 1)) (by omega) (i + 1) rfl (by omega)

set_option maxRecDepth 20000 in
set_option maxHeartbeats 4000000 in
theorem c_leastMore (G : Wd) (Z : ZS) (m : Nat) (sp a : Int) (hm : Z 24 2 = (m : Int)) (hm99 : m ≤ 99) (hg : ∀ i, i < m → -1000000 ≤ Z 32 i ∧ Z 32 i ≤ 1000000) (hs : 0 ≤ sp ∧ sp ≤ 1000) (ha : -1000000000 ≤ a ∧ a ≤ 1000000000) : Cn G mX4_leastMore 0 [some (.ref 24), some (iv (a)), some (iv (sp)), none, none, none] [] Z (qi (fun r W => lM (Z 32) sp a m = r ∧ Z = W)) := by
  refine nz_iconst (pc' := 1) (g_d dtbX4_leastMore_0 0 rfl) rfl ?_
  refine cz_istore_n (L' := [some (.ref 24), some (iv (a)), some (iv (sp)), some (iv 0), none, none]) (pc' := 2) (g_d dtbX4_leastMore_0 1 rfl) (by decide) rfl rfl ?_
  refine cz_iload_n (pc' := 3) (g_d dtbX4_leastMore_0 2 rfl) rfl rfl ?_
  refine cz_istore (L' := [some (.ref 24), some (iv (a)), some (iv (sp)), some (iv 0), some (iv (a)), none]) (pc' := 5) (g_d dtbX4_leastMore_0 3 rfl) (by decide) rfl rfl ?_
  refine nz_iconst (pc' := 6) (g_d dtbX4_leastMore_0 4 rfl) rfl ?_
  refine cz_istore (L' := [some (.ref 24), some (iv (a)), some (iv (sp)), some (iv 0), some (iv (a)), some (iv 0)]) (pc' := 8) (g_d dtbX4_leastMore_0 5 rfl) (by decide) rfl rfl ?_
  exact l_least G Z m sp a hm hm99 hg hs ha (m - 0) 0 rfl (Nat.zero_le _)
end
section
/-! the whole state, told once: row, images (kept?, row), text (length, bytes), fraction, refusals -/
abbrev AS : Type := Row × (Int × Row) × (Int × Row) × (Nat × Row) × (Int × Int) × (Int × Int × Int)
def r108 (g f : Row) : Row := fun j => if j < 108 then g j else f j
def sF (A : AS) (f : Row) : AS := (f, A.2)
def sT (A : AS) (n : Nat) (t : Row) : AS := (A.1, A.2.1, A.2.2.1, (n, t), A.2.2.2.2)
def sQ (A : AS) (u l : Int) : AS := (A.1, A.2.1, A.2.2.1, A.2.2.2.1, (u, l), A.2.2.2.2.2)
def sI0 (A : AS) (g : Row) : AS := (A.1, (1, g), A.2.2)
def sI1 (A : AS) (g : Row) : AS := (A.1, A.2.1, (1, g), A.2.2.2)
def aBad (A : AS) : AS := (A.1, A.2.1, A.2.2.1, A.2.2.2.1, A.2.2.2.2.1, (A.2.2.2.2.2.1 + 1, A.2.2.2.2.2.2))
def aNo (A : AS) : AS := (A.1, A.2.1, A.2.2.1, A.2.2.2.1, A.2.2.2.2.1, (A.2.2.2.2.2.1, A.2.2.2.2.2.2.1 + 1, A.2.2.2.2.2.2.2))
def aFull (A : AS) : AS := (A.1, A.2.1, A.2.2.1, A.2.2.2.1, A.2.2.2.2.1, (A.2.2.2.2.2.1, A.2.2.2.2.2.2.1, A.2.2.2.2.2.2.2 + 1))
/-- how the class holds it -/
def CS (Z : ZS) (A : AS) : Prop := BR Z 1 A.1 ∧ (Z 16 0 = A.2.1.1 ∧ (A.2.1.1 = 1 → BR Z 6 A.2.1.2)) ∧ (Z 16 1 = A.2.2.1.1 ∧ (A.2.2.1.1 = 1 → BR Z 11 A.2.2.1.2)) ∧ (Z 17 2 = (A.2.2.2.1.1 : Int) ∧ ∀ i, i < A.2.2.2.1.1 → Z 18 i = A.2.2.2.1.2 i) ∧ (Z 0 8 = A.2.2.2.2.1.1 ∧ Z 0 9 = A.2.2.2.2.1.2) ∧ (Z 0 10 = A.2.2.2.2.2.1 ∧ Z 0 11 = A.2.2.2.2.2.2.1 ∧ Z 0 12 = A.2.2.2.2.2.2.2)
/-- how the other one does -/
def MS (Z : ZS) (A : AS) : Prop := Z 35 = A.1 ∧ (Z 39 0 = A.2.1.1 ∧ (A.2.1.1 = 1 → ∀ j, j < 108 → Z 38 j = A.2.1.2 j)) ∧ (Z 39 1 = A.2.2.1.1 ∧ (A.2.2.1.1 = 1 → ∀ j, j < 108 → Z 38 (108 + j) = A.2.2.1.2 j)) ∧ (Z 34 8 = (A.2.2.2.1.1 : Int) ∧ ∀ i, i < A.2.2.2.1.1 → Z 41 i = A.2.2.2.1.2 i) ∧ (Z 34 6 = A.2.2.2.2.1.1 ∧ Z 34 7 = A.2.2.2.2.1.2) ∧ (Z 40 0 = A.2.2.2.2.2.1 ∧ Z 40 1 = A.2.2.2.2.2.2.1 ∧ Z 40 2 = A.2.2.2.2.2.2.2)
/-- as it may be -/
def AO (B : Int) (A : AS) : Prop := (4000 ≤ B ∧ B ≤ 60000000) ∧ RO B A.1 ∧ ((A.2.1.1 = 0 ∨ A.2.1.1 = 1) ∧ (A.2.1.1 = 1 → RO B A.2.1.2)) ∧ ((A.2.2.1.1 = 0 ∨ A.2.2.1.1 = 1) ∧ (A.2.2.1.1 = 1 → RO B A.2.2.1.2)) ∧ (A.2.2.2.1.1 ≤ 150 ∧ ∀ i, i < A.2.2.2.1.1 → 0 ≤ A.2.2.2.1.2 i ∧ A.2.2.2.1.2 i ≤ 127) ∧ ((0 ≤ A.2.2.2.2.1.1 ∧ A.2.2.2.2.1.1 ≤ 1000) ∧ (1 ≤ A.2.2.2.2.1.2 ∧ A.2.2.2.2.1.2 ≤ 10)) ∧ ((0 ≤ A.2.2.2.2.2.1 ∧ A.2.2.2.2.2.1 ≤ B) ∧ (0 ≤ A.2.2.2.2.2.2.1 ∧ A.2.2.2.2.2.2.1 ≤ B) ∧ (0 ≤ A.2.2.2.2.2.2.2 ∧ A.2.2.2.2.2.2.2 ≤ B))
def FM (Z W : ZS) : Prop := ∀ a, 34 ≤ a → W a = Z a
def FC (Z W : ZS) : Prop := ∀ a, a < 34 → W a = Z a
theorem FM.rf {Z : ZS} : FM Z Z := fun _ _ => rfl
theorem FM.tr {Z W V : ZS} (h : FM Z W) (g : FM W V) : FM Z V := fun a ha => (g a ha).trans (h a ha)
theorem FM.u {Z W : ZS} {k j : Nat} {v : Int} (h : FM Z W) (hk : k < 34) : FM Z (zu W k j v) := fun a ha => by rw [zu_row (by omega)]; exact h a ha
theorem FM.r {Z W : ZS} {k : Nat} {g : Nat → Int} (h : FM Z W) (hk : k < 34) : FM Z (zr W k g) := fun a ha => by rw [zr_ne (by omega)]; exact h a ha
theorem FM.b {Z W V : ZS} {k : Nat} (h : FM Z W) (hk : k + 4 < 34) (g : Fb k W V) : FM Z V := h.tr (fun a ha => g a (by omega))
theorem FC.rf {Z : ZS} : FC Z Z := fun _ _ => rfl
theorem FC.tr {Z W V : ZS} (h : FC Z W) (g : FC W V) : FC Z V := fun a ha => (g a ha).trans (h a ha)
theorem FC.u {Z W : ZS} {k j : Nat} {v : Int} (h : FC Z W) (hk : 34 ≤ k) : FC Z (zu W k j v) := fun a ha => by rw [zu_row (by omega)]; exact h a ha
theorem FC.r {Z W : ZS} {k : Nat} {g : Nat → Int} (h : FC Z W) (hk : 34 ≤ k) : FC Z (zr W k g) := fun a ha => by rw [zr_ne (by omega)]; exact h a ha
theorem BR.ext {Z : ZS} {k : Nat} {f g : Row} (h : BR Z k f) (e : ∀ j, j < 108 → g j = f j) : BR Z k g := by
  obtain ⟨h1, h2, h3, h4, h5, h6, h7⟩ := h
  refine ⟨fun j hj => by rw [e j (by omega)]; exact h1 j hj, by rw [e 6 (by omega)]; exact h2, fun b hb hb2 => ?_, by rw [e 28 (by omega)]; exact h4, fun i hi hi2 p hp => ?_, by rw [e 59 (by omega)]; exact h6, fun i hi hi2 j hj => ?_⟩
  · rw [e 6 (by omega)] at hb2
    rw [e _ (by omega), e _ (by omega), e _ (by omega)]; exact h3 b hb hb2
  · rw [e 28 (by omega)] at hi2
    rw [e _ (by omega)]; exact h5 i hi hi2 p hp
  · rw [e 59 (by omega)] at hi2
    rw [e _ (by omega)]; exact h7 i hi hi2 j hj
theorem RO.ext {B : Int} {f g : Row} (h : RO B f) (e : ∀ j, j < 108 → g j = f j) : RO B g := by
  obtain ⟨h1, h2, h3, h4, h5, h6, h7⟩ := h
  refine ⟨h1.eq (fun j hj => e j (by omega)), by rw [e 6 (by omega)]; exact h2, fun b hb hb2 => ?_, by rw [e 28 (by omega)]; exact h4, fun i hi hi2 => ?_, by rw [e 59 (by omega)]; exact h6, fun i hi hi2 => ?_⟩
  · rw [e 6 (by omega)] at hb2
    unfold BO
    rw [e _ (by omega), e _ (by omega), e _ (by omega)]; exact h3 b hb hb2
  · rw [e 28 (by omega)] at hi2
    unfold NO1
    rw [e _ (by omega), e _ (by omega), e _ (by omega), e _ (by omega), e _ (by omega)]; exact h5 i hi hi2
  · rw [e 59 (by omega)] at hi2
    exact (h7 i hi hi2).eq (fun j hj => e _ (by omega))
theorem r108_at {g f : Row} {j : Nat} (h : j < 108) : r108 g f j = g j := by simp [r108, h]
/-- cells that nothing of the class's state lies in -/
def Sc (Z W : ZS) : Prop := (∀ a, a ≤ 16 ∨ a = 18 → W a = Z a) ∧ W 17 2 = Z 17 2
theorem Sc.rf {Z : ZS} : Sc Z Z := ⟨fun _ _ => rfl, rfl⟩
theorem Sc.tr {Z W V : ZS} (h : Sc Z W) (g : Sc W V) : Sc Z V := ⟨fun a ha => (g.1 a ha).trans (h.1 a ha), g.2.trans h.2⟩
theorem CS.sc {Z W : ZS} {A : AS} (h : CS Z A) (s : Sc Z W) : CS W A := by
  obtain ⟨h1, h2, h3, h4, h5, h6⟩ := h
  refine ⟨h1.eq (fun a q1 q2 => s.1 a (by omega)), ⟨by rw [s.1 16 (by omega)]; exact h2.1, fun q => (h2.2 q).eq (fun a q1 q2 => s.1 a (by omega))⟩, ⟨by rw [s.1 16 (by omega)]; exact h3.1, fun q => (h3.2 q).eq (fun a q1 q2 => s.1 a (by omega))⟩, ⟨s.2.trans h4.1, fun i hi => by rw [s.1 18 (by omega)]; exact h4.2 i hi⟩, ?_, ?_⟩
  · rw [s.1 0 (by omega)]; exact h5
  · rw [s.1 0 (by omega)]; exact h6
theorem CS.fc {Z W : ZS} {A : AS} (h : CS Z A) (g : FC Z W) : CS W A := h.sc ⟨fun a ha => g a (by omega), by rw [g 17 (by omega)]⟩
theorem MS.fm {Z W : ZS} {A : AS} (h : MS Z A) (g : FM Z W) : MS W A := by
  obtain ⟨h1, h2, h3, h4, h5, h6⟩ := h
  unfold MS
  rw [g 35 (by omega), g 39 (by omega), g 38 (by omega), g 34 (by omega), g 41 (by omega), g 40 (by omega)]
  exact ⟨h1, h2, h3, h4, h5, h6⟩
theorem CS.book {Z W : ZS} {A : AS} {f : Row} (h : CS Z A) (hb : BR W 1 f) (hF : Fb 1 Z W) : CS W (sF A f) := by
  obtain ⟨h1, h2, h3, h4, h5, h6⟩ := h
  refine ⟨hb, ⟨by rw [hF 16 (by omega)]; exact h2.1, fun q => (h2.2 q).fr hF (by omega)⟩, ⟨by rw [hF 16 (by omega)]; exact h3.1, fun q => (h3.2 q).fr hF (by omega)⟩, ⟨by rw [hF 17 (by omega)]; exact h4.1, fun i hi => by rw [hF 18 (by omega)]; exact h4.2 i hi⟩, ?_, ?_⟩
  · rw [hF 0 (by omega)]; exact h5
  · rw [hF 0 (by omega)]; exact h6
theorem cs_bad {Z : ZS} {A : AS} (h : CS Z A) : CS (zu Z 0 10 (Z 0 10 + 1)) (aBad A) := by
  obtain ⟨h1, h2, h3, h4, h5, h6⟩ := h
  have e : ∀ a, a ≠ 0 → (zu Z 0 10 (Z 0 10 + 1)) a = Z a := fun a ha => zu_row ha
  refine ⟨h1.eq (fun a q1 q2 => e a (by omega)), ⟨by rw [e 16 (by omega)]; exact h2.1, fun q => (h2.2 q).eq (fun a q1 q2 => e a (by omega))⟩, ⟨by rw [e 16 (by omega)]; exact h3.1, fun q => (h3.2 q).eq (fun a q1 q2 => e a (by omega))⟩, ⟨by rw [e 17 (by omega)]; exact h4.1, fun i hi => by rw [e 18 (by omega)]; exact h4.2 i hi⟩, ⟨by rw [zu_ne (by omega)]; exact h5.1, by rw [zu_ne (by omega)]; exact h5.2⟩, ⟨by rw [zu_eq, h6.1]; rfl, by rw [zu_ne (by omega)]; exact h6.2.1, by rw [zu_ne (by omega)]; exact h6.2.2⟩⟩
theorem cs_no {Z : ZS} {A : AS} (h : CS Z A) : CS (zu Z 0 11 (Z 0 11 + 1)) (aNo A) := by
  obtain ⟨h1, h2, h3, h4, h5, h6⟩ := h
  have e : ∀ a, a ≠ 0 → (zu Z 0 11 (Z 0 11 + 1)) a = Z a := fun a ha => zu_row ha
  refine ⟨h1.eq (fun a q1 q2 => e a (by omega)), ⟨by rw [e 16 (by omega)]; exact h2.1, fun q => (h2.2 q).eq (fun a q1 q2 => e a (by omega))⟩, ⟨by rw [e 16 (by omega)]; exact h3.1, fun q => (h3.2 q).eq (fun a q1 q2 => e a (by omega))⟩, ⟨by rw [e 17 (by omega)]; exact h4.1, fun i hi => by rw [e 18 (by omega)]; exact h4.2 i hi⟩, ⟨by rw [zu_ne (by omega)]; exact h5.1, by rw [zu_ne (by omega)]; exact h5.2⟩, ⟨by rw [zu_ne (by omega)]; exact h6.1, by rw [zu_eq, h6.2.1]; rfl, by rw [zu_ne (by omega)]; exact h6.2.2⟩⟩
theorem cs_full {Z : ZS} {A : AS} (h : CS Z A) : CS (zu Z 0 12 (Z 0 12 + 1)) (aFull A) := by
  obtain ⟨h1, h2, h3, h4, h5, h6⟩ := h
  have e : ∀ a, a ≠ 0 → (zu Z 0 12 (Z 0 12 + 1)) a = Z a := fun a ha => zu_row ha
  refine ⟨h1.eq (fun a q1 q2 => e a (by omega)), ⟨by rw [e 16 (by omega)]; exact h2.1, fun q => (h2.2 q).eq (fun a q1 q2 => e a (by omega))⟩, ⟨by rw [e 16 (by omega)]; exact h3.1, fun q => (h3.2 q).eq (fun a q1 q2 => e a (by omega))⟩, ⟨by rw [e 17 (by omega)]; exact h4.1, fun i hi => by rw [e 18 (by omega)]; exact h4.2 i hi⟩, ⟨by rw [zu_ne (by omega)]; exact h5.1, by rw [zu_ne (by omega)]; exact h5.2⟩, ⟨by rw [zu_ne (by omega)]; exact h6.1, by rw [zu_ne (by omega)]; exact h6.2.1, by rw [zu_eq, h6.2.2]; rfl⟩⟩
theorem AO.mono {B B' : Int} {A : AS} (h : AO B A) (hb : B ≤ B') (hb2 : B' ≤ 60000000) : AO B' A := by
  obtain ⟨h0, h1, h2, h3, h4, h5, h6⟩ := h
  exact ⟨by omega, h1.mono hb, ⟨h2.1, fun q => (h2.2 q).mono hb⟩, ⟨h3.1, fun q => (h3.2 q).mono hb⟩, h4, h5, by omega⟩
theorem AO.f {B : Int} {A : AS} {g : Row} (h : AO B A) (hg : RO B g) : AO B (sF A g) := ⟨h.1, hg, h.2.2⟩
theorem AO.bad {B : Int} {A : AS} (h : AO B A) (hb : B + 1 ≤ 60000000) : AO (B + 1) (aBad A) := by
  obtain ⟨h0, h1, h2, h3, h4, h5, h6⟩ := h.mono (show B ≤ B + 1 by omega) hb
  have := h.2.2.2.2.2.2
  refine ⟨by omega, h1, h2, h3, h4, h5, ?_⟩
  simp only [aBad]
  omega
theorem AO.no {B : Int} {A : AS} (h : AO B A) (hb : B + 1 ≤ 60000000) : AO (B + 1) (aNo A) := by
  obtain ⟨h0, h1, h2, h3, h4, h5, h6⟩ := h.mono (show B ≤ B + 1 by omega) hb
  have := h.2.2.2.2.2.2
  refine ⟨by omega, h1, h2, h3, h4, h5, ?_⟩
  simp only [aNo]
  omega
theorem AO.full {B : Int} {A : AS} (h : AO B A) (hb : B + 1 ≤ 60000000) : AO (B + 1) (aFull A) := by
  obtain ⟨h0, h1, h2, h3, h4, h5, h6⟩ := h.mono (show B ≤ B + 1 by omega) hb
  have := h.2.2.2.2.2.2
  refine ⟨by omega, h1, h2, h3, h4, h5, ?_⟩
  simp only [aFull]
  omega
end
section
set_option maxRecDepth 20000 in
set_option maxHeartbeats 4000000 in
theorem c_refuseBad (G : Wd) (Z : ZS) (a : Int) : Cn G mX10_refuseBad 0 [some (.ref 0), some (iv (a))] [] Z (qi (fun r W => a = r ∧ zu Z 0 10 (Z 0 10 + 1) = W)) := by
  refine cz_aload_n (pc' := 1) (g_d dtbX10_refuseBad_0 0 rfl) rfl rfl ?_
  refine cz_dup (pc' := 2) (g_d dtbX10_refuseBad_0 1 rfl) rfl rfl ?_
  refine nz_getf (v := iv (Z 0 10)) (pc' := 5) (g_d dtbX10_refuseBad_0 2 rfl) gf_X10_227 (by decide) rfl rfl rfl ?_
  refine nz_iconst (pc' := 6) (g_d dtbX10_refuseBad_0 3 rfl) rfl ?_
  refine nz_iadd (pc' := 7) (g_d dtbX10_refuseBad_0 4 rfl) rfl ?_
  refine nz_puti (pc' := 10) (g_d dtbX10_refuseBad_0 5 rfl) pf_X10_227 rfl (by decide) rfl rfl ?_
  refine cz_iload_n (pc' := 11) (g_d dtbX10_refuseBad_0 6 rfl) rfl rfl ?_
  refine nz_ri .int (g_d dtbX10_refuseBad_0 7 rfl) rfl rfl ?_
  exact ⟨rfl, rfl⟩

set_option maxRecDepth 20000 in
set_option maxHeartbeats 4000000 in
theorem c_refuseNo (G : Wd) (Z : ZS) : Cn G mX10_refuseNo 0 [some (.ref 0)] [] Z (qi (fun r W => -3 = r ∧ zu Z 0 11 (Z 0 11 + 1) = W)) := by
  refine cz_aload_n (pc' := 1) (g_d dtbX10_refuseNo_0 0 rfl) rfl rfl ?_
  refine cz_dup (pc' := 2) (g_d dtbX10_refuseNo_0 1 rfl) rfl rfl ?_
  refine nz_getf (v := iv (Z 0 11)) (pc' := 5) (g_d dtbX10_refuseNo_0 2 rfl) gf_X10_230 (by decide) rfl rfl rfl ?_
  refine nz_iconst (pc' := 6) (g_d dtbX10_refuseNo_0 3 rfl) rfl ?_
  refine nz_iadd (pc' := 7) (g_d dtbX10_refuseNo_0 4 rfl) rfl ?_
  refine nz_puti (pc' := 10) (g_d dtbX10_refuseNo_0 5 rfl) pf_X10_230 rfl (by decide) rfl rfl ?_
  refine nz_bipush (pc' := 12) (g_d dtbX10_refuseNo_0 6 rfl) (by decide) rfl ?_
  refine nz_ri .int (g_d dtbX10_refuseNo_0 7 rfl) rfl rfl ?_
  exact ⟨rfl, rfl⟩

set_option maxRecDepth 20000 in
set_option maxHeartbeats 4000000 in
theorem c_refuseFull (G : Wd) (Z : ZS) : Cn G mX10_refuseFull 0 [some (.ref 0)] [] Z (qi (fun r W => -4 = r ∧ zu Z 0 12 (Z 0 12 + 1) = W)) := by
  refine cz_aload_n (pc' := 1) (g_d dtbX10_refuseFull_0 0 rfl) rfl rfl ?_
  refine cz_dup (pc' := 2) (g_d dtbX10_refuseFull_0 1 rfl) rfl rfl ?_
  refine nz_getf (v := iv (Z 0 12)) (pc' := 5) (g_d dtbX10_refuseFull_0 2 rfl) gf_X10_233 (by decide) rfl rfl rfl ?_
  refine nz_iconst (pc' := 6) (g_d dtbX10_refuseFull_0 3 rfl) rfl ?_
  refine nz_iadd (pc' := 7) (g_d dtbX10_refuseFull_0 4 rfl) rfl ?_
  refine nz_puti (pc' := 10) (g_d dtbX10_refuseFull_0 5 rfl) pf_X10_233 rfl (by decide) rfl rfl ?_
  refine nz_bipush (pc' := 12) (g_d dtbX10_refuseFull_0 6 rfl) (by decide) rfl ?_
  refine nz_ri .int (g_d dtbX10_refuseFull_0 7 rfl) rfl rfl ?_
  exact ⟨rfl, rfl⟩

set_option maxRecDepth 20000 in
set_option maxHeartbeats 4000000 in
theorem c_isBill (G : Wd) (Z : ZS) (a d p : Int) (ha : -2147483648 ≤ a ∧ a ≤ 2147483647) (hd : -2147483648 ≤ d ∧ d ≤ 2147483647) (hp : -2147483648 ≤ p ∧ p ≤ 2147483647) : Cn G mX10_isBill 0 [some (iv (a)), some (iv (d)), some (iv (p))] [] Z (qi (fun r W => Z = W ∧ ((r = 1 ∧ (0 ≤ a ∧ a ≤ 5) ∧ (1 ≤ d ∧ d ≤ 28) ∧ (1 ≤ p ∧ p ≤ 99)) ∨ (r = 0 ∧ ¬ ((0 ≤ a ∧ a ≤ 5) ∧ (1 ≤ d ∧ d ≤ 28) ∧ (1 ≤ p ∧ p ≤ 99)))))) := by
  refine cz_iload_n (pc' := 1) (g_d dtbX10_isBill_0 0 rfl) rfl rfl ?_
  refine nz_iconst (pc' := 2) (g_d dtbX10_isBill_0 1 rfl) rfl ?_
  refine nz_iconst (pc' := 3) (g_d dtbX10_isBill_0 2 rfl) rfl ?_
  refine nz_cSi (M' := mX10_within) (As := [iv (a), iv 0, iv 5]) (S := []) (L := [some (iv (a)), some (iv (d)), some (iv (p))]) (pc' := 6) (g_d dtbX10_isBill_0 3 rfl) lk_X10_53 okX10_within rfl rfl (Nat.le_of_ble_eq_true rfl) (Nat.le_of_ble_eq_true rfl) (by decide) rfl (c_within G Z a 0 5 (by omega) (by omega) (by omega)) ?_
  rintro _ _ ⟨rfl, ⟨rfl, hw3⟩ | ⟨rfl, hw3⟩⟩
  · refine nz_if_eq_f (pc' := 9) (g_d dtbX10_isBill_0 4 rfl) (by omega) (by decide) rfl (by omega) ?_
    refine cz_iload_n (pc' := 10) (g_d dtbX10_isBill_0 5 rfl) rfl rfl ?_
    refine nz_iconst (pc' := 11) (g_d dtbX10_isBill_0 6 rfl) rfl ?_
    refine nz_bipush (pc' := 13) (g_d dtbX10_isBill_0 7 rfl) (by decide) rfl ?_
    refine nz_cSi (M' := mX10_within) (As := [iv (d), iv 1, iv 28]) (S := []) (L := [some (iv (a)), some (iv (d)), some (iv (p))]) (pc' := 16) (g_d dtbX10_isBill_0 8 rfl) lk_X10_53 okX10_within rfl rfl (Nat.le_of_ble_eq_true rfl) (Nat.le_of_ble_eq_true rfl) (by decide) rfl (c_within G Z d 1 28 (by omega) (by omega) (by omega)) ?_
    rintro _ _ ⟨rfl, ⟨rfl, hw13⟩ | ⟨rfl, hw13⟩⟩
    · refine nz_if_eq_f (pc' := 19) (g_d dtbX10_isBill_0 9 rfl) (by omega) (by decide) rfl (by omega) ?_
      refine cz_iload_n (pc' := 20) (g_d dtbX10_isBill_0 10 rfl) rfl rfl ?_
      refine nz_iconst (pc' := 21) (g_d dtbX10_isBill_0 11 rfl) rfl ?_
      refine nz_bipush (pc' := 23) (g_d dtbX10_isBill_0 12 rfl) (by decide) rfl ?_
      refine nz_cSi (M' := mX10_within) (As := [iv (p), iv 1, iv 99]) (S := []) (L := [some (iv (a)), some (iv (d)), some (iv (p))]) (pc' := 26) (g_d dtbX10_isBill_0 13 rfl) lk_X10_53 okX10_within rfl rfl (Nat.le_of_ble_eq_true rfl) (Nat.le_of_ble_eq_true rfl) (by decide) rfl (c_within G Z p 1 99 (by omega) (by omega) (by omega)) ?_
      rintro _ _ ⟨rfl, ⟨rfl, hw23⟩ | ⟨rfl, hw23⟩⟩
      · refine nz_if_eq_f (pc' := 29) (g_d dtbX10_isBill_0 14 rfl) (by omega) (by decide) rfl (by omega) ?_
        refine nz_iconst (pc' := 30) (g_d dtbX10_isBill_0 15 rfl) rfl ?_
        refine cz_goto (pc' := 34) (g_d dtbX10_isBill_0 16 rfl) rfl ?_
        refine nz_ri .boolean (g_d dtbX10_isBill_0 18 rfl) rfl rfl ?_
        exact ⟨rfl, by omega⟩
      · refine nz_if_eq_t (tgt := 33) (g_d dtbX10_isBill_0 14 rfl) (by omega) rfl (by omega) ?_
        refine nz_iconst (pc' := 34) (g_d dtbX10_isBill_0 17 rfl) rfl ?_
        refine nz_ri .boolean (g_d dtbX10_isBill_0 18 rfl) rfl rfl ?_
        exact ⟨rfl, by omega⟩
    · refine nz_if_eq_t (tgt := 33) (g_d dtbX10_isBill_0 9 rfl) (by omega) rfl (by omega) ?_
      refine nz_iconst (pc' := 34) (g_d dtbX10_isBill_0 17 rfl) rfl ?_
      refine nz_ri .boolean (g_d dtbX10_isBill_0 18 rfl) rfl rfl ?_
      exact ⟨rfl, by omega⟩
  · refine nz_if_eq_t (tgt := 33) (g_d dtbX10_isBill_0 4 rfl) (by omega) rfl (by omega) ?_
    refine nz_iconst (pc' := 34) (g_d dtbX10_isBill_0 17 rfl) rfl ?_
    refine nz_ri .boolean (g_d dtbX10_isBill_0 18 rfl) rfl rfl ?_
    exact ⟨rfl, by omega⟩

set_option maxRecDepth 20000 in
set_option maxHeartbeats 4000000 in
theorem c_isBN (G : Wd) (Z : ZS) (A : AS) (B : Int) (hC : CS Z A) (hA : AO B A) (b : Int) (hb : -2147483648 ≤ b ∧ b ≤ 2147483647) : Cn G mX10_isBillNumber 0 [some (.ref 0), some (iv (b))] [] Z (qi (fun r W => Z = W ∧ ((r = 1 ∧ 0 ≤ b ∧ b < A.1 6) ∨ (r = 0 ∧ ¬ (0 ≤ b ∧ b < A.1 6))))) := by
  have hB := hC.1
  have hb0 := hA.1
  have hO := hA.2.1
  have h6 : 0 ≤ A.1 6 ∧ A.1 6 ≤ 7 := hO.2.1
  have h28 : 0 ≤ A.1 28 ∧ A.1 28 ≤ 6 := hO.2.2.2.1
  have h59 : 0 ≤ A.1 59 ∧ A.1 59 ≤ 8 := hO.2.2.2.2.2.1
  have hf := hO.1
  unfold FO at hf
  have hct := hA.2.2.2.2.2.2
  refine cz_iload_n (pc' := 1) (g_d dtbX10_isBillNumber_0 0 rfl) rfl rfl ?_
  refine nz_if_lt (tgt := 19) (pc' := 4) (g_d dtbX10_isBillNumber_0 1 rfl) (by omega) rfl rfl (fun h1 => ?_) (fun h1 => ?_)
  · refine nz_iconst (pc' := 20) (g_d dtbX10_isBillNumber_0 9 rfl) rfl ?_
    refine nz_ri .boolean (g_d dtbX10_isBillNumber_0 10 rfl) rfl rfl ?_
    exact ⟨rfl, by omega⟩
  · refine cz_iload_n (pc' := 5) (g_d dtbX10_isBillNumber_0 2 rfl) rfl rfl ?_
    refine cz_aload_n (pc' := 6) (g_d dtbX10_isBillNumber_0 3 rfl) rfl rfl ?_
    refine nz_getf (v := .ref 1) (pc' := 9) (g_d dtbX10_isBillNumber_0 4 rfl) gf_X10_10 (by decide) rfl rfl rfl ?_
    refine nz_getf (v := iv (A.1 6)) (pc' := 12) (g_d dtbX10_isBillNumber_0 5 rfl) gf_X10_61 (by decide) rfl (congrArg iv (br1_4 (hB))) rfl ?_
    refine nz_icmp_ge (tgt := 19) (pc' := 15) (g_d dtbX10_isBillNumber_0 6 rfl) (by omega) (by omega) rfl rfl (fun h12 => ?_) (fun h12 => ?_)
    · refine nz_iconst (pc' := 20) (g_d dtbX10_isBillNumber_0 9 rfl) rfl ?_
      refine nz_ri .boolean (g_d dtbX10_isBillNumber_0 10 rfl) rfl rfl ?_
      exact ⟨rfl, by omega⟩
    · refine nz_iconst (pc' := 16) (g_d dtbX10_isBillNumber_0 7 rfl) rfl ?_
      refine cz_goto (pc' := 20) (g_d dtbX10_isBillNumber_0 8 rfl) rfl ?_
      refine nz_ri .boolean (g_d dtbX10_isBillNumber_0 10 rfl) rfl rfl ?_
      exact ⟨rfl, by omega⟩

set_option maxRecDepth 20000 in
set_option maxHeartbeats 4000000 in
theorem c_imageAt0 (G : Wd) (Z : ZS) : Cn G mX10_imageAt 0 [some (.ref 0), some (iv 0)] [] Z (qr (fun r W => 6 = r ∧ Z = W)) := by
  refine cz_iload_n (pc' := 1) (g_d dtbX10_imageAt_0 0 rfl) rfl rfl ?_
  refine nz_if_ne_f (pc' := 4) (g_d dtbX10_imageAt_0 1 rfl) (by omega) (by decide) rfl (by omega) ?_
  refine cz_aload_n (pc' := 5) (g_d dtbX10_imageAt_0 2 rfl) rfl rfl ?_
  refine nz_getf (v := .ref 6) (pc' := 8) (g_d dtbX10_imageAt_0 3 rfl) gf_X10_16 (by decide) rfl rfl rfl ?_
  refine cz_goto (pc' := 15) (g_d dtbX10_imageAt_0 4 rfl) rfl ?_
  refine nz_rr (g_d dtbX10_imageAt_0 7 rfl) rfl ?_
  exact ⟨rfl, rfl⟩

set_option maxRecDepth 20000 in
set_option maxHeartbeats 4000000 in
theorem c_imageAt1 (G : Wd) (Z : ZS) : Cn G mX10_imageAt 0 [some (.ref 0), some (iv 1)] [] Z (qr (fun r W => 11 = r ∧ Z = W)) := by
  refine cz_iload_n (pc' := 1) (g_d dtbX10_imageAt_0 0 rfl) rfl rfl ?_
  refine nz_if_ne_t (tgt := 11) (g_d dtbX10_imageAt_0 1 rfl) (by omega) rfl (by omega) ?_
  refine cz_aload_n (pc' := 12) (g_d dtbX10_imageAt_0 5 rfl) rfl rfl ?_
  refine nz_getf (v := .ref 11) (pc' := 15) (g_d dtbX10_imageAt_0 6 rfl) gf_X10_19 (by decide) rfl rfl rfl ?_
  refine nz_rr (g_d dtbX10_imageAt_0 7 rfl) rfl ?_
  exact ⟨rfl, rfl⟩

def xAccount (A : AS) (n : Int) : Int × AS := if 0 ≤ n ∧ n ≤ 999 then (A.1 6, sF A (r108 (ru rBegin 0 n) A.1)) else (-2, aBad A)
def xBill (A : AS) (a d p : Int) : Int × AS := if (0 ≤ a ∧ a ≤ 5) ∧ (1 ≤ d ∧ d ≤ 28) ∧ (1 ≤ p ∧ p ≤ 99) then (if A.1 6 = 7 then (-4, aFull A) else (A.1 6, sF A (rBill A.1 a d p))) else (-2, aBad A)
def xType (A : AS) (c : Int) : Int × AS := if 0 ≤ c ∧ c ≤ 127 then (if A.2.2.2.1.1 = 150 then (-4, aFull A) else ((A.2.2.2.1.1 : Int) + 1, sT A (A.2.2.2.1.1 + 1) (ru A.2.2.2.1.2 A.2.2.2.1.1 c))) else (-2, aBad A)
def xClear (A : AS) : Int × AS := ((A.2.2.2.1.1 : Int), sT A 0 A.2.2.2.1.2)
def xSpend (A : AS) (n : Int) : Int × AS := if 0 ≤ n ∧ n ≤ 30 then (A.1 5, sF A (ru (rKeep A.1) 5 n)) else (-2, aBad A)
def xJar (A : AS) (n : Int) : Int × AS := if -99 ≤ n ∧ n ≤ 99 then (if A.1 1 + n < 0 ∨ (0 < n ∧ A.1 0 - n < 0) then (-3, aNo A) else (A.1 1 + n, sF A (ru (ru (rKeep A.1) 0 (A.1 0 - n)) 1 (A.1 1 + n)))) else (-2, aBad A)
def xUndo (A : AS) : Int × AS := if A.1 59 = 0 then (-3, aNo A) else (rUndo A.1 3, sF A (rUndo A.1))
def xNow (A : AS) (w : Int) : Int × AS := if 0 ≤ w ∧ w ≤ 5 then (A.1 w.toNat, A) else (-100000, aBad A)
def xForget (A : AS) : Int × AS := (A.1 28, sF A (ru A.1 28 0))
def xNote (A : AS) (b d e m q : Int) : Int × AS := if (0 ≤ b ∧ b < A.1 6) ∧ (1 ≤ d ∧ d ≤ 28) ∧ (1 ≤ e ∧ e ≤ 28) ∧ (0 ≤ m ∧ m ≤ 40) ∧ (-999 ≤ q ∧ q ≤ 999) then (if A.1 28 = 6 then (-4, aFull A) else (A.1 28 + 1, sF A (rNote A.1 b d e m q))) else (-2, aBad A)
def xPart (A : AS) (w : Int) : Int × AS := if w = 0 then (A.2.2.2.2.1.1, A) else if w = 1 then (A.2.2.2.2.1.2, A) else (-2, aBad A)
def xImage (A : AS) (i : Int) : Int × AS := if i = 0 then (1, sI0 A A.1) else if i = 1 then (1, sI1 A A.1) else (-2, aBad A)
def xFrom (A : AS) (i : Int) : Int × AS := if i = 0 then (if A.2.1.1 = 0 then (-3, aNo A) else (1, sF A (r108 A.2.1.2 A.1))) else if i = 1 then (if A.2.2.1.1 = 0 then (-3, aNo A) else (1, sF A (r108 A.2.2.1.2 A.1))) else (-2, aBad A)
def xStatus (A : AS) (w : Int) : Int × AS := if w = 0 then (A.2.2.2.2.2.1, A) else if w = 1 then (A.2.2.2.2.2.2.1, A) else if w = 2 then (A.2.2.2.2.2.2.2, A) else (-1, aBad A)
def xCount (A : AS) (w : Int) : Int × AS := if w = 0 then (A.1 6, A) else if w = 1 then (A.1 28, A) else if w = 2 then (A.1 59, A) else if w = 3 then ((A.2.2.2.1.1 : Int), A) else (-2, aBad A)
theorem rKeep_lo {f : Row} {j : Nat} (h : j < 59) : rKeep f j = f j := by
  have hS : rShift f j = f j := by
    unfold rShift
    split
    · rw [ru_ne (by omega), if_neg (by omega)]
    · rfl
  rw [rKeep, rPut, ru_ne (by omega), if_neg (by omega), hS]
theorem CS.text {Z : ZS} {A : AS} {W : ZS} {n : Nat} {t : Row} (h : CS Z A) (e1 : ∀ a, a ≤ 16 → W a = Z a) (e2 : W 17 2 = (n : Int)) (e3 : ∀ i, i < n → W 18 i = t i) : CS W (sT A n t) := by
  obtain ⟨h1, h2, h3, h4, h5, h6⟩ := h
  refine ⟨h1.eq (fun a q1 q2 => e1 a (by omega)), ⟨by rw [e1 16 (by omega)]; exact h2.1, fun q => (h2.2 q).eq (fun a q1 q2 => e1 a (by omega))⟩, ⟨by rw [e1 16 (by omega)]; exact h3.1, fun q => (h3.2 q).eq (fun a q1 q2 => e1 a (by omega))⟩, ⟨e2, e3⟩, ?_, ?_⟩
  · rw [e1 0 (by omega)]; exact h5
  · rw [e1 0 (by omega)]; exact h6

set_option maxRecDepth 20000 in
set_option maxHeartbeats 4000000 in
theorem a_account (G : Wd) (Z : ZS) (A : AS) (B : Int) (hC : CS Z A) (hA : AO B A) (n : Int) (hn : -2147483648 ≤ n ∧ n ≤ 2147483647) : Cn G mX10_account 0 [some (.ref 0), some (iv (n)), none] [] Z (qi (fun r W => (xAccount A n).1 = r ∧ CS W (xAccount A n).2 ∧ FM Z W)) := by
  have hB := hC.1
  have hb0 := hA.1
  have hO := hA.2.1
  have h6 : 0 ≤ A.1 6 ∧ A.1 6 ≤ 7 := hO.2.1
  have h28 : 0 ≤ A.1 28 ∧ A.1 28 ≤ 6 := hO.2.2.2.1
  have h59 : 0 ≤ A.1 59 ∧ A.1 59 ≤ 8 := hO.2.2.2.2.2.1
  have hf := hO.1
  unfold FO at hf
  have hct := hA.2.2.2.2.2.2
  refine cz_iload_n (pc' := 1) (g_d dtbX10_account_0 0 rfl) rfl rfl ?_
  refine nz_iconst (pc' := 2) (g_d dtbX10_account_0 1 rfl) rfl ?_
  refine nz_sipush (pc' := 5) (g_d dtbX10_account_0 2 rfl) (by decide) rfl ?_
  refine nz_cSi (M' := mX10_within) (As := [iv (n), iv 0, iv 999]) (S := []) (L := [some (.ref 0), some (iv (n)), none]) (pc' := 8) (g_d dtbX10_account_0 3 rfl) lk_X10_53 okX10_within rfl rfl (Nat.le_of_ble_eq_true rfl) (Nat.le_of_ble_eq_true rfl) (by decide) rfl (c_within G Z n 0 999 (by omega) (by omega) (by omega)) ?_
  rintro _ _ ⟨rfl, ⟨rfl, hw5⟩ | ⟨rfl, hw5⟩⟩
  · refine nz_if_ne_t (tgt := 18) (g_d dtbX10_account_0 4 rfl) (by omega) rfl (by omega) ?_
    refine cz_aload_n (pc' := 19) (g_d dtbX10_account_0 9 rfl) rfl rfl ?_
    refine nz_getf (v := .ref 1) (pc' := 22) (g_d dtbX10_account_0 10 rfl) gf_X10_10 (by decide) rfl rfl rfl ?_
    refine nz_getf (v := iv (A.1 6)) (pc' := 25) (g_d dtbX10_account_0 11 rfl) gf_X10_61 (by decide) rfl (congrArg iv (br1_4 (hB))) rfl ?_
    refine cz_istore_n (L' := [some (.ref 0), some (iv (n)), some (iv (A.1 6))]) (pc' := 26) (g_d dtbX10_account_0 12 rfl) (by decide) rfl rfl ?_
    refine cz_aload_n (pc' := 27) (g_d dtbX10_account_0 13 rfl) rfl rfl ?_
    refine nz_getf (v := .ref 1) (pc' := 30) (g_d dtbX10_account_0 14 rfl) gf_X10_10 (by decide) rfl rfl rfl ?_
    refine cz_iload_n (pc' := 31) (g_d dtbX10_account_0 15 rfl) rfl rfl ?_
    refine nz_cVv (M' := mX0_beginWith) (k := 1) (As := [iv (n)]) (S := []) (L := [some (.ref 0), some (iv (n)), some (iv (A.1 6))]) (pc' := 34) (g_d dtbX10_account_0 16 rfl) lk_X10_65 okX0_beginWith (by decide) rfl rfl rfl rfl (Nat.le_of_ble_eq_true rfl) (Nat.le_of_ble_eq_true rfl) (by decide) rfl (c_beginWith G Z 1 n bk1) ?_
    rintro W1 ⟨hb1, hF1⟩
    refine cz_iload_n (pc' := 35) (g_d dtbX10_account_0 17 rfl) rfl rfl ?_
    refine nz_ri .int (g_d dtbX10_account_0 18 rfl) rfl rfl ?_
    rw [show xAccount A n = (A.1 6, sF A (r108 (ru rBegin 0 n) A.1)) from if_pos (by omega)]
    exact ⟨rfl, hC.book (hb1.ext (fun j hj => r108_at hj)) hF1, FM.rf.b (by decide) hF1⟩
  · refine nz_if_ne_f (pc' := 11) (g_d dtbX10_account_0 4 rfl) (by omega) (by decide) rfl (by omega) ?_
    refine cz_aload_n (pc' := 12) (g_d dtbX10_account_0 5 rfl) rfl rfl ?_
    refine nz_bipush (pc' := 14) (g_d dtbX10_account_0 6 rfl) (by decide) rfl ?_
    refine nz_cVi (M' := mX10_refuseBad) (k := 0) (As := [iv (-2)]) (S := []) (L := [some (.ref 0), some (iv (n)), none]) (pc' := 17) (g_d dtbX10_account_0 7 rfl) lk_X10_57 okX10_refuseBad (by decide) rfl rfl rfl rfl (Nat.le_of_ble_eq_true rfl) (Nat.le_of_ble_eq_true rfl) (by decide) rfl (c_refuseBad G Z (-2)) ?_
    rintro _ _ ⟨rfl, rfl⟩
    refine nz_ri .int (g_d dtbX10_account_0 8 rfl) rfl rfl ?_
    rw [show xAccount A n = (-2, aBad A) from by unfold xAccount; rw [if_neg (by omega)]]
    exact ⟨rfl, cs_bad hC, (FM.u FM.rf (by decide))⟩

set_option maxRecDepth 20000 in
set_option maxHeartbeats 4000000 in
theorem a_bill (G : Wd) (Z : ZS) (A : AS) (B : Int) (hC : CS Z A) (hA : AO B A) (a d p : Int) (ha : -2147483648 ≤ a ∧ a ≤ 2147483647) (hd : -2147483648 ≤ d ∧ d ≤ 2147483647) (hp : -2147483648 ≤ p ∧ p ≤ 2147483647) : Cn G mX10_bill 0 [some (.ref 0), some (iv (a)), some (iv (d)), some (iv (p))] [] Z (qi (fun r W => (xBill A a d p).1 = r ∧ CS W (xBill A a d p).2 ∧ FM Z W)) := by
  have hB := hC.1
  have hb0 := hA.1
  have hO := hA.2.1
  have h6 : 0 ≤ A.1 6 ∧ A.1 6 ≤ 7 := hO.2.1
  have h28 : 0 ≤ A.1 28 ∧ A.1 28 ≤ 6 := hO.2.2.2.1
  have h59 : 0 ≤ A.1 59 ∧ A.1 59 ≤ 8 := hO.2.2.2.2.2.1
  have hf := hO.1
  unfold FO at hf
  have hct := hA.2.2.2.2.2.2
  refine cz_iload_n (pc' := 1) (g_d dtbX10_bill_0 0 rfl) rfl rfl ?_
  refine cz_iload_n (pc' := 2) (g_d dtbX10_bill_0 1 rfl) rfl rfl ?_
  refine cz_iload_n (pc' := 3) (g_d dtbX10_bill_0 2 rfl) rfl rfl ?_
  refine nz_cSi (M' := mX10_isBill) (As := [iv (a), iv (d), iv (p)]) (S := []) (L := [some (.ref 0), some (iv (a)), some (iv (d)), some (iv (p))]) (pc' := 6) (g_d dtbX10_bill_0 3 rfl) lk_X10_69 okX10_isBill rfl rfl (Nat.le_of_ble_eq_true rfl) (Nat.le_of_ble_eq_true rfl) (by decide) rfl (c_isBill G Z a d p (by omega) (by omega) (by omega)) ?_
  rintro _ _ ⟨rfl, ⟨rfl, hw3⟩ | ⟨rfl, hw3⟩⟩
  · refine nz_if_ne_t (tgt := 16) (g_d dtbX10_bill_0 4 rfl) (by omega) rfl (by omega) ?_
    refine cz_aload_n (pc' := 17) (g_d dtbX10_bill_0 9 rfl) rfl rfl ?_
    refine nz_getf (v := .ref 1) (pc' := 20) (g_d dtbX10_bill_0 10 rfl) gf_X10_10 (by decide) rfl rfl rfl ?_
    refine nz_getf (v := iv (A.1 6)) (pc' := 23) (g_d dtbX10_bill_0 11 rfl) gf_X10_61 (by decide) rfl (congrArg iv (br1_4 (hB))) rfl ?_
    refine nz_bipush (pc' := 25) (g_d dtbX10_bill_0 12 rfl) (by decide) rfl ?_
    refine nz_icmp_lt (tgt := 33) (pc' := 28) (g_d dtbX10_bill_0 13 rfl) (by omega) (by omega) rfl rfl (fun h25 => ?_) (fun h25 => ?_)
    · refine cz_aload_n (pc' := 34) (g_d dtbX10_bill_0 17 rfl) rfl rfl ?_
      refine nz_getf (v := .ref 1) (pc' := 37) (g_d dtbX10_bill_0 18 rfl) gf_X10_10 (by decide) rfl rfl rfl ?_
      refine cz_iload_n (pc' := 38) (g_d dtbX10_bill_0 19 rfl) rfl rfl ?_
      refine cz_iload_n (pc' := 39) (g_d dtbX10_bill_0 20 rfl) rfl rfl ?_
      refine cz_iload_n (pc' := 40) (g_d dtbX10_bill_0 21 rfl) rfl rfl ?_
      refine nz_cVv (M' := mX0_addBill) (k := 1) (As := [iv (a), iv (d), iv (p)]) (S := []) (L := [some (.ref 0), some (iv (a)), some (iv (d)), some (iv (p))]) (pc' := 43) (g_d dtbX10_bill_0 22 rfl) lk_X10_76 okX0_addBill (by decide) rfl rfl rfl rfl (Nat.le_of_ble_eq_true rfl) (Nat.le_of_ble_eq_true rfl) (by decide) rfl (c_addBill G Z 1 (A.1 6).toNat A.1 a d p bk1 hB (by omega) (by omega)) ?_
      rintro W1 ⟨hb1, hF1⟩
      refine cz_aload_n (pc' := 44) (g_d dtbX10_bill_0 23 rfl) rfl rfl ?_
      refine nz_getf (v := .ref 1) (pc' := 47) (g_d dtbX10_bill_0 24 rfl) gf_X10_10 (by decide) rfl rfl rfl ?_
      refine nz_getf (v := iv (A.1 6 + 1)) (pc' := 50) (g_d dtbX10_bill_0 25 rfl) gf_X10_61 (by decide) rfl (congrArg iv (by rw [br1_4 hb1, rBill, ru_eq])) rfl ?_
      refine nz_iconst (pc' := 51) (g_d dtbX10_bill_0 26 rfl) rfl ?_
      refine nz_isub (pc' := 52) (g_d dtbX10_bill_0 27 rfl) rfl ?_
      refine nz_ri .int (g_d dtbX10_bill_0 28 rfl) rfl rfl ?_
      rw [show A.1 6 + 1 - 1 = A.1 6 by omega]
      rw [show xBill A a d p = (A.1 6, sF A (rBill A.1 a d p)) from by unfold xBill; rw [if_pos (by omega), if_neg (by omega)]]
      exact ⟨rfl, hC.book hb1 hF1, FM.rf.b (by decide) hF1⟩
    · refine cz_aload_n (pc' := 29) (g_d dtbX10_bill_0 14 rfl) rfl rfl ?_
      refine nz_cVi (M' := mX10_refuseFull) (k := 0) (As := []) (S := []) (L := [some (.ref 0), some (iv (a)), some (iv (d)), some (iv (p))]) (pc' := 32) (g_d dtbX10_bill_0 15 rfl) lk_X10_72 okX10_refuseFull (by decide) rfl rfl rfl rfl (Nat.le_of_ble_eq_true rfl) (Nat.le_of_ble_eq_true rfl) (by decide) rfl (c_refuseFull G Z) ?_
      rintro _ _ ⟨rfl, rfl⟩
      refine nz_ri .int (g_d dtbX10_bill_0 16 rfl) rfl rfl ?_
      rw [show xBill A a d p = (-4, aFull A) from by unfold xBill; rw [if_pos (by omega), if_pos (by omega)]]
      exact ⟨rfl, cs_full hC, (FM.u FM.rf (by decide))⟩
  · refine nz_if_ne_f (pc' := 9) (g_d dtbX10_bill_0 4 rfl) (by omega) (by decide) rfl (by omega) ?_
    refine cz_aload_n (pc' := 10) (g_d dtbX10_bill_0 5 rfl) rfl rfl ?_
    refine nz_bipush (pc' := 12) (g_d dtbX10_bill_0 6 rfl) (by decide) rfl ?_
    refine nz_cVi (M' := mX10_refuseBad) (k := 0) (As := [iv (-2)]) (S := []) (L := [some (.ref 0), some (iv (a)), some (iv (d)), some (iv (p))]) (pc' := 15) (g_d dtbX10_bill_0 7 rfl) lk_X10_57 okX10_refuseBad (by decide) rfl rfl rfl rfl (Nat.le_of_ble_eq_true rfl) (Nat.le_of_ble_eq_true rfl) (by decide) rfl (c_refuseBad G Z (-2)) ?_
    rintro _ _ ⟨rfl, rfl⟩
    refine nz_ri .int (g_d dtbX10_bill_0 8 rfl) rfl rfl ?_
    rw [show xBill A a d p = (-2, aBad A) from by unfold xBill; rw [if_neg (by omega)]]
    exact ⟨rfl, cs_bad hC, (FM.u FM.rf (by decide))⟩

theorem nar8 {a : Int} (ha : -128 ≤ a ∧ a ≤ 127) : (Int32.ofInt a).toInt8.toInt32 = Int32.ofInt a := by
  apply Int32.toInt_inj.mp
  rw [Int8.toInt_toInt32, Int32.toInt_toInt8, t32 (by omega), Int.bmod_eq_of_le (by omega) (by omega)]
theorem nz_i2b {G : Wd} {M : MD} {pc pc' : Nat} {L : List (Option Value)} {S : List Value} {Z : ZS} {Q : Option Value → ZS → Prop} {a : Int} (hd : decode M.2.1 pc = .ok (.i2b, 1)) (ha : -128 ≤ a ∧ a ≤ 127) (hp : pc + 1 = pc') (h : Cn G M pc' L (iv a :: S) Z Q) : Cn G M pc L (iv a :: S) Z Q := cz_i2b hd hp (by rw [nar8 ha]; exact h)
theorem nar8v {a : Int} (ha : -128 ≤ a ∧ a ≤ 127) : narrow .byte (iv a) = iv a := by
  have : narrow .byte (iv a) = .int (Int32.ofInt a).toInt8.toInt32 := rfl
  rw [this, nar8 ha]

set_option maxRecDepth 20000 in
set_option maxHeartbeats 4000000 in
theorem c_addByte (G : Wd) (Z : ZS) (n : Nat) (c : Int) (hn : Z 17 2 = (n : Int)) (hn2 : n < 150) (hc : 0 ≤ c ∧ c ≤ 127) : Cn G mX8_addByte 0 [some (.ref 17), some (iv (c))] [] Z (qv (fun W => zu (zu Z 18 n c) 17 2 ((n : Int) + 1) = W)) := by
  refine cz_aload_n (pc' := 1) (g_d dtbX8_addByte_0 0 rfl) rfl rfl ?_
  refine nz_getf (v := iv ((n : Int))) (pc' := 4) (g_d dtbX8_addByte_0 1 rfl) gf_X8_22 (by decide) rfl (congrArg iv (by simp [zu, hn])) rfl ?_
  refine nz_sipush (pc' := 7) (g_d dtbX8_addByte_0 2 rfl) (by decide) rfl ?_
  refine nz_icmp_ge_f (pc' := 10) (g_d dtbX8_addByte_0 3 rfl) (by omega) (by omega) (by decide) rfl (by omega) ?_
  refine cz_aload_n (pc' := 11) (g_d dtbX8_addByte_0 4 rfl) rfl rfl ?_
  refine nz_getf (v := .ref 18) (pc' := 14) (g_d dtbX8_addByte_0 5 rfl) gf_X8_9 (by decide) rfl rfl rfl ?_
  refine cz_aload_n (pc' := 15) (g_d dtbX8_addByte_0 6 rfl) rfl rfl ?_
  refine nz_getf (v := iv ((n : Int))) (pc' := 18) (g_d dtbX8_addByte_0 7 rfl) gf_X8_22 (by decide) rfl (congrArg iv (by simp [zu, hn])) rfl ?_
  refine cz_iload_n (pc' := 19) (g_d dtbX8_addByte_0 8 rfl) rfl rfl ?_
  refine nz_i2b (pc' := 20) (g_d dtbX8_addByte_0 9 rfl) (by omega) rfl ?_
  refine nz_bast n (pc' := 21) (g_d dtbX8_addByte_0 10 rfl) (by decide) rfl (by omega) (by rfl) (by omega) (by exact nar8v (by omega)) rfl ?_
  refine cz_aload_n (pc' := 22) (g_d dtbX8_addByte_0 11 rfl) rfl rfl ?_
  refine cz_dup (pc' := 23) (g_d dtbX8_addByte_0 12 rfl) rfl rfl ?_
  refine nz_getf (v := iv ((n : Int))) (pc' := 26) (g_d dtbX8_addByte_0 13 rfl) gf_X8_22 (by decide) rfl (congrArg iv (by simp [zu, hn])) rfl ?_
  refine nz_iconst (pc' := 27) (g_d dtbX8_addByte_0 14 rfl) rfl ?_
  refine nz_iadd (pc' := 28) (g_d dtbX8_addByte_0 15 rfl) rfl ?_
  refine nz_puti (pc' := 31) (g_d dtbX8_addByte_0 16 rfl) pf_X8_22 rfl (by decide) rfl rfl ?_
  refine nz_rv (g_d dtbX8_addByte_0 17 rfl) rfl ?_
  exact rfl

set_option maxRecDepth 20000 in
set_option maxHeartbeats 4000000 in
theorem a_type (G : Wd) (Z : ZS) (A : AS) (B : Int) (hC : CS Z A) (hA : AO B A) (c : Int) (hc : -2147483648 ≤ c ∧ c ≤ 2147483647) : Cn G mX10_type 0 [some (.ref 0), some (iv (c))] [] Z (qi (fun r W => (xType A c).1 = r ∧ CS W (xType A c).2 ∧ FM Z W)) := by
  have hB := hC.1
  have hb0 := hA.1
  have hO := hA.2.1
  have h6 : 0 ≤ A.1 6 ∧ A.1 6 ≤ 7 := hO.2.1
  have h28 : 0 ≤ A.1 28 ∧ A.1 28 ≤ 6 := hO.2.2.2.1
  have h59 : 0 ≤ A.1 59 ∧ A.1 59 ≤ 8 := hO.2.2.2.2.2.1
  have hf := hO.1
  unfold FO at hf
  have hct := hA.2.2.2.2.2.2
  have ht := hC.2.2.2.1
  have hto := hA.2.2.2.2.1
  refine cz_iload_n (pc' := 1) (g_d dtbX10_type_0 0 rfl) rfl rfl ?_
  refine nz_iconst (pc' := 2) (g_d dtbX10_type_0 1 rfl) rfl ?_
  refine nz_bipush (pc' := 4) (g_d dtbX10_type_0 2 rfl) (by decide) rfl ?_
  refine nz_cSi (M' := mX10_within) (As := [iv (c), iv 0, iv 127]) (S := []) (L := [some (.ref 0), some (iv (c))]) (pc' := 7) (g_d dtbX10_type_0 3 rfl) lk_X10_53 okX10_within rfl rfl (Nat.le_of_ble_eq_true rfl) (Nat.le_of_ble_eq_true rfl) (by decide) rfl (c_within G Z c 0 127 (by omega) (by omega) (by omega)) ?_
  rintro _ _ ⟨rfl, ⟨rfl, hw4⟩ | ⟨rfl, hw4⟩⟩
  · refine nz_if_ne_t (tgt := 17) (g_d dtbX10_type_0 4 rfl) (by omega) rfl (by omega) ?_
    refine cz_aload_n (pc' := 18) (g_d dtbX10_type_0 9 rfl) rfl rfl ?_
    refine nz_getf (v := .ref 17) (pc' := 21) (g_d dtbX10_type_0 10 rfl) gf_X10_29 (by decide) rfl rfl rfl ?_
    refine nz_getf (v := iv ((A.2.2.2.1.1 : Int))) (pc' := 24) (g_d dtbX10_type_0 11 rfl) gf_X10_80 (by decide) rfl (congrArg iv (ht.1)) rfl ?_
    refine nz_sipush (pc' := 27) (g_d dtbX10_type_0 12 rfl) (by decide) rfl ?_
    refine nz_icmp_lt (tgt := 35) (pc' := 30) (g_d dtbX10_type_0 13 rfl) (by omega) (by omega) rfl rfl (fun h27 => ?_) (fun h27 => ?_)
    · refine cz_aload_n (pc' := 36) (g_d dtbX10_type_0 17 rfl) rfl rfl ?_
      refine nz_getf (v := .ref 17) (pc' := 39) (g_d dtbX10_type_0 18 rfl) gf_X10_29 (by decide) rfl rfl rfl ?_
      refine cz_iload_n (pc' := 40) (g_d dtbX10_type_0 19 rfl) rfl rfl ?_
      refine nz_cVv (M' := mX8_addByte) (k := 17) (As := [iv (c)]) (S := []) (L := [some (.ref 0), some (iv (c))]) (pc' := 43) (g_d dtbX10_type_0 20 rfl) lk_X10_83 okX8_addByte (by decide) rfl rfl rfl rfl (Nat.le_of_ble_eq_true rfl) (Nat.le_of_ble_eq_true rfl) (by decide) rfl (c_addByte G Z A.2.2.2.1.1 c ht.1 (by omega) (by omega)) ?_
      rintro _ rfl
      refine cz_aload_n (pc' := 44) (g_d dtbX10_type_0 21 rfl) rfl rfl ?_
      refine nz_getf (v := .ref 17) (pc' := 47) (g_d dtbX10_type_0 22 rfl) gf_X10_29 (by decide) rfl rfl rfl ?_
      refine nz_getf (v := iv ((A.2.2.2.1.1 : Int) + 1)) (pc' := 50) (g_d dtbX10_type_0 23 rfl) gf_X10_80 (by decide) rfl (congrArg iv (by simp [zu, zr])) rfl ?_
      refine nz_ri .int (g_d dtbX10_type_0 24 rfl) rfl rfl ?_
      rw [show xType A c = ((A.2.2.2.1.1 : Int) + 1, sT A (A.2.2.2.1.1 + 1) (ru A.2.2.2.1.2 A.2.2.2.1.1 c)) from by unfold xType; rw [if_pos (by omega), if_neg (by omega)]]
      exact ⟨rfl, hC.text (fun a ha => by rw [zu_row (by omega), zu_row (by omega)]) (by rw [zu_eq]; rfl) (fun i hi => by rw [zu_row (by omega)]; exact (Decidable.em (i = A.2.2.2.1.1)).elim (fun q => by rw [q, zu_eq, ru_eq]) (fun q => by rw [zu_ne (Or.inr q), ru_ne q]; exact ht.2 i (by omega))), FM.u (FM.u FM.rf (by decide)) (by decide)⟩
    · refine cz_aload_n (pc' := 31) (g_d dtbX10_type_0 14 rfl) rfl rfl ?_
      refine nz_cVi (M' := mX10_refuseFull) (k := 0) (As := []) (S := []) (L := [some (.ref 0), some (iv (c))]) (pc' := 34) (g_d dtbX10_type_0 15 rfl) lk_X10_72 okX10_refuseFull (by decide) rfl rfl rfl rfl (Nat.le_of_ble_eq_true rfl) (Nat.le_of_ble_eq_true rfl) (by decide) rfl (c_refuseFull G Z) ?_
      rintro _ _ ⟨rfl, rfl⟩
      refine nz_ri .int (g_d dtbX10_type_0 16 rfl) rfl rfl ?_
      rw [show xType A c = (-4, aFull A) from by unfold xType; rw [if_pos (by omega), if_pos (by omega)]]
      exact ⟨rfl, cs_full hC, (FM.u FM.rf (by decide))⟩
  · refine nz_if_ne_f (pc' := 10) (g_d dtbX10_type_0 4 rfl) (by omega) (by decide) rfl (by omega) ?_
    refine cz_aload_n (pc' := 11) (g_d dtbX10_type_0 5 rfl) rfl rfl ?_
    refine nz_bipush (pc' := 13) (g_d dtbX10_type_0 6 rfl) (by decide) rfl ?_
    refine nz_cVi (M' := mX10_refuseBad) (k := 0) (As := [iv (-2)]) (S := []) (L := [some (.ref 0), some (iv (c))]) (pc' := 16) (g_d dtbX10_type_0 7 rfl) lk_X10_57 okX10_refuseBad (by decide) rfl rfl rfl rfl (Nat.le_of_ble_eq_true rfl) (Nat.le_of_ble_eq_true rfl) (by decide) rfl (c_refuseBad G Z (-2)) ?_
    rintro _ _ ⟨rfl, rfl⟩
    refine nz_ri .int (g_d dtbX10_type_0 8 rfl) rfl rfl ?_
    rw [show xType A c = (-2, aBad A) from by unfold xType; rw [if_neg (by omega)]]
    exact ⟨rfl, cs_bad hC, (FM.u FM.rf (by decide))⟩

set_option maxRecDepth 20000 in
set_option maxHeartbeats 4000000 in
theorem a_clear (G : Wd) (Z : ZS) (A : AS) (B : Int) (hC : CS Z A) (hA : AO B A) : Cn G mX10_clear 0 [some (.ref 0), none] [] Z (qi (fun r W => (xClear A).1 = r ∧ CS W (xClear A).2 ∧ FM Z W)) := by
  have hB := hC.1
  have hb0 := hA.1
  have hO := hA.2.1
  have h6 : 0 ≤ A.1 6 ∧ A.1 6 ≤ 7 := hO.2.1
  have h28 : 0 ≤ A.1 28 ∧ A.1 28 ≤ 6 := hO.2.2.2.1
  have h59 : 0 ≤ A.1 59 ∧ A.1 59 ≤ 8 := hO.2.2.2.2.2.1
  have hf := hO.1
  unfold FO at hf
  have hct := hA.2.2.2.2.2.2
  have ht := hC.2.2.2.1
  have hto := hA.2.2.2.2.1
  refine cz_aload_n (pc' := 1) (g_d dtbX10_clear_0 0 rfl) rfl rfl ?_
  refine nz_getf (v := .ref 17) (pc' := 4) (g_d dtbX10_clear_0 1 rfl) gf_X10_29 (by decide) rfl rfl rfl ?_
  refine nz_getf (v := iv ((A.2.2.2.1.1 : Int))) (pc' := 7) (g_d dtbX10_clear_0 2 rfl) gf_X10_80 (by decide) rfl (congrArg iv (ht.1)) rfl ?_
  refine cz_istore_n (L' := [some (.ref 0), some (iv ((A.2.2.2.1.1 : Int)))]) (pc' := 8) (g_d dtbX10_clear_0 3 rfl) (by decide) rfl rfl ?_
  refine cz_aload_n (pc' := 9) (g_d dtbX10_clear_0 4 rfl) rfl rfl ?_
  refine nz_getf (v := .ref 17) (pc' := 12) (g_d dtbX10_clear_0 5 rfl) gf_X10_29 (by decide) rfl rfl rfl ?_
  refine nz_iconst (pc' := 13) (g_d dtbX10_clear_0 6 rfl) rfl ?_
  refine nz_puti (pc' := 16) (g_d dtbX10_clear_0 7 rfl) pf_X10_80 rfl (by decide) rfl rfl ?_
  refine cz_iload_n (pc' := 17) (g_d dtbX10_clear_0 8 rfl) rfl rfl ?_
  refine nz_ri .int (g_d dtbX10_clear_0 9 rfl) rfl rfl ?_
  exact ⟨rfl, hC.text (fun a ha => zu_row (by omega)) zu_eq (fun i hi => absurd hi (Nat.not_lt_zero i)), FM.u FM.rf (by decide)⟩

set_option maxRecDepth 20000 in
set_option maxHeartbeats 4000000 in
theorem a_spend (G : Wd) (Z : ZS) (A : AS) (B : Int) (hC : CS Z A) (hA : AO B A) (n : Int) (hn : -2147483648 ≤ n ∧ n ≤ 2147483647) : Cn G mX10_spend 0 [some (.ref 0), some (iv (n)), none] [] Z (qi (fun r W => (xSpend A n).1 = r ∧ CS W (xSpend A n).2 ∧ FM Z W)) := by
  have hB := hC.1
  have hb0 := hA.1
  have hO := hA.2.1
  have h6 : 0 ≤ A.1 6 ∧ A.1 6 ≤ 7 := hO.2.1
  have h28 : 0 ≤ A.1 28 ∧ A.1 28 ≤ 6 := hO.2.2.2.1
  have h59 : 0 ≤ A.1 59 ∧ A.1 59 ≤ 8 := hO.2.2.2.2.2.1
  have hf := hO.1
  unfold FO at hf
  have hct := hA.2.2.2.2.2.2
  refine cz_iload_n (pc' := 1) (g_d dtbX10_spend_0 0 rfl) rfl rfl ?_
  refine nz_iconst (pc' := 2) (g_d dtbX10_spend_0 1 rfl) rfl ?_
  refine nz_bipush (pc' := 4) (g_d dtbX10_spend_0 2 rfl) (by decide) rfl ?_
  refine nz_cSi (M' := mX10_within) (As := [iv (n), iv 0, iv 30]) (S := []) (L := [some (.ref 0), some (iv (n)), none]) (pc' := 7) (g_d dtbX10_spend_0 3 rfl) lk_X10_53 okX10_within rfl rfl (Nat.le_of_ble_eq_true rfl) (Nat.le_of_ble_eq_true rfl) (by decide) rfl (c_within G Z n 0 30 (by omega) (by omega) (by omega)) ?_
  rintro _ _ ⟨rfl, ⟨rfl, hw4⟩ | ⟨rfl, hw4⟩⟩
  · refine nz_if_ne_t (tgt := 17) (g_d dtbX10_spend_0 4 rfl) (by omega) rfl (by omega) ?_
    refine cz_aload_n (pc' := 18) (g_d dtbX10_spend_0 9 rfl) rfl rfl ?_
    refine nz_getf (v := .ref 1) (pc' := 21) (g_d dtbX10_spend_0 10 rfl) gf_X10_10 (by decide) rfl rfl rfl ?_
    refine nz_cVv (M' := mX0_keepPast) (k := 1) (As := []) (S := []) (L := [some (.ref 0), some (iv (n)), none]) (pc' := 24) (g_d dtbX10_spend_0 11 rfl) lk_X10_96 okX0_keepPast (by decide) rfl rfl rfl rfl (Nat.le_of_ble_eq_true rfl) (Nat.le_of_ble_eq_true rfl) (by decide) rfl (c_keepPast G Z 1 A.1 bk1 hB h59) ?_
    rintro W1 ⟨hb1, hF1⟩
    have hC1 := hC.book hb1 hF1
    refine cz_aload_n (pc' := 25) (g_d dtbX10_spend_0 12 rfl) rfl rfl ?_
    refine nz_getf (v := .ref 1) (pc' := 28) (g_d dtbX10_spend_0 13 rfl) gf_X10_10 (by decide) rfl rfl rfl ?_
    refine nz_getf (v := .ref 2) (pc' := 31) (g_d dtbX10_spend_0 14 rfl) gf_X10_99 (by decide) rfl rfl rfl ?_
    refine nz_iconst (pc' := 32) (g_d dtbX10_spend_0 15 rfl) rfl ?_
    refine nz_iald 5 (pc' := 33) (g_d dtbX10_spend_0 16 rfl) (by decide) rfl (by omega) (by rfl) (by omega) rfl ?_
    rw [show W1 2 5 = A.1 5 from (br1_fig hb1 (by decide)).trans (rKeep_lo (by decide))]
    refine cz_istore_n (L' := [some (.ref 0), some (iv (n)), some (iv (A.1 5))]) (pc' := 34) (g_d dtbX10_spend_0 17 rfl) (by decide) rfl rfl ?_
    refine cz_aload_n (pc' := 35) (g_d dtbX10_spend_0 18 rfl) rfl rfl ?_
    refine nz_getf (v := .ref 1) (pc' := 38) (g_d dtbX10_spend_0 19 rfl) gf_X10_10 (by decide) rfl rfl rfl ?_
    refine nz_getf (v := .ref 2) (pc' := 41) (g_d dtbX10_spend_0 20 rfl) gf_X10_99 (by decide) rfl rfl rfl ?_
    refine nz_iconst (pc' := 42) (g_d dtbX10_spend_0 21 rfl) rfl ?_
    refine cz_iload_n (pc' := 43) (g_d dtbX10_spend_0 22 rfl) rfl rfl ?_
    refine nz_iast 5 (pc' := 44) (g_d dtbX10_spend_0 23 rfl) (by decide) rfl (by omega) (by rfl) (by omega) rfl ?_
    refine cz_iload_n (pc' := 45) (g_d dtbX10_spend_0 24 rfl) rfl rfl ?_
    refine nz_ri .int (g_d dtbX10_spend_0 25 rfl) rfl rfl ?_
    rw [show xSpend A n = (A.1 5, sF A (ru (rKeep A.1) 5 n)) from if_pos (by omega)]
    exact ⟨rfl, hC.book (br_fig hb1 (by decide)) (hF1.u (by decide)), FM.u (FM.rf.b (by decide) hF1) (by decide)⟩
  · refine nz_if_ne_f (pc' := 10) (g_d dtbX10_spend_0 4 rfl) (by omega) (by decide) rfl (by omega) ?_
    refine cz_aload_n (pc' := 11) (g_d dtbX10_spend_0 5 rfl) rfl rfl ?_
    refine nz_bipush (pc' := 13) (g_d dtbX10_spend_0 6 rfl) (by decide) rfl ?_
    refine nz_cVi (M' := mX10_refuseBad) (k := 0) (As := [iv (-2)]) (S := []) (L := [some (.ref 0), some (iv (n)), none]) (pc' := 16) (g_d dtbX10_spend_0 7 rfl) lk_X10_57 okX10_refuseBad (by decide) rfl rfl rfl rfl (Nat.le_of_ble_eq_true rfl) (Nat.le_of_ble_eq_true rfl) (by decide) rfl (c_refuseBad G Z (-2)) ?_
    rintro _ _ ⟨rfl, rfl⟩
    refine nz_ri .int (g_d dtbX10_spend_0 8 rfl) rfl rfl ?_
    rw [show xSpend A n = (-2, aBad A) from by unfold xSpend; rw [if_neg (by omega)]]
    exact ⟨rfl, cs_bad hC, (FM.u FM.rf (by decide))⟩

set_option maxRecDepth 20000 in
set_option maxHeartbeats 4000000 in
theorem a_jar (G : Wd) (Z : ZS) (A : AS) (B : Int) (hC : CS Z A) (hA : AO B A) (n : Int) (hn : -2147483648 ≤ n ∧ n ≤ 2147483647) : Cn G mX10_jar 0 [some (.ref 0), some (iv (n)), none, none] [] Z (qi (fun r W => (xJar A n).1 = r ∧ CS W (xJar A n).2 ∧ FM Z W)) := by
  have hB := hC.1
  have hb0 := hA.1
  have hO := hA.2.1
  have h6 : 0 ≤ A.1 6 ∧ A.1 6 ≤ 7 := hO.2.1
  have h28 : 0 ≤ A.1 28 ∧ A.1 28 ≤ 6 := hO.2.2.2.1
  have h59 : 0 ≤ A.1 59 ∧ A.1 59 ≤ 8 := hO.2.2.2.2.2.1
  have hf := hO.1
  unfold FO at hf
  have hct := hA.2.2.2.2.2.2
  refine cz_iload_n (pc' := 1) (g_d dtbX10_jar_0 0 rfl) rfl rfl ?_
  refine nz_bipush (pc' := 3) (g_d dtbX10_jar_0 1 rfl) (by decide) rfl ?_
  refine nz_bipush (pc' := 5) (g_d dtbX10_jar_0 2 rfl) (by decide) rfl ?_
  refine nz_cSi (M' := mX10_within) (As := [iv (n), iv (-99), iv 99]) (S := []) (L := [some (.ref 0), some (iv (n)), none, none]) (pc' := 8) (g_d dtbX10_jar_0 3 rfl) lk_X10_53 okX10_within rfl rfl (Nat.le_of_ble_eq_true rfl) (Nat.le_of_ble_eq_true rfl) (by decide) rfl (c_within G Z n (-99) 99 (by omega) (by omega) (by omega)) ?_
  rintro _ _ ⟨rfl, ⟨rfl, hw5⟩ | ⟨rfl, hw5⟩⟩
  · refine nz_if_ne_t (tgt := 18) (g_d dtbX10_jar_0 4 rfl) (by omega) rfl (by omega) ?_
    refine cz_aload_n (pc' := 19) (g_d dtbX10_jar_0 9 rfl) rfl rfl ?_
    refine nz_getf (v := .ref 1) (pc' := 22) (g_d dtbX10_jar_0 10 rfl) gf_X10_10 (by decide) rfl rfl rfl ?_
    refine nz_getf (v := .ref 2) (pc' := 25) (g_d dtbX10_jar_0 11 rfl) gf_X10_99 (by decide) rfl rfl rfl ?_
    refine nz_iconst (pc' := 26) (g_d dtbX10_jar_0 12 rfl) rfl ?_
    refine nz_iald 1 (pc' := 27) (g_d dtbX10_jar_0 13 rfl) (by decide) rfl (by omega) (by rfl) (by omega) rfl ?_
    rw [show Z 2 1 = A.1 1 from br1_fig (hB) (by decide)]
    refine cz_iload_n (pc' := 28) (g_d dtbX10_jar_0 14 rfl) rfl rfl ?_
    refine nz_iadd (pc' := 29) (g_d dtbX10_jar_0 15 rfl) rfl ?_
    refine nz_if_ge (tgt := 36) (pc' := 32) (g_d dtbX10_jar_0 16 rfl) (by omega) rfl rfl (fun h29 => ?_) (fun h29 => ?_)
    · refine nz_iconst (pc' := 37) (g_d dtbX10_jar_0 19 rfl) rfl ?_
      refine cz_istore_n (L' := [some (.ref 0), some (iv (n)), some (iv 0), none]) (pc' := 38) (g_d dtbX10_jar_0 20 rfl) (by decide) rfl rfl ?_
      refine cz_iload_n (pc' := 39) (g_d dtbX10_jar_0 21 rfl) rfl rfl ?_
      refine nz_if_le (tgt := 60) (pc' := 42) (g_d dtbX10_jar_0 22 rfl) (by omega) rfl rfl (fun h39 => ?_) (fun h39 => ?_)
      · refine nz_iconst (pc' := 61) (g_d dtbX10_jar_0 33 rfl) rfl ?_
        refine cz_istore_n (L' := [some (.ref 0), some (iv (n)), some (iv 0), some (iv 0)]) (pc' := 62) (g_d dtbX10_jar_0 34 rfl) (by decide) rfl rfl ?_
        refine cz_iload_n (pc' := 63) (g_d dtbX10_jar_0 35 rfl) rfl rfl ?_
        refine nz_if_ne_f (pc' := 66) (g_d dtbX10_jar_0 36 rfl) (by omega) (by decide) rfl (by omega) ?_
        refine cz_iload_n (pc' := 67) (g_d dtbX10_jar_0 37 rfl) rfl rfl ?_
        refine nz_if_eq_t (tgt := 75) (g_d dtbX10_jar_0 38 rfl) (by omega) rfl (by omega) ?_
        refine cz_aload_n (pc' := 76) (g_d dtbX10_jar_0 42 rfl) rfl rfl ?_
        refine nz_getf (v := .ref 1) (pc' := 79) (g_d dtbX10_jar_0 43 rfl) gf_X10_10 (by decide) rfl rfl rfl ?_
        refine nz_cVv (M' := mX0_keepPast) (k := 1) (As := []) (S := []) (L := [some (.ref 0), some (iv (n)), some (iv 0), some (iv 0)]) (pc' := 82) (g_d dtbX10_jar_0 44 rfl) lk_X10_96 okX0_keepPast (by decide) rfl rfl rfl rfl (Nat.le_of_ble_eq_true rfl) (Nat.le_of_ble_eq_true rfl) (by decide) rfl (c_keepPast G Z 1 A.1 bk1 hB h59) ?_
        rintro W1 ⟨hb1, hF1⟩
        have hC1 := hC.book hb1 hF1
        refine cz_aload_n (pc' := 83) (g_d dtbX10_jar_0 45 rfl) rfl rfl ?_
        refine nz_getf (v := .ref 1) (pc' := 86) (g_d dtbX10_jar_0 46 rfl) gf_X10_10 (by decide) rfl rfl rfl ?_
        refine nz_getf (v := .ref 2) (pc' := 89) (g_d dtbX10_jar_0 47 rfl) gf_X10_99 (by decide) rfl rfl rfl ?_
        refine nz_iconst (pc' := 90) (g_d dtbX10_jar_0 48 rfl) rfl ?_
        refine cz_dup2 (pc' := 91) (g_d dtbX10_jar_0 49 rfl) rfl rfl rfl ?_
        refine nz_iald 0 (pc' := 92) (g_d dtbX10_jar_0 50 rfl) (by decide) rfl (by omega) (by rfl) (by omega) rfl ?_
        rw [show W1 2 0 = A.1 0 from (br1_fig hb1 (by decide)).trans (rKeep_lo (by decide))]
        refine cz_iload_n (pc' := 93) (g_d dtbX10_jar_0 51 rfl) rfl rfl ?_
        refine nz_isub (pc' := 94) (g_d dtbX10_jar_0 52 rfl) rfl ?_
        refine nz_iast 0 (pc' := 95) (g_d dtbX10_jar_0 53 rfl) (by decide) rfl (by omega) (by rfl) (by omega) rfl ?_
        refine cz_aload_n (pc' := 96) (g_d dtbX10_jar_0 54 rfl) rfl rfl ?_
        refine nz_getf (v := .ref 1) (pc' := 99) (g_d dtbX10_jar_0 55 rfl) gf_X10_10 (by decide) rfl rfl rfl ?_
        refine nz_getf (v := .ref 2) (pc' := 102) (g_d dtbX10_jar_0 56 rfl) gf_X10_99 (by decide) rfl rfl rfl ?_
        refine nz_iconst (pc' := 103) (g_d dtbX10_jar_0 57 rfl) rfl ?_
        refine cz_dup2 (pc' := 104) (g_d dtbX10_jar_0 58 rfl) rfl rfl rfl ?_
        refine nz_iald 1 (pc' := 105) (g_d dtbX10_jar_0 59 rfl) (by decide) rfl (by omega) (by rfl) (by omega) rfl ?_
        rw [show (zu W1 2 0 ((A.1 0) - n)) 2 1 = A.1 1 from by rw [show (zu W1 2 0 ((A.1 0) - n)) 2 1 = W1 2 1 from by simp [zu]]; exact (br1_fig hb1 (by decide)).trans (rKeep_lo (by decide))]
        refine cz_iload_n (pc' := 106) (g_d dtbX10_jar_1 0 rfl) rfl rfl ?_
        refine nz_iadd (pc' := 107) (g_d dtbX10_jar_1 1 rfl) rfl ?_
        refine nz_iast 1 (pc' := 108) (g_d dtbX10_jar_1 2 rfl) (by decide) rfl (by omega) (by rfl) (by omega) rfl ?_
        refine cz_aload_n (pc' := 109) (g_d dtbX10_jar_1 3 rfl) rfl rfl ?_
        refine nz_getf (v := .ref 1) (pc' := 112) (g_d dtbX10_jar_1 4 rfl) gf_X10_10 (by decide) rfl rfl rfl ?_
        refine nz_getf (v := .ref 2) (pc' := 115) (g_d dtbX10_jar_1 5 rfl) gf_X10_99 (by decide) rfl rfl rfl ?_
        refine nz_iconst (pc' := 116) (g_d dtbX10_jar_1 6 rfl) rfl ?_
        refine nz_iald 1 (pc' := 117) (g_d dtbX10_jar_1 7 rfl) (by decide) rfl (by omega) (by rfl) (by omega) rfl ?_
        rw [show (zu (zu W1 2 0 ((A.1 0) - n)) 2 1 ((A.1 1) + n)) 2 1 = (A.1 1) + n from by simp [zu]]
        refine nz_ri .int (g_d dtbX10_jar_1 8 rfl) rfl rfl ?_
        rw [show xJar A n = (A.1 1 + n, sF A (ru (ru (rKeep A.1) 0 (A.1 0 - n)) 1 (A.1 1 + n))) from by unfold xJar; rw [if_pos (by omega), if_neg (by omega)]]
        exact ⟨rfl, hC.book (br_fig (br_fig hb1 (by decide)) (by decide)) ((hF1.u (by decide)).u (by decide)), FM.u (FM.u (FM.rf.b (by decide) hF1) (by decide)) (by decide)⟩
      · refine cz_aload_n (pc' := 43) (g_d dtbX10_jar_0 23 rfl) rfl rfl ?_
        refine nz_getf (v := .ref 1) (pc' := 46) (g_d dtbX10_jar_0 24 rfl) gf_X10_10 (by decide) rfl rfl rfl ?_
        refine nz_getf (v := .ref 2) (pc' := 49) (g_d dtbX10_jar_0 25 rfl) gf_X10_99 (by decide) rfl rfl rfl ?_
        refine nz_iconst (pc' := 50) (g_d dtbX10_jar_0 26 rfl) rfl ?_
        refine nz_iald 0 (pc' := 51) (g_d dtbX10_jar_0 27 rfl) (by decide) rfl (by omega) (by rfl) (by omega) rfl ?_
        rw [show Z 2 0 = A.1 0 from br1_fig (hB) (by decide)]
        refine cz_iload_n (pc' := 52) (g_d dtbX10_jar_0 28 rfl) rfl rfl ?_
        refine nz_isub (pc' := 53) (g_d dtbX10_jar_0 29 rfl) rfl ?_
        refine nz_if_ge (tgt := 60) (pc' := 56) (g_d dtbX10_jar_0 30 rfl) (by omega) rfl rfl (fun h53 => ?_) (fun h53 => ?_)
        · refine nz_iconst (pc' := 61) (g_d dtbX10_jar_0 33 rfl) rfl ?_
          refine cz_istore_n (L' := [some (.ref 0), some (iv (n)), some (iv 0), some (iv 0)]) (pc' := 62) (g_d dtbX10_jar_0 34 rfl) (by decide) rfl rfl ?_
          refine cz_iload_n (pc' := 63) (g_d dtbX10_jar_0 35 rfl) rfl rfl ?_
          refine nz_if_ne_f (pc' := 66) (g_d dtbX10_jar_0 36 rfl) (by omega) (by decide) rfl (by omega) ?_
          refine cz_iload_n (pc' := 67) (g_d dtbX10_jar_0 37 rfl) rfl rfl ?_
          refine nz_if_eq_t (tgt := 75) (g_d dtbX10_jar_0 38 rfl) (by omega) rfl (by omega) ?_
          refine cz_aload_n (pc' := 76) (g_d dtbX10_jar_0 42 rfl) rfl rfl ?_
          refine nz_getf (v := .ref 1) (pc' := 79) (g_d dtbX10_jar_0 43 rfl) gf_X10_10 (by decide) rfl rfl rfl ?_
          refine nz_cVv (M' := mX0_keepPast) (k := 1) (As := []) (S := []) (L := [some (.ref 0), some (iv (n)), some (iv 0), some (iv 0)]) (pc' := 82) (g_d dtbX10_jar_0 44 rfl) lk_X10_96 okX0_keepPast (by decide) rfl rfl rfl rfl (Nat.le_of_ble_eq_true rfl) (Nat.le_of_ble_eq_true rfl) (by decide) rfl (c_keepPast G Z 1 A.1 bk1 hB h59) ?_
          rintro W1 ⟨hb1, hF1⟩
          have hC1 := hC.book hb1 hF1
          refine cz_aload_n (pc' := 83) (g_d dtbX10_jar_0 45 rfl) rfl rfl ?_
          refine nz_getf (v := .ref 1) (pc' := 86) (g_d dtbX10_jar_0 46 rfl) gf_X10_10 (by decide) rfl rfl rfl ?_
          refine nz_getf (v := .ref 2) (pc' := 89) (g_d dtbX10_jar_0 47 rfl) gf_X10_99 (by decide) rfl rfl rfl ?_
          refine nz_iconst (pc' := 90) (g_d dtbX10_jar_0 48 rfl) rfl ?_
          refine cz_dup2 (pc' := 91) (g_d dtbX10_jar_0 49 rfl) rfl rfl rfl ?_
          refine nz_iald 0 (pc' := 92) (g_d dtbX10_jar_0 50 rfl) (by decide) rfl (by omega) (by rfl) (by omega) rfl ?_
          rw [show W1 2 0 = A.1 0 from (br1_fig hb1 (by decide)).trans (rKeep_lo (by decide))]
          refine cz_iload_n (pc' := 93) (g_d dtbX10_jar_0 51 rfl) rfl rfl ?_
          refine nz_isub (pc' := 94) (g_d dtbX10_jar_0 52 rfl) rfl ?_
          refine nz_iast 0 (pc' := 95) (g_d dtbX10_jar_0 53 rfl) (by decide) rfl (by omega) (by rfl) (by omega) rfl ?_
          refine cz_aload_n (pc' := 96) (g_d dtbX10_jar_0 54 rfl) rfl rfl ?_
          refine nz_getf (v := .ref 1) (pc' := 99) (g_d dtbX10_jar_0 55 rfl) gf_X10_10 (by decide) rfl rfl rfl ?_
          refine nz_getf (v := .ref 2) (pc' := 102) (g_d dtbX10_jar_0 56 rfl) gf_X10_99 (by decide) rfl rfl rfl ?_
          refine nz_iconst (pc' := 103) (g_d dtbX10_jar_0 57 rfl) rfl ?_
          refine cz_dup2 (pc' := 104) (g_d dtbX10_jar_0 58 rfl) rfl rfl rfl ?_
          refine nz_iald 1 (pc' := 105) (g_d dtbX10_jar_0 59 rfl) (by decide) rfl (by omega) (by rfl) (by omega) rfl ?_
          rw [show (zu W1 2 0 ((A.1 0) - n)) 2 1 = A.1 1 from by rw [show (zu W1 2 0 ((A.1 0) - n)) 2 1 = W1 2 1 from by simp [zu]]; exact (br1_fig hb1 (by decide)).trans (rKeep_lo (by decide))]
          refine cz_iload_n (pc' := 106) (g_d dtbX10_jar_1 0 rfl) rfl rfl ?_
          refine nz_iadd (pc' := 107) (g_d dtbX10_jar_1 1 rfl) rfl ?_
          refine nz_iast 1 (pc' := 108) (g_d dtbX10_jar_1 2 rfl) (by decide) rfl (by omega) (by rfl) (by omega) rfl ?_
          refine cz_aload_n (pc' := 109) (g_d dtbX10_jar_1 3 rfl) rfl rfl ?_
          refine nz_getf (v := .ref 1) (pc' := 112) (g_d dtbX10_jar_1 4 rfl) gf_X10_10 (by decide) rfl rfl rfl ?_
          refine nz_getf (v := .ref 2) (pc' := 115) (g_d dtbX10_jar_1 5 rfl) gf_X10_99 (by decide) rfl rfl rfl ?_
          refine nz_iconst (pc' := 116) (g_d dtbX10_jar_1 6 rfl) rfl ?_
          refine nz_iald 1 (pc' := 117) (g_d dtbX10_jar_1 7 rfl) (by decide) rfl (by omega) (by rfl) (by omega) rfl ?_
          rw [show (zu (zu W1 2 0 ((A.1 0) - n)) 2 1 ((A.1 1) + n)) 2 1 = (A.1 1) + n from by simp [zu]]
          refine nz_ri .int (g_d dtbX10_jar_1 8 rfl) rfl rfl ?_
          rw [show xJar A n = (A.1 1 + n, sF A (ru (ru (rKeep A.1) 0 (A.1 0 - n)) 1 (A.1 1 + n))) from by unfold xJar; rw [if_pos (by omega), if_neg (by omega)]]
          exact ⟨rfl, hC.book (br_fig (br_fig hb1 (by decide)) (by decide)) ((hF1.u (by decide)).u (by decide)), FM.u (FM.u (FM.rf.b (by decide) hF1) (by decide)) (by decide)⟩
        · refine nz_iconst (pc' := 57) (g_d dtbX10_jar_0 31 rfl) rfl ?_
          refine cz_goto (pc' := 61) (g_d dtbX10_jar_0 32 rfl) rfl ?_
          refine cz_istore_n (L' := [some (.ref 0), some (iv (n)), some (iv 0), some (iv 1)]) (pc' := 62) (g_d dtbX10_jar_0 34 rfl) (by decide) rfl rfl ?_
          refine cz_iload_n (pc' := 63) (g_d dtbX10_jar_0 35 rfl) rfl rfl ?_
          refine nz_if_ne_f (pc' := 66) (g_d dtbX10_jar_0 36 rfl) (by omega) (by decide) rfl (by omega) ?_
          refine cz_iload_n (pc' := 67) (g_d dtbX10_jar_0 37 rfl) rfl rfl ?_
          refine nz_if_eq_f (pc' := 70) (g_d dtbX10_jar_0 38 rfl) (by omega) (by decide) rfl (by omega) ?_
          refine cz_aload_n (pc' := 71) (g_d dtbX10_jar_0 39 rfl) rfl rfl ?_
          refine nz_cVi (M' := mX10_refuseNo) (k := 0) (As := []) (S := []) (L := [some (.ref 0), some (iv (n)), some (iv 0), some (iv 1)]) (pc' := 74) (g_d dtbX10_jar_0 40 rfl) lk_X10_105 okX10_refuseNo (by decide) rfl rfl rfl rfl (Nat.le_of_ble_eq_true rfl) (Nat.le_of_ble_eq_true rfl) (by decide) rfl (c_refuseNo G Z) ?_
          rintro _ _ ⟨rfl, rfl⟩
          refine nz_ri .int (g_d dtbX10_jar_0 41 rfl) rfl rfl ?_
          rw [show xJar A n = (-3, aNo A) from by unfold xJar; rw [if_pos (by omega), if_pos (by omega)]]
          exact ⟨rfl, cs_no hC, (FM.u FM.rf (by decide))⟩
    · refine nz_iconst (pc' := 33) (g_d dtbX10_jar_0 17 rfl) rfl ?_
      refine cz_goto (pc' := 37) (g_d dtbX10_jar_0 18 rfl) rfl ?_
      refine cz_istore_n (L' := [some (.ref 0), some (iv (n)), some (iv 1), none]) (pc' := 38) (g_d dtbX10_jar_0 20 rfl) (by decide) rfl rfl ?_
      refine cz_iload_n (pc' := 39) (g_d dtbX10_jar_0 21 rfl) rfl rfl ?_
      refine nz_if_le (tgt := 60) (pc' := 42) (g_d dtbX10_jar_0 22 rfl) (by omega) rfl rfl (fun h39 => ?_) (fun h39 => ?_)
      · refine nz_iconst (pc' := 61) (g_d dtbX10_jar_0 33 rfl) rfl ?_
        refine cz_istore_n (L' := [some (.ref 0), some (iv (n)), some (iv 1), some (iv 0)]) (pc' := 62) (g_d dtbX10_jar_0 34 rfl) (by decide) rfl rfl ?_
        refine cz_iload_n (pc' := 63) (g_d dtbX10_jar_0 35 rfl) rfl rfl ?_
        refine nz_if_ne_t (tgt := 70) (g_d dtbX10_jar_0 36 rfl) (by omega) rfl (by omega) ?_
        refine cz_aload_n (pc' := 71) (g_d dtbX10_jar_0 39 rfl) rfl rfl ?_
        refine nz_cVi (M' := mX10_refuseNo) (k := 0) (As := []) (S := []) (L := [some (.ref 0), some (iv (n)), some (iv 1), some (iv 0)]) (pc' := 74) (g_d dtbX10_jar_0 40 rfl) lk_X10_105 okX10_refuseNo (by decide) rfl rfl rfl rfl (Nat.le_of_ble_eq_true rfl) (Nat.le_of_ble_eq_true rfl) (by decide) rfl (c_refuseNo G Z) ?_
        rintro _ _ ⟨rfl, rfl⟩
        refine nz_ri .int (g_d dtbX10_jar_0 41 rfl) rfl rfl ?_
        rw [show xJar A n = (-3, aNo A) from by unfold xJar; rw [if_pos (by omega), if_pos (by omega)]]
        exact ⟨rfl, cs_no hC, (FM.u FM.rf (by decide))⟩
      · refine cz_aload_n (pc' := 43) (g_d dtbX10_jar_0 23 rfl) rfl rfl ?_
        refine nz_getf (v := .ref 1) (pc' := 46) (g_d dtbX10_jar_0 24 rfl) gf_X10_10 (by decide) rfl rfl rfl ?_
        refine nz_getf (v := .ref 2) (pc' := 49) (g_d dtbX10_jar_0 25 rfl) gf_X10_99 (by decide) rfl rfl rfl ?_
        refine nz_iconst (pc' := 50) (g_d dtbX10_jar_0 26 rfl) rfl ?_
        refine nz_iald 0 (pc' := 51) (g_d dtbX10_jar_0 27 rfl) (by decide) rfl (by omega) (by rfl) (by omega) rfl ?_
        rw [show Z 2 0 = A.1 0 from br1_fig (hB) (by decide)]
        refine cz_iload_n (pc' := 52) (g_d dtbX10_jar_0 28 rfl) rfl rfl ?_
        refine nz_isub (pc' := 53) (g_d dtbX10_jar_0 29 rfl) rfl ?_
        refine nz_if_ge (tgt := 60) (pc' := 56) (g_d dtbX10_jar_0 30 rfl) (by omega) rfl rfl (fun h53 => ?_) (fun h53 => ?_)
        · refine nz_iconst (pc' := 61) (g_d dtbX10_jar_0 33 rfl) rfl ?_
          refine cz_istore_n (L' := [some (.ref 0), some (iv (n)), some (iv 1), some (iv 0)]) (pc' := 62) (g_d dtbX10_jar_0 34 rfl) (by decide) rfl rfl ?_
          refine cz_iload_n (pc' := 63) (g_d dtbX10_jar_0 35 rfl) rfl rfl ?_
          refine nz_if_ne_t (tgt := 70) (g_d dtbX10_jar_0 36 rfl) (by omega) rfl (by omega) ?_
          refine cz_aload_n (pc' := 71) (g_d dtbX10_jar_0 39 rfl) rfl rfl ?_
          refine nz_cVi (M' := mX10_refuseNo) (k := 0) (As := []) (S := []) (L := [some (.ref 0), some (iv (n)), some (iv 1), some (iv 0)]) (pc' := 74) (g_d dtbX10_jar_0 40 rfl) lk_X10_105 okX10_refuseNo (by decide) rfl rfl rfl rfl (Nat.le_of_ble_eq_true rfl) (Nat.le_of_ble_eq_true rfl) (by decide) rfl (c_refuseNo G Z) ?_
          rintro _ _ ⟨rfl, rfl⟩
          refine nz_ri .int (g_d dtbX10_jar_0 41 rfl) rfl rfl ?_
          rw [show xJar A n = (-3, aNo A) from by unfold xJar; rw [if_pos (by omega), if_pos (by omega)]]
          exact ⟨rfl, cs_no hC, (FM.u FM.rf (by decide))⟩
        · refine nz_iconst (pc' := 57) (g_d dtbX10_jar_0 31 rfl) rfl ?_
          refine cz_goto (pc' := 61) (g_d dtbX10_jar_0 32 rfl) rfl ?_
          refine cz_istore_n (L' := [some (.ref 0), some (iv (n)), some (iv 1), some (iv 1)]) (pc' := 62) (g_d dtbX10_jar_0 34 rfl) (by decide) rfl rfl ?_
          refine cz_iload_n (pc' := 63) (g_d dtbX10_jar_0 35 rfl) rfl rfl ?_
          refine nz_if_ne_t (tgt := 70) (g_d dtbX10_jar_0 36 rfl) (by omega) rfl (by omega) ?_
          refine cz_aload_n (pc' := 71) (g_d dtbX10_jar_0 39 rfl) rfl rfl ?_
          refine nz_cVi (M' := mX10_refuseNo) (k := 0) (As := []) (S := []) (L := [some (.ref 0), some (iv (n)), some (iv 1), some (iv 1)]) (pc' := 74) (g_d dtbX10_jar_0 40 rfl) lk_X10_105 okX10_refuseNo (by decide) rfl rfl rfl rfl (Nat.le_of_ble_eq_true rfl) (Nat.le_of_ble_eq_true rfl) (by decide) rfl (c_refuseNo G Z) ?_
          rintro _ _ ⟨rfl, rfl⟩
          refine nz_ri .int (g_d dtbX10_jar_0 41 rfl) rfl rfl ?_
          rw [show xJar A n = (-3, aNo A) from by unfold xJar; rw [if_pos (by omega), if_pos (by omega)]]
          exact ⟨rfl, cs_no hC, (FM.u FM.rf (by decide))⟩
  · refine nz_if_ne_f (pc' := 11) (g_d dtbX10_jar_0 4 rfl) (by omega) (by decide) rfl (by omega) ?_
    refine cz_aload_n (pc' := 12) (g_d dtbX10_jar_0 5 rfl) rfl rfl ?_
    refine nz_bipush (pc' := 14) (g_d dtbX10_jar_0 6 rfl) (by decide) rfl ?_
    refine nz_cVi (M' := mX10_refuseBad) (k := 0) (As := [iv (-2)]) (S := []) (L := [some (.ref 0), some (iv (n)), none, none]) (pc' := 17) (g_d dtbX10_jar_0 7 rfl) lk_X10_57 okX10_refuseBad (by decide) rfl rfl rfl rfl (Nat.le_of_ble_eq_true rfl) (Nat.le_of_ble_eq_true rfl) (by decide) rfl (c_refuseBad G Z (-2)) ?_
    rintro _ _ ⟨rfl, rfl⟩
    refine nz_ri .int (g_d dtbX10_jar_0 8 rfl) rfl rfl ?_
    rw [show xJar A n = (-2, aBad A) from by unfold xJar; rw [if_neg (by omega)]]
    exact ⟨rfl, cs_bad hC, (FM.u FM.rf (by decide))⟩

set_option maxRecDepth 20000 in
set_option maxHeartbeats 4000000 in
theorem a_undo (G : Wd) (Z : ZS) (A : AS) (B : Int) (hC : CS Z A) (hA : AO B A) : Cn G mX10_undo 0 [some (.ref 0)] [] Z (qi (fun r W => (xUndo A).1 = r ∧ CS W (xUndo A).2 ∧ FM Z W)) := by
  have hB := hC.1
  have hb0 := hA.1
  have hO := hA.2.1
  have h6 : 0 ≤ A.1 6 ∧ A.1 6 ≤ 7 := hO.2.1
  have h28 : 0 ≤ A.1 28 ∧ A.1 28 ≤ 6 := hO.2.2.2.1
  have h59 : 0 ≤ A.1 59 ∧ A.1 59 ≤ 8 := hO.2.2.2.2.2.1
  have hf := hO.1
  unfold FO at hf
  have hct := hA.2.2.2.2.2.2
  refine cz_aload_n (pc' := 1) (g_d dtbX10_undo_0 0 rfl) rfl rfl ?_
  refine nz_getf (v := .ref 1) (pc' := 4) (g_d dtbX10_undo_0 1 rfl) gf_X10_10 (by decide) rfl rfl rfl ?_
  refine nz_getf (v := iv (A.1 59)) (pc' := 7) (g_d dtbX10_undo_0 2 rfl) gf_X10_108 (by decide) rfl (congrArg iv (br1_6 (hB))) rfl ?_
  refine nz_if_gt (tgt := 15) (pc' := 10) (g_d dtbX10_undo_0 3 rfl) (by omega) rfl rfl (fun h7 => ?_) (fun h7 => ?_)
  · refine cz_aload_n (pc' := 16) (g_d dtbX10_undo_0 7 rfl) rfl rfl ?_
    refine nz_getf (v := .ref 1) (pc' := 19) (g_d dtbX10_undo_0 8 rfl) gf_X10_10 (by decide) rfl rfl rfl ?_
    refine nz_cVv (M' := mX0_stepBack) (k := 1) (As := []) (S := []) (L := [some (.ref 0)]) (pc' := 22) (g_d dtbX10_undo_0 9 rfl) lk_X10_111 okX0_stepBack (by decide) rfl rfl rfl rfl (Nat.le_of_ble_eq_true rfl) (Nat.le_of_ble_eq_true rfl) (by decide) rfl (c_stepBack G Z 1 ((A.1 59).toNat - 1) A.1 bk1 hB (by omega) (by omega)) ?_
    rintro W1 ⟨hb1, hF1⟩
    refine cz_aload_n (pc' := 23) (g_d dtbX10_undo_0 10 rfl) rfl rfl ?_
    refine nz_getf (v := .ref 1) (pc' := 26) (g_d dtbX10_undo_0 11 rfl) gf_X10_10 (by decide) rfl rfl rfl ?_
    refine nz_getf (v := .ref 2) (pc' := 29) (g_d dtbX10_undo_0 12 rfl) gf_X10_99 (by decide) rfl rfl rfl ?_
    refine nz_iconst (pc' := 30) (g_d dtbX10_undo_0 13 rfl) rfl ?_
    refine nz_iald 3 (pc' := 31) (g_d dtbX10_undo_0 14 rfl) (by decide) rfl (by omega) (by rfl) (by omega) rfl ?_
    rw [show W1 2 3 = rUndo A.1 3 from br1_fig hb1 (by decide)]
    refine nz_ri .int (g_d dtbX10_undo_0 15 rfl) rfl rfl ?_
    rw [show xUndo A = (rUndo A.1 3, sF A (rUndo A.1)) from if_neg (by omega)]
    exact ⟨rfl, hC.book hb1 hF1, FM.rf.b (by decide) hF1⟩
  · refine cz_aload_n (pc' := 11) (g_d dtbX10_undo_0 4 rfl) rfl rfl ?_
    refine nz_cVi (M' := mX10_refuseNo) (k := 0) (As := []) (S := []) (L := [some (.ref 0)]) (pc' := 14) (g_d dtbX10_undo_0 5 rfl) lk_X10_105 okX10_refuseNo (by decide) rfl rfl rfl rfl (Nat.le_of_ble_eq_true rfl) (Nat.le_of_ble_eq_true rfl) (by decide) rfl (c_refuseNo G Z) ?_
    rintro _ _ ⟨rfl, rfl⟩
    refine nz_ri .int (g_d dtbX10_undo_0 6 rfl) rfl rfl ?_
    rw [show xUndo A = (-3, aNo A) from if_pos (by omega)]
    exact ⟨rfl, cs_no hC, (FM.u FM.rf (by decide))⟩

set_option maxRecDepth 20000 in
set_option maxHeartbeats 4000000 in
theorem a_now (G : Wd) (Z : ZS) (A : AS) (B : Int) (hC : CS Z A) (hA : AO B A) (w : Int) (hw : -2147483648 ≤ w ∧ w ≤ 2147483647) : Cn G mX10_now 0 [some (.ref 0), some (iv (w))] [] Z (qi (fun r W => (xNow A w).1 = r ∧ CS W (xNow A w).2 ∧ FM Z W)) := by
  have hB := hC.1
  have hb0 := hA.1
  have hO := hA.2.1
  have h6 : 0 ≤ A.1 6 ∧ A.1 6 ≤ 7 := hO.2.1
  have h28 : 0 ≤ A.1 28 ∧ A.1 28 ≤ 6 := hO.2.2.2.1
  have h59 : 0 ≤ A.1 59 ∧ A.1 59 ≤ 8 := hO.2.2.2.2.2.1
  have hf := hO.1
  unfold FO at hf
  have hct := hA.2.2.2.2.2.2
  refine cz_iload_n (pc' := 1) (g_d dtbX10_now_0 0 rfl) rfl rfl ?_
  refine nz_iconst (pc' := 2) (g_d dtbX10_now_0 1 rfl) rfl ?_
  refine nz_iconst (pc' := 3) (g_d dtbX10_now_0 2 rfl) rfl ?_
  refine nz_cSi (M' := mX10_within) (As := [iv (w), iv 0, iv 5]) (S := []) (L := [some (.ref 0), some (iv (w))]) (pc' := 6) (g_d dtbX10_now_0 3 rfl) lk_X10_53 okX10_within rfl rfl (Nat.le_of_ble_eq_true rfl) (Nat.le_of_ble_eq_true rfl) (by decide) rfl (c_within G Z w 0 5 (by omega) (by omega) (by omega)) ?_
  rintro _ _ ⟨rfl, ⟨rfl, hw3⟩ | ⟨rfl, hw3⟩⟩
  · refine nz_if_ne_t (tgt := 16) (g_d dtbX10_now_0 4 rfl) (by omega) rfl (by omega) ?_
    refine cz_aload_n (pc' := 17) (g_d dtbX10_now_0 9 rfl) rfl rfl ?_
    refine nz_getf (v := .ref 1) (pc' := 20) (g_d dtbX10_now_0 10 rfl) gf_X10_10 (by decide) rfl rfl rfl ?_
    refine nz_getf (v := .ref 2) (pc' := 23) (g_d dtbX10_now_0 11 rfl) gf_X10_99 (by decide) rfl rfl rfl ?_
    refine cz_iload_n (pc' := 24) (g_d dtbX10_now_0 12 rfl) rfl rfl ?_
    refine nz_iald w.toNat (pc' := 25) (g_d dtbX10_now_0 13 rfl) (by decide) rfl (by omega) (by omega) (by omega) rfl ?_
    rw [show Z 2 w.toNat = A.1 w.toNat from br1_fig hB (by omega)]
    refine nz_ri .int (g_d dtbX10_now_0 14 rfl) rfl rfl ?_
    rw [show xNow A w = (A.1 w.toNat, A) from if_pos (by omega)]
    exact ⟨rfl, hC, FM.rf⟩
  · refine nz_if_ne_f (pc' := 9) (g_d dtbX10_now_0 4 rfl) (by omega) (by decide) rfl (by omega) ?_
    refine cz_aload_n (pc' := 10) (g_d dtbX10_now_0 5 rfl) rfl rfl ?_
    refine nz_ldc (pc' := 12) (v := -100000) (g_d dtbX10_now_0 6 rfl) kn_X10_142 rfl ?_
    refine nz_cVi (M' := mX10_refuseBad) (k := 0) (As := [iv (-100000)]) (S := []) (L := [some (.ref 0), some (iv (w))]) (pc' := 15) (g_d dtbX10_now_0 7 rfl) lk_X10_57 okX10_refuseBad (by decide) rfl rfl rfl rfl (Nat.le_of_ble_eq_true rfl) (Nat.le_of_ble_eq_true rfl) (by decide) rfl (c_refuseBad G Z (-100000)) ?_
    rintro _ _ ⟨rfl, rfl⟩
    refine nz_ri .int (g_d dtbX10_now_0 8 rfl) rfl rfl ?_
    rw [show xNow A w = (-100000, aBad A) from by unfold xNow; rw [if_neg (by omega)]]
    exact ⟨rfl, cs_bad hC, (FM.u FM.rf (by decide))⟩

set_option maxRecDepth 20000 in
set_option maxHeartbeats 4000000 in
theorem a_forget (G : Wd) (Z : ZS) (A : AS) (B : Int) (hC : CS Z A) (hA : AO B A) : Cn G mX10_forget 0 [some (.ref 0), none] [] Z (qi (fun r W => (xForget A).1 = r ∧ CS W (xForget A).2 ∧ FM Z W)) := by
  have hB := hC.1
  have hb0 := hA.1
  have hO := hA.2.1
  have h6 : 0 ≤ A.1 6 ∧ A.1 6 ≤ 7 := hO.2.1
  have h28 : 0 ≤ A.1 28 ∧ A.1 28 ≤ 6 := hO.2.2.2.1
  have h59 : 0 ≤ A.1 59 ∧ A.1 59 ≤ 8 := hO.2.2.2.2.2.1
  have hf := hO.1
  unfold FO at hf
  have hct := hA.2.2.2.2.2.2
  refine cz_aload_n (pc' := 1) (g_d dtbX10_forget_0 0 rfl) rfl rfl ?_
  refine nz_getf (v := .ref 1) (pc' := 4) (g_d dtbX10_forget_0 1 rfl) gf_X10_10 (by decide) rfl rfl rfl ?_
  refine nz_getf (v := iv (A.1 28)) (pc' := 7) (g_d dtbX10_forget_0 2 rfl) gf_X10_178 (by decide) rfl (congrArg iv (br1_5 (hB))) rfl ?_
  refine cz_istore_n (L' := [some (.ref 0), some (iv (A.1 28))]) (pc' := 8) (g_d dtbX10_forget_0 3 rfl) (by decide) rfl rfl ?_
  refine cz_aload_n (pc' := 9) (g_d dtbX10_forget_0 4 rfl) rfl rfl ?_
  refine nz_getf (v := .ref 1) (pc' := 12) (g_d dtbX10_forget_0 5 rfl) gf_X10_10 (by decide) rfl rfl rfl ?_
  refine nz_iconst (pc' := 13) (g_d dtbX10_forget_0 6 rfl) rfl ?_
  refine nz_puti (pc' := 16) (g_d dtbX10_forget_0 7 rfl) pf_X10_178 rfl (by decide) rfl rfl ?_
  refine cz_iload_n (pc' := 17) (g_d dtbX10_forget_0 8 rfl) rfl rfl ?_
  refine nz_ri .int (g_d dtbX10_forget_0 9 rfl) rfl rfl ?_
  exact ⟨rfl, hC.book (br_forget hB) (Fb.rf.u (by decide)), FM.u FM.rf (by decide)⟩

set_option maxRecDepth 20000 in
set_option maxHeartbeats 4000000 in
theorem a_note (G : Wd) (Z : ZS) (A : AS) (B : Int) (hC : CS Z A) (hA : AO B A) (b d e m q : Int) (hb : -2147483648 ≤ b ∧ b ≤ 2147483647) (hd : -2147483648 ≤ d ∧ d ≤ 2147483647) (he : -2147483648 ≤ e ∧ e ≤ 2147483647) (hm : -2147483648 ≤ m ∧ m ≤ 2147483647) (hq : -2147483648 ≤ q ∧ q ≤ 2147483647) : Cn G mX10_note 0 [some (.ref 0), some (iv (b)), some (iv (d)), some (iv (e)), some (iv (m)), some (iv (q)), none] [] Z (qi (fun r W => (xNote A b d e m q).1 = r ∧ CS W (xNote A b d e m q).2 ∧ FM Z W)) := by
  have hB := hC.1
  have hb0 := hA.1
  have hO := hA.2.1
  have h6 : 0 ≤ A.1 6 ∧ A.1 6 ≤ 7 := hO.2.1
  have h28 : 0 ≤ A.1 28 ∧ A.1 28 ≤ 6 := hO.2.2.2.1
  have h59 : 0 ≤ A.1 59 ∧ A.1 59 ≤ 8 := hO.2.2.2.2.2.1
  have hf := hO.1
  unfold FO at hf
  have hct := hA.2.2.2.2.2.2
  refine cz_iload_n (pc' := 1) (g_d dtbX10_note_0 0 rfl) rfl rfl ?_
  refine nz_iconst (pc' := 2) (g_d dtbX10_note_0 1 rfl) rfl ?_
  refine nz_bipush (pc' := 4) (g_d dtbX10_note_0 2 rfl) (by decide) rfl ?_
  refine nz_cSi (M' := mX10_within) (As := [iv (d), iv 1, iv 28]) (S := []) (L := [some (.ref 0), some (iv (b)), some (iv (d)), some (iv (e)), some (iv (m)), some (iv (q)), none]) (pc' := 7) (g_d dtbX10_note_0 3 rfl) lk_X10_53 okX10_within rfl rfl (Nat.le_of_ble_eq_true rfl) (Nat.le_of_ble_eq_true rfl) (by decide) rfl (c_within G Z d 1 28 (by omega) (by omega) (by omega)) ?_
  rintro _ _ ⟨rfl, ⟨rfl, hw4⟩ | ⟨rfl, hw4⟩⟩
  · refine nz_if_eq_f (pc' := 10) (g_d dtbX10_note_0 4 rfl) (by omega) (by decide) rfl (by omega) ?_
    refine cz_iload_n (pc' := 11) (g_d dtbX10_note_0 5 rfl) rfl rfl ?_
    refine nz_iconst (pc' := 12) (g_d dtbX10_note_0 6 rfl) rfl ?_
    refine nz_bipush (pc' := 14) (g_d dtbX10_note_0 7 rfl) (by decide) rfl ?_
    refine nz_cSi (M' := mX10_within) (As := [iv (e), iv 1, iv 28]) (S := []) (L := [some (.ref 0), some (iv (b)), some (iv (d)), some (iv (e)), some (iv (m)), some (iv (q)), none]) (pc' := 17) (g_d dtbX10_note_0 8 rfl) lk_X10_53 okX10_within rfl rfl (Nat.le_of_ble_eq_true rfl) (Nat.le_of_ble_eq_true rfl) (by decide) rfl (c_within G Z e 1 28 (by omega) (by omega) (by omega)) ?_
    rintro _ _ ⟨rfl, ⟨rfl, hw14⟩ | ⟨rfl, hw14⟩⟩
    · refine nz_if_eq_f (pc' := 20) (g_d dtbX10_note_0 9 rfl) (by omega) (by decide) rfl (by omega) ?_
      refine nz_iconst (pc' := 21) (g_d dtbX10_note_0 10 rfl) rfl ?_
      refine cz_goto (pc' := 25) (g_d dtbX10_note_0 11 rfl) rfl ?_
      refine cz_istore (L' := [some (.ref 0), some (iv (b)), some (iv (d)), some (iv (e)), some (iv (m)), some (iv (q)), some (iv 1)]) (pc' := 27) (g_d dtbX10_note_0 13 rfl) (by decide) rfl rfl ?_
      refine cz_aload_n (pc' := 28) (g_d dtbX10_note_0 14 rfl) rfl rfl ?_
      refine cz_iload_n (pc' := 29) (g_d dtbX10_note_0 15 rfl) rfl rfl ?_
      refine nz_cVi (M' := mX10_isBillNumber) (k := 0) (As := [iv (b)]) (S := []) (L := [some (.ref 0), some (iv (b)), some (iv (d)), some (iv (e)), some (iv (m)), some (iv (q)), some (iv 1)]) (pc' := 32) (g_d dtbX10_note_0 16 rfl) lk_X10_114 okX10_isBillNumber (by decide) rfl rfl rfl rfl (Nat.le_of_ble_eq_true rfl) (Nat.le_of_ble_eq_true rfl) (by decide) rfl (c_isBN G Z A B hC hA b (by omega)) ?_
      rintro _ _ ⟨rfl, ⟨rfl, hw29⟩ | ⟨rfl, hw29⟩⟩
      · refine nz_if_eq_f (pc' := 35) (g_d dtbX10_note_0 17 rfl) (by omega) (by decide) rfl (by omega) ?_
        refine cz_iload (pc' := 37) (g_d dtbX10_note_0 18 rfl) rfl rfl ?_
        refine nz_if_eq_f (pc' := 40) (g_d dtbX10_note_0 19 rfl) (by omega) (by decide) rfl (by omega) ?_
        refine cz_iload (pc' := 42) (g_d dtbX10_note_0 20 rfl) rfl rfl ?_
        refine nz_iconst (pc' := 43) (g_d dtbX10_note_0 21 rfl) rfl ?_
        refine nz_bipush (pc' := 45) (g_d dtbX10_note_0 22 rfl) (by decide) rfl ?_
        refine nz_cSi (M' := mX10_within) (As := [iv (m), iv 0, iv 40]) (S := []) (L := [some (.ref 0), some (iv (b)), some (iv (d)), some (iv (e)), some (iv (m)), some (iv (q)), some (iv 1)]) (pc' := 48) (g_d dtbX10_note_0 23 rfl) lk_X10_53 okX10_within rfl rfl (Nat.le_of_ble_eq_true rfl) (Nat.le_of_ble_eq_true rfl) (by decide) rfl (c_within G Z m 0 40 (by omega) (by omega) (by omega)) ?_
        rintro _ _ ⟨rfl, ⟨rfl, hw45⟩ | ⟨rfl, hw45⟩⟩
        · refine nz_if_eq_f (pc' := 51) (g_d dtbX10_note_0 24 rfl) (by omega) (by decide) rfl (by omega) ?_
          refine cz_iload (pc' := 53) (g_d dtbX10_note_0 25 rfl) rfl rfl ?_
          refine nz_sipush (pc' := 56) (g_d dtbX10_note_0 26 rfl) (by decide) rfl ?_
          refine nz_sipush (pc' := 59) (g_d dtbX10_note_0 27 rfl) (by decide) rfl ?_
          refine nz_cSi (M' := mX10_within) (As := [iv (q), iv (-999), iv 999]) (S := []) (L := [some (.ref 0), some (iv (b)), some (iv (d)), some (iv (e)), some (iv (m)), some (iv (q)), some (iv 1)]) (pc' := 62) (g_d dtbX10_note_0 28 rfl) lk_X10_53 okX10_within rfl rfl (Nat.le_of_ble_eq_true rfl) (Nat.le_of_ble_eq_true rfl) (by decide) rfl (c_within G Z q (-999) 999 (by omega) (by omega) (by omega)) ?_
          rintro _ _ ⟨rfl, ⟨rfl, hw59⟩ | ⟨rfl, hw59⟩⟩
          · refine nz_if_ne_t (tgt := 72) (g_d dtbX10_note_0 29 rfl) (by omega) rfl (by omega) ?_
            refine cz_aload_n (pc' := 73) (g_d dtbX10_note_0 34 rfl) rfl rfl ?_
            refine nz_getf (v := .ref 1) (pc' := 76) (g_d dtbX10_note_0 35 rfl) gf_X10_10 (by decide) rfl rfl rfl ?_
            refine nz_getf (v := iv (A.1 28)) (pc' := 79) (g_d dtbX10_note_0 36 rfl) gf_X10_178 (by decide) rfl (congrArg iv (br1_5 (hB))) rfl ?_
            refine nz_bipush (pc' := 81) (g_d dtbX10_note_0 37 rfl) (by decide) rfl ?_
            refine nz_icmp_lt (tgt := 89) (pc' := 84) (g_d dtbX10_note_0 38 rfl) (by omega) (by omega) rfl rfl (fun h81 => ?_) (fun h81 => ?_)
            · refine cz_aload_n (pc' := 90) (g_d dtbX10_note_0 42 rfl) rfl rfl ?_
              refine nz_getf (v := .ref 1) (pc' := 93) (g_d dtbX10_note_0 43 rfl) gf_X10_10 (by decide) rfl rfl rfl ?_
              refine cz_iload_n (pc' := 94) (g_d dtbX10_note_0 44 rfl) rfl rfl ?_
              refine cz_iload_n (pc' := 95) (g_d dtbX10_note_0 45 rfl) rfl rfl ?_
              refine cz_iload_n (pc' := 96) (g_d dtbX10_note_0 46 rfl) rfl rfl ?_
              refine cz_iload (pc' := 98) (g_d dtbX10_note_0 47 rfl) rfl rfl ?_
              refine cz_iload (pc' := 100) (g_d dtbX10_note_0 48 rfl) rfl rfl ?_
              refine nz_cVv (M' := mX0_addNote) (k := 1) (As := [iv (b), iv (d), iv (e), iv (m), iv (q)]) (S := []) (L := [some (.ref 0), some (iv (b)), some (iv (d)), some (iv (e)), some (iv (m)), some (iv (q)), some (iv 1)]) (pc' := 103) (g_d dtbX10_note_0 49 rfl) lk_X10_181 okX0_addNote (by decide) rfl rfl rfl rfl (Nat.le_of_ble_eq_true rfl) (Nat.le_of_ble_eq_true rfl) (by decide) rfl (c_addNote G Z 1 (A.1 28).toNat A.1 b d e m q bk1 hB (by omega) (by omega)) ?_
              rintro W1 ⟨hb1, hF1⟩
              refine cz_aload_n (pc' := 104) (g_d dtbX10_note_0 50 rfl) rfl rfl ?_
              refine nz_getf (v := .ref 1) (pc' := 107) (g_d dtbX10_note_0 51 rfl) gf_X10_10 (by decide) rfl rfl rfl ?_
              refine nz_getf (v := iv (A.1 28 + 1)) (pc' := 110) (g_d dtbX10_note_0 52 rfl) gf_X10_178 (by decide) rfl (congrArg iv (by rw [br1_5 hb1, rNote, ru_eq])) rfl ?_
              refine nz_ri .int (g_d dtbX10_note_0 53 rfl) rfl rfl ?_
              rw [show xNote A b d e m q = (A.1 28 + 1, sF A (rNote A.1 b d e m q)) from by unfold xNote; rw [if_pos (by omega), if_neg (by omega)]]
              exact ⟨rfl, hC.book hb1 hF1, FM.rf.b (by decide) hF1⟩
            · refine cz_aload_n (pc' := 85) (g_d dtbX10_note_0 39 rfl) rfl rfl ?_
              refine nz_cVi (M' := mX10_refuseFull) (k := 0) (As := []) (S := []) (L := [some (.ref 0), some (iv (b)), some (iv (d)), some (iv (e)), some (iv (m)), some (iv (q)), some (iv 1)]) (pc' := 88) (g_d dtbX10_note_0 40 rfl) lk_X10_72 okX10_refuseFull (by decide) rfl rfl rfl rfl (Nat.le_of_ble_eq_true rfl) (Nat.le_of_ble_eq_true rfl) (by decide) rfl (c_refuseFull G Z) ?_
              rintro _ _ ⟨rfl, rfl⟩
              refine nz_ri .int (g_d dtbX10_note_0 41 rfl) rfl rfl ?_
              rw [show xNote A b d e m q = (-4, aFull A) from by unfold xNote; rw [if_pos (by omega), if_pos (by omega)]]
              exact ⟨rfl, cs_full hC, (FM.u FM.rf (by decide))⟩
          · refine nz_if_ne_f (pc' := 65) (g_d dtbX10_note_0 29 rfl) (by omega) (by decide) rfl (by omega) ?_
            refine cz_aload_n (pc' := 66) (g_d dtbX10_note_0 30 rfl) rfl rfl ?_
            refine nz_bipush (pc' := 68) (g_d dtbX10_note_0 31 rfl) (by decide) rfl ?_
            refine nz_cVi (M' := mX10_refuseBad) (k := 0) (As := [iv (-2)]) (S := []) (L := [some (.ref 0), some (iv (b)), some (iv (d)), some (iv (e)), some (iv (m)), some (iv (q)), some (iv 1)]) (pc' := 71) (g_d dtbX10_note_0 32 rfl) lk_X10_57 okX10_refuseBad (by decide) rfl rfl rfl rfl (Nat.le_of_ble_eq_true rfl) (Nat.le_of_ble_eq_true rfl) (by decide) rfl (c_refuseBad G Z (-2)) ?_
            rintro _ _ ⟨rfl, rfl⟩
            refine nz_ri .int (g_d dtbX10_note_0 33 rfl) rfl rfl ?_
            rw [show xNote A b d e m q = (-2, aBad A) from by unfold xNote; rw [if_neg (by omega)]]
            exact ⟨rfl, cs_bad hC, (FM.u FM.rf (by decide))⟩
        · refine nz_if_eq_t (tgt := 65) (g_d dtbX10_note_0 24 rfl) (by omega) rfl (by omega) ?_
          refine cz_aload_n (pc' := 66) (g_d dtbX10_note_0 30 rfl) rfl rfl ?_
          refine nz_bipush (pc' := 68) (g_d dtbX10_note_0 31 rfl) (by decide) rfl ?_
          refine nz_cVi (M' := mX10_refuseBad) (k := 0) (As := [iv (-2)]) (S := []) (L := [some (.ref 0), some (iv (b)), some (iv (d)), some (iv (e)), some (iv (m)), some (iv (q)), some (iv 1)]) (pc' := 71) (g_d dtbX10_note_0 32 rfl) lk_X10_57 okX10_refuseBad (by decide) rfl rfl rfl rfl (Nat.le_of_ble_eq_true rfl) (Nat.le_of_ble_eq_true rfl) (by decide) rfl (c_refuseBad G Z (-2)) ?_
          rintro _ _ ⟨rfl, rfl⟩
          refine nz_ri .int (g_d dtbX10_note_0 33 rfl) rfl rfl ?_
          rw [show xNote A b d e m q = (-2, aBad A) from by unfold xNote; rw [if_neg (by omega)]]
          exact ⟨rfl, cs_bad hC, (FM.u FM.rf (by decide))⟩
      · refine nz_if_eq_t (tgt := 65) (g_d dtbX10_note_0 17 rfl) (by omega) rfl (by omega) ?_
        refine cz_aload_n (pc' := 66) (g_d dtbX10_note_0 30 rfl) rfl rfl ?_
        refine nz_bipush (pc' := 68) (g_d dtbX10_note_0 31 rfl) (by decide) rfl ?_
        refine nz_cVi (M' := mX10_refuseBad) (k := 0) (As := [iv (-2)]) (S := []) (L := [some (.ref 0), some (iv (b)), some (iv (d)), some (iv (e)), some (iv (m)), some (iv (q)), some (iv 1)]) (pc' := 71) (g_d dtbX10_note_0 32 rfl) lk_X10_57 okX10_refuseBad (by decide) rfl rfl rfl rfl (Nat.le_of_ble_eq_true rfl) (Nat.le_of_ble_eq_true rfl) (by decide) rfl (c_refuseBad G Z (-2)) ?_
        rintro _ _ ⟨rfl, rfl⟩
        refine nz_ri .int (g_d dtbX10_note_0 33 rfl) rfl rfl ?_
        rw [show xNote A b d e m q = (-2, aBad A) from by unfold xNote; rw [if_neg (by omega)]]
        exact ⟨rfl, cs_bad hC, (FM.u FM.rf (by decide))⟩
    · refine nz_if_eq_t (tgt := 24) (g_d dtbX10_note_0 9 rfl) (by omega) rfl (by omega) ?_
      refine nz_iconst (pc' := 25) (g_d dtbX10_note_0 12 rfl) rfl ?_
      refine cz_istore (L' := [some (.ref 0), some (iv (b)), some (iv (d)), some (iv (e)), some (iv (m)), some (iv (q)), some (iv 0)]) (pc' := 27) (g_d dtbX10_note_0 13 rfl) (by decide) rfl rfl ?_
      refine cz_aload_n (pc' := 28) (g_d dtbX10_note_0 14 rfl) rfl rfl ?_
      refine cz_iload_n (pc' := 29) (g_d dtbX10_note_0 15 rfl) rfl rfl ?_
      refine nz_cVi (M' := mX10_isBillNumber) (k := 0) (As := [iv (b)]) (S := []) (L := [some (.ref 0), some (iv (b)), some (iv (d)), some (iv (e)), some (iv (m)), some (iv (q)), some (iv 0)]) (pc' := 32) (g_d dtbX10_note_0 16 rfl) lk_X10_114 okX10_isBillNumber (by decide) rfl rfl rfl rfl (Nat.le_of_ble_eq_true rfl) (Nat.le_of_ble_eq_true rfl) (by decide) rfl (c_isBN G Z A B hC hA b (by omega)) ?_
      rintro _ _ ⟨rfl, ⟨rfl, hw29⟩ | ⟨rfl, hw29⟩⟩
      · refine nz_if_eq_f (pc' := 35) (g_d dtbX10_note_0 17 rfl) (by omega) (by decide) rfl (by omega) ?_
        refine cz_iload (pc' := 37) (g_d dtbX10_note_0 18 rfl) rfl rfl ?_
        refine nz_if_eq_t (tgt := 65) (g_d dtbX10_note_0 19 rfl) (by omega) rfl (by omega) ?_
        refine cz_aload_n (pc' := 66) (g_d dtbX10_note_0 30 rfl) rfl rfl ?_
        refine nz_bipush (pc' := 68) (g_d dtbX10_note_0 31 rfl) (by decide) rfl ?_
        refine nz_cVi (M' := mX10_refuseBad) (k := 0) (As := [iv (-2)]) (S := []) (L := [some (.ref 0), some (iv (b)), some (iv (d)), some (iv (e)), some (iv (m)), some (iv (q)), some (iv 0)]) (pc' := 71) (g_d dtbX10_note_0 32 rfl) lk_X10_57 okX10_refuseBad (by decide) rfl rfl rfl rfl (Nat.le_of_ble_eq_true rfl) (Nat.le_of_ble_eq_true rfl) (by decide) rfl (c_refuseBad G Z (-2)) ?_
        rintro _ _ ⟨rfl, rfl⟩
        refine nz_ri .int (g_d dtbX10_note_0 33 rfl) rfl rfl ?_
        rw [show xNote A b d e m q = (-2, aBad A) from by unfold xNote; rw [if_neg (by omega)]]
        exact ⟨rfl, cs_bad hC, (FM.u FM.rf (by decide))⟩
      · refine nz_if_eq_t (tgt := 65) (g_d dtbX10_note_0 17 rfl) (by omega) rfl (by omega) ?_
        refine cz_aload_n (pc' := 66) (g_d dtbX10_note_0 30 rfl) rfl rfl ?_
        refine nz_bipush (pc' := 68) (g_d dtbX10_note_0 31 rfl) (by decide) rfl ?_
        refine nz_cVi (M' := mX10_refuseBad) (k := 0) (As := [iv (-2)]) (S := []) (L := [some (.ref 0), some (iv (b)), some (iv (d)), some (iv (e)), some (iv (m)), some (iv (q)), some (iv 0)]) (pc' := 71) (g_d dtbX10_note_0 32 rfl) lk_X10_57 okX10_refuseBad (by decide) rfl rfl rfl rfl (Nat.le_of_ble_eq_true rfl) (Nat.le_of_ble_eq_true rfl) (by decide) rfl (c_refuseBad G Z (-2)) ?_
        rintro _ _ ⟨rfl, rfl⟩
        refine nz_ri .int (g_d dtbX10_note_0 33 rfl) rfl rfl ?_
        rw [show xNote A b d e m q = (-2, aBad A) from by unfold xNote; rw [if_neg (by omega)]]
        exact ⟨rfl, cs_bad hC, (FM.u FM.rf (by decide))⟩
  · refine nz_if_eq_t (tgt := 24) (g_d dtbX10_note_0 4 rfl) (by omega) rfl (by omega) ?_
    refine nz_iconst (pc' := 25) (g_d dtbX10_note_0 12 rfl) rfl ?_
    refine cz_istore (L' := [some (.ref 0), some (iv (b)), some (iv (d)), some (iv (e)), some (iv (m)), some (iv (q)), some (iv 0)]) (pc' := 27) (g_d dtbX10_note_0 13 rfl) (by decide) rfl rfl ?_
    refine cz_aload_n (pc' := 28) (g_d dtbX10_note_0 14 rfl) rfl rfl ?_
    refine cz_iload_n (pc' := 29) (g_d dtbX10_note_0 15 rfl) rfl rfl ?_
    refine nz_cVi (M' := mX10_isBillNumber) (k := 0) (As := [iv (b)]) (S := []) (L := [some (.ref 0), some (iv (b)), some (iv (d)), some (iv (e)), some (iv (m)), some (iv (q)), some (iv 0)]) (pc' := 32) (g_d dtbX10_note_0 16 rfl) lk_X10_114 okX10_isBillNumber (by decide) rfl rfl rfl rfl (Nat.le_of_ble_eq_true rfl) (Nat.le_of_ble_eq_true rfl) (by decide) rfl (c_isBN G Z A B hC hA b (by omega)) ?_
    rintro _ _ ⟨rfl, ⟨rfl, hw29⟩ | ⟨rfl, hw29⟩⟩
    · refine nz_if_eq_f (pc' := 35) (g_d dtbX10_note_0 17 rfl) (by omega) (by decide) rfl (by omega) ?_
      refine cz_iload (pc' := 37) (g_d dtbX10_note_0 18 rfl) rfl rfl ?_
      refine nz_if_eq_t (tgt := 65) (g_d dtbX10_note_0 19 rfl) (by omega) rfl (by omega) ?_
      refine cz_aload_n (pc' := 66) (g_d dtbX10_note_0 30 rfl) rfl rfl ?_
      refine nz_bipush (pc' := 68) (g_d dtbX10_note_0 31 rfl) (by decide) rfl ?_
      refine nz_cVi (M' := mX10_refuseBad) (k := 0) (As := [iv (-2)]) (S := []) (L := [some (.ref 0), some (iv (b)), some (iv (d)), some (iv (e)), some (iv (m)), some (iv (q)), some (iv 0)]) (pc' := 71) (g_d dtbX10_note_0 32 rfl) lk_X10_57 okX10_refuseBad (by decide) rfl rfl rfl rfl (Nat.le_of_ble_eq_true rfl) (Nat.le_of_ble_eq_true rfl) (by decide) rfl (c_refuseBad G Z (-2)) ?_
      rintro _ _ ⟨rfl, rfl⟩
      refine nz_ri .int (g_d dtbX10_note_0 33 rfl) rfl rfl ?_
      rw [show xNote A b d e m q = (-2, aBad A) from by unfold xNote; rw [if_neg (by omega)]]
      exact ⟨rfl, cs_bad hC, (FM.u FM.rf (by decide))⟩
    · refine nz_if_eq_t (tgt := 65) (g_d dtbX10_note_0 17 rfl) (by omega) rfl (by omega) ?_
      refine cz_aload_n (pc' := 66) (g_d dtbX10_note_0 30 rfl) rfl rfl ?_
      refine nz_bipush (pc' := 68) (g_d dtbX10_note_0 31 rfl) (by decide) rfl ?_
      refine nz_cVi (M' := mX10_refuseBad) (k := 0) (As := [iv (-2)]) (S := []) (L := [some (.ref 0), some (iv (b)), some (iv (d)), some (iv (e)), some (iv (m)), some (iv (q)), some (iv 0)]) (pc' := 71) (g_d dtbX10_note_0 32 rfl) lk_X10_57 okX10_refuseBad (by decide) rfl rfl rfl rfl (Nat.le_of_ble_eq_true rfl) (Nat.le_of_ble_eq_true rfl) (by decide) rfl (c_refuseBad G Z (-2)) ?_
      rintro _ _ ⟨rfl, rfl⟩
      refine nz_ri .int (g_d dtbX10_note_0 33 rfl) rfl rfl ?_
      rw [show xNote A b d e m q = (-2, aBad A) from by unfold xNote; rw [if_neg (by omega)]]
      exact ⟨rfl, cs_bad hC, (FM.u FM.rf (by decide))⟩

set_option maxRecDepth 20000 in
set_option maxHeartbeats 4000000 in
theorem a_part (G : Wd) (Z : ZS) (A : AS) (B : Int) (hC : CS Z A) (hA : AO B A) (w : Int) (hw : -2147483648 ≤ w ∧ w ≤ 2147483647) : Cn G mX10_part 0 [some (.ref 0), some (iv (w))] [] Z (ql (fun r W => (xPart A w).1 = r ∧ CS W (xPart A w).2 ∧ FM Z W)) := by
  have hB := hC.1
  have hb0 := hA.1
  have hO := hA.2.1
  have h6 : 0 ≤ A.1 6 ∧ A.1 6 ≤ 7 := hO.2.1
  have h28 : 0 ≤ A.1 28 ∧ A.1 28 ≤ 6 := hO.2.2.2.1
  have h59 : 0 ≤ A.1 59 ∧ A.1 59 ≤ 8 := hO.2.2.2.2.2.1
  have hf := hO.1
  unfold FO at hf
  have hct := hA.2.2.2.2.2.2
  have hq := hC.2.2.2.2.1
  have hst := hC.2.2.2.2.2
  refine cz_iload_n (pc' := 1) (g_d dtbX10_part_0 0 rfl) rfl rfl ?_
  refine nz_iconst (pc' := 2) (g_d dtbX10_part_0 1 rfl) rfl ?_
  refine nz_iconst (pc' := 3) (g_d dtbX10_part_0 2 rfl) rfl ?_
  refine nz_cSi (M' := mX10_within) (As := [iv (w), iv 0, iv 1]) (S := []) (L := [some (.ref 0), some (iv (w))]) (pc' := 6) (g_d dtbX10_part_0 3 rfl) lk_X10_53 okX10_within rfl rfl (Nat.le_of_ble_eq_true rfl) (Nat.le_of_ble_eq_true rfl) (by decide) rfl (c_within G Z w 0 1 (by omega) (by omega) (by omega)) ?_
  rintro _ _ ⟨rfl, ⟨rfl, hw3⟩ | ⟨rfl, hw3⟩⟩
  · refine nz_if_ne_t (tgt := 17) (g_d dtbX10_part_0 4 rfl) (by omega) rfl (by omega) ?_
    refine cz_iload_n (pc' := 18) (g_d dtbX10_part_0 10 rfl) rfl rfl ?_
    refine nz_if_ne (tgt := 28) (pc' := 21) (g_d dtbX10_part_0 11 rfl) (by omega) rfl rfl (fun h18 => ?_) (fun h18 => ?_)
    · refine cz_aload_n (pc' := 29) (g_d dtbX10_part_0 15 rfl) rfl rfl ?_
      refine nz_getf (v := il (A.2.2.2.2.1.2)) (pc' := 32) (g_d dtbX10_part_0 16 rfl) gf_X10_49 (by decide) rfl (congrArg il (hq.2)) rfl ?_
      refine nz_rl (g_d dtbX10_part_0 17 rfl) rfl ?_
      rw [show xPart A w = (A.2.2.2.2.1.2, A) from by unfold xPart; rw [if_neg (by omega), if_pos (by omega)]]
      exact ⟨rfl, hC, FM.rf⟩
    · refine cz_aload_n (pc' := 22) (g_d dtbX10_part_0 12 rfl) rfl rfl ?_
      refine nz_getf (v := il (A.2.2.2.2.1.1)) (pc' := 25) (g_d dtbX10_part_0 13 rfl) gf_X10_220 (by decide) rfl (congrArg il (hq.1)) rfl ?_
      refine cz_goto (pc' := 32) (g_d dtbX10_part_0 14 rfl) rfl ?_
      refine nz_rl (g_d dtbX10_part_0 17 rfl) rfl ?_
      rw [show xPart A w = (A.2.2.2.2.1.1, A) from if_pos (by omega)]
      exact ⟨rfl, hC, FM.rf⟩
  · refine nz_if_ne_f (pc' := 9) (g_d dtbX10_part_0 4 rfl) (by omega) (by decide) rfl (by omega) ?_
    refine cz_aload_n (pc' := 10) (g_d dtbX10_part_0 5 rfl) rfl rfl ?_
    refine nz_bipush (pc' := 12) (g_d dtbX10_part_0 6 rfl) (by decide) rfl ?_
    refine nz_cVi (M' := mX10_refuseBad) (k := 0) (As := [iv (-2)]) (S := []) (L := [some (.ref 0), some (iv (w))]) (pc' := 15) (g_d dtbX10_part_0 7 rfl) lk_X10_57 okX10_refuseBad (by decide) rfl rfl rfl rfl (Nat.le_of_ble_eq_true rfl) (Nat.le_of_ble_eq_true rfl) (by decide) rfl (c_refuseBad G Z (-2)) ?_
    rintro _ _ ⟨rfl, rfl⟩
    refine nz_i2l (pc' := 16) (g_d dtbX10_part_0 8 rfl) (by omega) rfl ?_
    refine nz_rl (g_d dtbX10_part_0 9 rfl) rfl ?_
    rw [show xPart A w = (-2, aBad A) from by unfold xPart; rw [if_neg (by omega), if_neg (by omega)]]
    exact ⟨rfl, cs_bad hC, (FM.u FM.rf (by decide))⟩

set_option maxRecDepth 20000 in
set_option maxHeartbeats 4000000 in
theorem a_status (G : Wd) (Z : ZS) (A : AS) (B : Int) (hC : CS Z A) (hA : AO B A) (w : Int) (hw : -2147483648 ≤ w ∧ w ≤ 2147483647) : Cn G mX10_status 0 [some (.ref 0), some (iv (w))] [] Z (qi (fun r W => (xStatus A w).1 = r ∧ CS W (xStatus A w).2 ∧ FM Z W)) := by
  have hB := hC.1
  have hb0 := hA.1
  have hO := hA.2.1
  have h6 : 0 ≤ A.1 6 ∧ A.1 6 ≤ 7 := hO.2.1
  have h28 : 0 ≤ A.1 28 ∧ A.1 28 ≤ 6 := hO.2.2.2.1
  have h59 : 0 ≤ A.1 59 ∧ A.1 59 ≤ 8 := hO.2.2.2.2.2.1
  have hf := hO.1
  unfold FO at hf
  have hct := hA.2.2.2.2.2.2
  have hq := hC.2.2.2.2.1
  have hst := hC.2.2.2.2.2
  refine cz_iload_n (pc' := 1) (g_d dtbX10_status_0 0 rfl) rfl rfl ?_
  rcases (show w = 0 ∨ w = 1 ∨ w = 2 ∨ (w < 0 ∨ 2 < w) from by omega) with h1 | h1 | h1 | h1
  · refine nz_tabIn (tgt := 28) 0 (g_d dtbX10_status_0 1 rfl) (by omega) (by omega) (by omega) rfl rfl ?_
    refine cz_aload_n (pc' := 29) (g_d dtbX10_status_0 2 rfl) rfl rfl ?_
    refine nz_getf (v := iv (A.2.2.2.2.2.1)) (pc' := 32) (g_d dtbX10_status_0 3 rfl) gf_X10_227 (by decide) rfl (congrArg iv (hst.1)) rfl ?_
    refine nz_ri .int (g_d dtbX10_status_0 4 rfl) rfl rfl ?_
    rw [show xStatus A w = (A.2.2.2.2.2.1, A) from by unfold xStatus; rw [if_pos (by omega)]]
    exact ⟨rfl, hC, FM.rf⟩
  · refine nz_tabIn (tgt := 33) 1 (g_d dtbX10_status_0 1 rfl) (by omega) (by omega) (by omega) rfl rfl ?_
    refine cz_aload_n (pc' := 34) (g_d dtbX10_status_0 5 rfl) rfl rfl ?_
    refine nz_getf (v := iv (A.2.2.2.2.2.2.1)) (pc' := 37) (g_d dtbX10_status_0 6 rfl) gf_X10_230 (by decide) rfl (congrArg iv (hst.2.1)) rfl ?_
    refine nz_ri .int (g_d dtbX10_status_0 7 rfl) rfl rfl ?_
    rw [show xStatus A w = (A.2.2.2.2.2.2.1, A) from by unfold xStatus; rw [if_neg (by omega), if_pos (by omega)]]
    exact ⟨rfl, hC, FM.rf⟩
  · refine nz_tabIn (tgt := 38) 2 (g_d dtbX10_status_0 1 rfl) (by omega) (by omega) (by omega) rfl rfl ?_
    refine cz_aload_n (pc' := 39) (g_d dtbX10_status_0 8 rfl) rfl rfl ?_
    refine nz_getf (v := iv (A.2.2.2.2.2.2.2)) (pc' := 42) (g_d dtbX10_status_0 9 rfl) gf_X10_233 (by decide) rfl (congrArg iv (hst.2.2)) rfl ?_
    refine nz_ri .int (g_d dtbX10_status_0 10 rfl) rfl rfl ?_
    rw [show xStatus A w = (A.2.2.2.2.2.2.2, A) from by unfold xStatus; rw [if_neg (by omega), if_neg (by omega), if_pos (by omega)]]
    exact ⟨rfl, hC, FM.rf⟩
  · refine nz_tabOut (tgt := 43) (g_d dtbX10_status_0 1 rfl) (by omega) h1 rfl ?_
    refine cz_aload_n (pc' := 44) (g_d dtbX10_status_0 11 rfl) rfl rfl ?_
    refine nz_iconst (pc' := 45) (g_d dtbX10_status_0 12 rfl) rfl ?_
    refine nz_cVi (M' := mX10_refuseBad) (k := 0) (As := [iv (-1)]) (S := []) (L := [some (.ref 0), some (iv (w))]) (pc' := 48) (g_d dtbX10_status_0 13 rfl) lk_X10_57 okX10_refuseBad (by decide) rfl rfl rfl rfl (Nat.le_of_ble_eq_true rfl) (Nat.le_of_ble_eq_true rfl) (by decide) rfl (c_refuseBad G Z (-1)) ?_
    rintro _ _ ⟨rfl, rfl⟩
    refine nz_ri .int (g_d dtbX10_status_0 14 rfl) rfl rfl ?_
    rw [show xStatus A w = (-1, aBad A) from by unfold xStatus; rw [if_neg (by omega), if_neg (by omega), if_neg (by omega)]]
    exact ⟨rfl, cs_bad hC, (FM.u FM.rf (by decide))⟩

set_option maxRecDepth 20000 in
set_option maxHeartbeats 4000000 in
theorem a_count (G : Wd) (Z : ZS) (A : AS) (B : Int) (hC : CS Z A) (hA : AO B A) (w : Int) (hw : -2147483648 ≤ w ∧ w ≤ 2147483647) : Cn G mX10_count 0 [some (.ref 0), some (iv (w))] [] Z (qi (fun r W => (xCount A w).1 = r ∧ CS W (xCount A w).2 ∧ FM Z W)) := by
  have hB := hC.1
  have hb0 := hA.1
  have hO := hA.2.1
  have h6 : 0 ≤ A.1 6 ∧ A.1 6 ≤ 7 := hO.2.1
  have h28 : 0 ≤ A.1 28 ∧ A.1 28 ≤ 6 := hO.2.2.2.1
  have h59 : 0 ≤ A.1 59 ∧ A.1 59 ≤ 8 := hO.2.2.2.2.2.1
  have hf := hO.1
  unfold FO at hf
  have hct := hA.2.2.2.2.2.2
  have ht := hC.2.2.2.1
  have hto := hA.2.2.2.2.1
  refine cz_iload_n (pc' := 1) (g_d dtbX10_count_0 0 rfl) rfl rfl ?_
  rcases (show w = 0 ∨ w = 1 ∨ w = 2 ∨ w = 3 ∨ (w < 0 ∨ 3 < w) from by omega) with h1 | h1 | h1 | h1 | h1
  · refine nz_tabIn (tgt := 32) 0 (g_d dtbX10_count_0 1 rfl) (by omega) (by omega) (by omega) rfl rfl ?_
    refine cz_aload_n (pc' := 33) (g_d dtbX10_count_0 2 rfl) rfl rfl ?_
    refine nz_getf (v := .ref 1) (pc' := 36) (g_d dtbX10_count_0 3 rfl) gf_X10_10 (by decide) rfl rfl rfl ?_
    refine nz_getf (v := iv (A.1 6)) (pc' := 39) (g_d dtbX10_count_0 4 rfl) gf_X10_61 (by decide) rfl (congrArg iv (br1_4 (hB))) rfl ?_
    refine nz_ri .int (g_d dtbX10_count_0 5 rfl) rfl rfl ?_
    rw [show xCount A w = (A.1 6, A) from by unfold xCount; rw [if_pos (by omega)]]
    exact ⟨rfl, hC, FM.rf⟩
  · refine nz_tabIn (tgt := 40) 1 (g_d dtbX10_count_0 1 rfl) (by omega) (by omega) (by omega) rfl rfl ?_
    refine cz_aload_n (pc' := 41) (g_d dtbX10_count_0 6 rfl) rfl rfl ?_
    refine nz_getf (v := .ref 1) (pc' := 44) (g_d dtbX10_count_0 7 rfl) gf_X10_10 (by decide) rfl rfl rfl ?_
    refine nz_getf (v := iv (A.1 28)) (pc' := 47) (g_d dtbX10_count_0 8 rfl) gf_X10_178 (by decide) rfl (congrArg iv (br1_5 (hB))) rfl ?_
    refine nz_ri .int (g_d dtbX10_count_0 9 rfl) rfl rfl ?_
    rw [show xCount A w = (A.1 28, A) from by unfold xCount; rw [if_neg (by omega), if_pos (by omega)]]
    exact ⟨rfl, hC, FM.rf⟩
  · refine nz_tabIn (tgt := 48) 2 (g_d dtbX10_count_0 1 rfl) (by omega) (by omega) (by omega) rfl rfl ?_
    refine cz_aload_n (pc' := 49) (g_d dtbX10_count_0 10 rfl) rfl rfl ?_
    refine nz_getf (v := .ref 1) (pc' := 52) (g_d dtbX10_count_0 11 rfl) gf_X10_10 (by decide) rfl rfl rfl ?_
    refine nz_getf (v := iv (A.1 59)) (pc' := 55) (g_d dtbX10_count_0 12 rfl) gf_X10_108 (by decide) rfl (congrArg iv (br1_6 (hB))) rfl ?_
    refine nz_ri .int (g_d dtbX10_count_0 13 rfl) rfl rfl ?_
    rw [show xCount A w = (A.1 59, A) from by unfold xCount; rw [if_neg (by omega), if_neg (by omega), if_pos (by omega)]]
    exact ⟨rfl, hC, FM.rf⟩
  · refine nz_tabIn (tgt := 56) 3 (g_d dtbX10_count_0 1 rfl) (by omega) (by omega) (by omega) rfl rfl ?_
    refine cz_aload_n (pc' := 57) (g_d dtbX10_count_0 14 rfl) rfl rfl ?_
    refine nz_getf (v := .ref 17) (pc' := 60) (g_d dtbX10_count_0 15 rfl) gf_X10_29 (by decide) rfl rfl rfl ?_
    refine nz_getf (v := iv ((A.2.2.2.1.1 : Int))) (pc' := 63) (g_d dtbX10_count_0 16 rfl) gf_X10_80 (by decide) rfl (congrArg iv (ht.1)) rfl ?_
    refine nz_ri .int (g_d dtbX10_count_0 17 rfl) rfl rfl ?_
    rw [show xCount A w = ((A.2.2.2.1.1 : Int), A) from by unfold xCount; rw [if_neg (by omega), if_neg (by omega), if_neg (by omega), if_pos (by omega)]]
    exact ⟨rfl, hC, FM.rf⟩
  · refine nz_tabOut (tgt := 64) (g_d dtbX10_count_0 1 rfl) (by omega) h1 rfl ?_
    refine cz_aload_n (pc' := 65) (g_d dtbX10_count_0 18 rfl) rfl rfl ?_
    refine nz_bipush (pc' := 67) (g_d dtbX10_count_0 19 rfl) (by decide) rfl ?_
    refine nz_cVi (M' := mX10_refuseBad) (k := 0) (As := [iv (-2)]) (S := []) (L := [some (.ref 0), some (iv (w))]) (pc' := 70) (g_d dtbX10_count_0 20 rfl) lk_X10_57 okX10_refuseBad (by decide) rfl rfl rfl rfl (Nat.le_of_ble_eq_true rfl) (Nat.le_of_ble_eq_true rfl) (by decide) rfl (c_refuseBad G Z (-2)) ?_
    rintro _ _ ⟨rfl, rfl⟩
    refine nz_ri .int (g_d dtbX10_count_0 21 rfl) rfl rfl ?_
    rw [show xCount A w = (-2, aBad A) from by unfold xCount; rw [if_neg (by omega), if_neg (by omega), if_neg (by omega), if_neg (by omega)]]
    exact ⟨rfl, cs_bad hC, (FM.u FM.rf (by decide))⟩

theorem CS.img0 {Z W : ZS} {A : AS} {g : Row} (h : CS Z A) (hb : BR W 6 g) (hF : Fb 6 Z W) : CS (zu W 16 0 1) (sI0 A g) := by
  obtain ⟨h1, h2, h3, h4, h5, h6⟩ := h
  have e : ∀ a, a < 6 ∨ (10 < a ∧ a ≠ 16) → (zu W 16 0 1) a = Z a := fun a ha => by rw [zu_row (by omega)]; exact hF a (by omega)
  refine ⟨h1.eq (fun a q1 q2 => e a (by omega)), ⟨zu_eq, fun _ => hb.eq (fun a q1 q2 => zu_row (by omega))⟩, ⟨?_, fun q => (h3.2 q).eq (fun a q1 q2 => e a (by omega))⟩, ⟨by rw [e 17 (by omega)]; exact h4.1, fun i hi => by rw [e 18 (by omega)]; exact h4.2 i hi⟩, ?_, ?_⟩
  · rw [zu_ne (by omega), hF 16 (by omega)]; exact h3.1
  · rw [e 0 (by omega)]; exact h5
  · rw [e 0 (by omega)]; exact h6
theorem CS.img1 {Z W : ZS} {A : AS} {g : Row} (h : CS Z A) (hb : BR W 11 g) (hF : Fb 11 Z W) : CS (zu W 16 1 1) (sI1 A g) := by
  obtain ⟨h1, h2, h3, h4, h5, h6⟩ := h
  have e : ∀ a, a < 11 ∨ (15 < a ∧ a ≠ 16) → (zu W 16 1 1) a = Z a := fun a ha => by rw [zu_row (by omega)]; exact hF a (by omega)
  refine ⟨h1.eq (fun a q1 q2 => e a (by omega)), ⟨?_, fun q => (h2.2 q).eq (fun a q1 q2 => e a (by omega))⟩, ⟨zu_eq, fun _ => hb.eq (fun a q1 q2 => zu_row (by omega))⟩, ⟨by rw [e 17 (by omega)]; exact h4.1, fun i hi => by rw [e 18 (by omega)]; exact h4.2 i hi⟩, ?_, ?_⟩
  · rw [zu_ne (by omega), hF 16 (by omega)]; exact h2.1
  · rw [e 0 (by omega)]; exact h5
  · rw [e 0 (by omega)]; exact h6
theorem bk6 : Bk 6 := Or.inr (Or.inl rfl)
theorem bk11 : Bk 11 := Or.inr (Or.inr (Or.inl rfl))
theorem bk19 : Bk 19 := Or.inr (Or.inr (Or.inr rfl))

set_option maxRecDepth 20000 in
set_option maxHeartbeats 4000000 in
theorem a_image (G : Wd) (Z : ZS) (A : AS) (B : Int) (hC : CS Z A) (hA : AO B A) (i : Int) (hi : -2147483648 ≤ i ∧ i ≤ 2147483647) : Cn G mX10_image 0 [some (.ref 0), some (iv (i))] [] Z (qi (fun r W => (xImage A i).1 = r ∧ CS W (xImage A i).2 ∧ FM Z W)) := by
  have hB := hC.1
  have hb0 := hA.1
  have hO := hA.2.1
  have h6 : 0 ≤ A.1 6 ∧ A.1 6 ≤ 7 := hO.2.1
  have h28 : 0 ≤ A.1 28 ∧ A.1 28 ≤ 6 := hO.2.2.2.1
  have h59 : 0 ≤ A.1 59 ∧ A.1 59 ≤ 8 := hO.2.2.2.2.2.1
  have hf := hO.1
  unfold FO at hf
  have hct := hA.2.2.2.2.2.2
  refine cz_iload_n (pc' := 1) (g_d dtbX10_image_0 0 rfl) rfl rfl ?_
  refine nz_iconst (pc' := 2) (g_d dtbX10_image_0 1 rfl) rfl ?_
  refine nz_iconst (pc' := 3) (g_d dtbX10_image_0 2 rfl) rfl ?_
  refine nz_cSi (M' := mX10_within) (As := [iv (i), iv 0, iv 1]) (S := []) (L := [some (.ref 0), some (iv (i))]) (pc' := 6) (g_d dtbX10_image_0 3 rfl) lk_X10_53 okX10_within rfl rfl (Nat.le_of_ble_eq_true rfl) (Nat.le_of_ble_eq_true rfl) (by decide) rfl (c_within G Z i 0 1 (by omega) (by omega) (by omega)) ?_
  rintro _ _ ⟨rfl, ⟨rfl, hw3⟩ | ⟨rfl, hw3⟩⟩
  · refine nz_if_ne_t (tgt := 16) (g_d dtbX10_image_0 4 rfl) (by omega) rfl (by omega) ?_
    rcases (show i = 0 ∨ i = 1 by omega) with rfl | rfl
    · refine cz_aload_n (pc' := 17) (g_d dtbX10_image_0 9 rfl) rfl rfl ?_
      refine cz_iload_n (pc' := 18) (g_d dtbX10_image_0 10 rfl) rfl rfl ?_
      refine nz_cVr (M' := mX10_imageAt) (k := 0) (As := [iv 0]) (S := []) (L := [some (.ref 0), some (iv 0)]) (pc' := 21) (g_d dtbX10_image_0 11 rfl) lk_X10_223 okX10_imageAt (by decide) rfl rfl rfl rfl (Nat.le_of_ble_eq_true rfl) (Nat.le_of_ble_eq_true rfl) (by decide) rfl (c_imageAt0 G Z) ?_
      rintro _ _ ⟨rfl, rfl⟩
      refine cz_aload_n (pc' := 22) (g_d dtbX10_image_0 12 rfl) rfl rfl ?_
      refine nz_getf (v := .ref 1) (pc' := 25) (g_d dtbX10_image_0 13 rfl) gf_X10_10 (by decide) rfl rfl rfl ?_
      refine nz_cVv (M' := mX0_copyFrom) (k := 6) (As := [.ref 1]) (S := []) (L := [some (.ref 0), some (iv 0)]) (pc' := 28) (g_d dtbX10_image_0 14 rfl) lk_X10_92 okX0_copyFrom (by decide) rfl rfl rfl rfl (Nat.le_of_ble_eq_true rfl) (Nat.le_of_ble_eq_true rfl) (by decide) rfl (c_copyFrom G Z 6 1 A.1 bk6 bk1 (by decide) hB) ?_
      rintro W1 ⟨hb1, hF1⟩
      refine cz_aload_n (pc' := 29) (g_d dtbX10_image_0 15 rfl) rfl rfl ?_
      refine nz_getf (v := .ref 16) (pc' := 32) (g_d dtbX10_image_0 16 rfl) gf_X10_22 (by decide) rfl rfl rfl ?_
      refine cz_iload_n (pc' := 33) (g_d dtbX10_image_0 17 rfl) rfl rfl ?_
      refine nz_iconst (pc' := 34) (g_d dtbX10_image_0 18 rfl) rfl ?_
      refine nz_zast 0 (pc' := 35) (g_d dtbX10_image_0 19 rfl) (by decide) rfl (by omega) (by rfl) (by omega) rfl rfl ?_
      refine nz_iconst (pc' := 36) (g_d dtbX10_image_0 20 rfl) rfl ?_
      refine nz_ri .int (g_d dtbX10_image_0 21 rfl) rfl rfl ?_
      rw [show xImage A 0 = (1, sI0 A A.1) from rfl]
      exact ⟨rfl, hC.img0 hb1 hF1, FM.u (FM.rf.b (by decide) hF1) (by decide)⟩
    · refine cz_aload_n (pc' := 17) (g_d dtbX10_image_0 9 rfl) rfl rfl ?_
      refine cz_iload_n (pc' := 18) (g_d dtbX10_image_0 10 rfl) rfl rfl ?_
      refine nz_cVr (M' := mX10_imageAt) (k := 0) (As := [iv 1]) (S := []) (L := [some (.ref 0), some (iv 1)]) (pc' := 21) (g_d dtbX10_image_0 11 rfl) lk_X10_223 okX10_imageAt (by decide) rfl rfl rfl rfl (Nat.le_of_ble_eq_true rfl) (Nat.le_of_ble_eq_true rfl) (by decide) rfl (c_imageAt1 G Z) ?_
      rintro _ _ ⟨rfl, rfl⟩
      refine cz_aload_n (pc' := 22) (g_d dtbX10_image_0 12 rfl) rfl rfl ?_
      refine nz_getf (v := .ref 1) (pc' := 25) (g_d dtbX10_image_0 13 rfl) gf_X10_10 (by decide) rfl rfl rfl ?_
      refine nz_cVv (M' := mX0_copyFrom) (k := 11) (As := [.ref 1]) (S := []) (L := [some (.ref 0), some (iv 1)]) (pc' := 28) (g_d dtbX10_image_0 14 rfl) lk_X10_92 okX0_copyFrom (by decide) rfl rfl rfl rfl (Nat.le_of_ble_eq_true rfl) (Nat.le_of_ble_eq_true rfl) (by decide) rfl (c_copyFrom G Z 11 1 A.1 bk11 bk1 (by decide) hB) ?_
      rintro W1 ⟨hb1, hF1⟩
      refine cz_aload_n (pc' := 29) (g_d dtbX10_image_0 15 rfl) rfl rfl ?_
      refine nz_getf (v := .ref 16) (pc' := 32) (g_d dtbX10_image_0 16 rfl) gf_X10_22 (by decide) rfl rfl rfl ?_
      refine cz_iload_n (pc' := 33) (g_d dtbX10_image_0 17 rfl) rfl rfl ?_
      refine nz_iconst (pc' := 34) (g_d dtbX10_image_0 18 rfl) rfl ?_
      refine nz_zast 1 (pc' := 35) (g_d dtbX10_image_0 19 rfl) (by decide) rfl (by omega) (by rfl) (by omega) rfl rfl ?_
      refine nz_iconst (pc' := 36) (g_d dtbX10_image_0 20 rfl) rfl ?_
      refine nz_ri .int (g_d dtbX10_image_0 21 rfl) rfl rfl ?_
      rw [show xImage A 1 = (1, sI1 A A.1) from rfl]
      exact ⟨rfl, hC.img1 hb1 hF1, FM.u (FM.rf.b (by decide) hF1) (by decide)⟩
  · refine nz_if_ne_f (pc' := 9) (g_d dtbX10_image_0 4 rfl) (by omega) (by decide) rfl (by omega) ?_
    refine cz_aload_n (pc' := 10) (g_d dtbX10_image_0 5 rfl) rfl rfl ?_
    refine nz_bipush (pc' := 12) (g_d dtbX10_image_0 6 rfl) (by decide) rfl ?_
    refine nz_cVi (M' := mX10_refuseBad) (k := 0) (As := [iv (-2)]) (S := []) (L := [some (.ref 0), some (iv (i))]) (pc' := 15) (g_d dtbX10_image_0 7 rfl) lk_X10_57 okX10_refuseBad (by decide) rfl rfl rfl rfl (Nat.le_of_ble_eq_true rfl) (Nat.le_of_ble_eq_true rfl) (by decide) rfl (c_refuseBad G Z (-2)) ?_
    rintro _ _ ⟨rfl, rfl⟩
    refine nz_ri .int (g_d dtbX10_image_0 8 rfl) rfl rfl ?_
    rw [show xImage A i = (-2, aBad A) from by unfold xImage; rw [if_neg (by omega), if_neg (by omega)]]
    exact ⟨rfl, cs_bad hC, (FM.u FM.rf (by decide))⟩

set_option maxRecDepth 20000 in
set_option maxHeartbeats 4000000 in
theorem a_from (G : Wd) (Z : ZS) (A : AS) (B : Int) (hC : CS Z A) (hA : AO B A) (i : Int) (hi : -2147483648 ≤ i ∧ i ≤ 2147483647) : Cn G mX10_from 0 [some (.ref 0), some (iv (i))] [] Z (qi (fun r W => (xFrom A i).1 = r ∧ CS W (xFrom A i).2 ∧ FM Z W)) := by
  have hB := hC.1
  have hb0 := hA.1
  have hO := hA.2.1
  have h6 : 0 ≤ A.1 6 ∧ A.1 6 ≤ 7 := hO.2.1
  have h28 : 0 ≤ A.1 28 ∧ A.1 28 ≤ 6 := hO.2.2.2.1
  have h59 : 0 ≤ A.1 59 ∧ A.1 59 ≤ 8 := hO.2.2.2.2.2.1
  have hf := hO.1
  unfold FO at hf
  have hct := hA.2.2.2.2.2.2
  have hg0 := hC.2.1
  have hg1 := hC.2.2.1
  have ho0 := hA.2.2.1.1
  have ho1 := hA.2.2.2.1.1
  refine cz_iload_n (pc' := 1) (g_d dtbX10_from_0 0 rfl) rfl rfl ?_
  refine nz_iconst (pc' := 2) (g_d dtbX10_from_0 1 rfl) rfl ?_
  refine nz_iconst (pc' := 3) (g_d dtbX10_from_0 2 rfl) rfl ?_
  refine nz_cSi (M' := mX10_within) (As := [iv (i), iv 0, iv 1]) (S := []) (L := [some (.ref 0), some (iv (i))]) (pc' := 6) (g_d dtbX10_from_0 3 rfl) lk_X10_53 okX10_within rfl rfl (Nat.le_of_ble_eq_true rfl) (Nat.le_of_ble_eq_true rfl) (by decide) rfl (c_within G Z i 0 1 (by omega) (by omega) (by omega)) ?_
  rintro _ _ ⟨rfl, ⟨rfl, hw3⟩ | ⟨rfl, hw3⟩⟩
  · refine nz_if_ne_t (tgt := 16) (g_d dtbX10_from_0 4 rfl) (by omega) rfl (by omega) ?_
    rcases (show i = 0 ∨ i = 1 by omega) with rfl | rfl
    · refine cz_aload_n (pc' := 17) (g_d dtbX10_from_0 9 rfl) rfl rfl ?_
      refine nz_getf (v := .ref 16) (pc' := 20) (g_d dtbX10_from_0 10 rfl) gf_X10_22 (by decide) rfl rfl rfl ?_
      refine cz_iload_n (pc' := 21) (g_d dtbX10_from_0 11 rfl) rfl rfl ?_
      refine nz_zald 0 (pc' := 22) (g_d dtbX10_from_0 12 rfl) (by decide) rfl (by omega) (by rfl) (by omega) rfl ?_
      rw [show Z 16 0 = A.2.1.1 from hg0.1]
      refine nz_if_ne (tgt := 30) (pc' := 25) (g_d dtbX10_from_0 13 rfl) (by omega) rfl rfl (fun h22 => ?_) (fun h22 => ?_)
      · refine cz_aload_n (pc' := 31) (g_d dtbX10_from_0 17 rfl) rfl rfl ?_
        refine nz_getf (v := .ref 1) (pc' := 34) (g_d dtbX10_from_0 18 rfl) gf_X10_10 (by decide) rfl rfl rfl ?_
        refine cz_aload_n (pc' := 35) (g_d dtbX10_from_0 19 rfl) rfl rfl ?_
        refine cz_iload_n (pc' := 36) (g_d dtbX10_from_0 20 rfl) rfl rfl ?_
        refine nz_cVr (M' := mX10_imageAt) (k := 0) (As := [iv 0]) (S := [.ref 1]) (L := [some (.ref 0), some (iv 0)]) (pc' := 39) (g_d dtbX10_from_0 21 rfl) lk_X10_223 okX10_imageAt (by decide) rfl rfl rfl rfl (Nat.le_of_ble_eq_true rfl) (Nat.le_of_ble_eq_true rfl) (by decide) rfl (c_imageAt0 G Z) ?_
        rintro _ _ ⟨rfl, rfl⟩
        refine nz_cVv (M' := mX0_copyFrom) (k := 1) (As := [.ref 6]) (S := []) (L := [some (.ref 0), some (iv 0)]) (pc' := 42) (g_d dtbX10_from_0 22 rfl) lk_X10_92 okX0_copyFrom (by decide) rfl rfl rfl rfl (Nat.le_of_ble_eq_true rfl) (Nat.le_of_ble_eq_true rfl) (by decide) rfl (c_copyFrom G Z 1 6 _ bk1 bk6 (by decide) (hg0.2 (by omega))) ?_
        rintro W1 ⟨hb1, hF1⟩
        refine nz_iconst (pc' := 43) (g_d dtbX10_from_0 23 rfl) rfl ?_
        refine nz_ri .int (g_d dtbX10_from_0 24 rfl) rfl rfl ?_
        rw [show xFrom A 0 = (1, sF A (r108 A.2.1.2 A.1)) from by unfold xFrom; rw [if_pos rfl, if_neg (by omega)]]
        exact ⟨rfl, hC.book (hb1.ext (fun j hj => r108_at hj)) hF1, FM.rf.b (by decide) hF1⟩
      · refine cz_aload_n (pc' := 26) (g_d dtbX10_from_0 14 rfl) rfl rfl ?_
        refine nz_cVi (M' := mX10_refuseNo) (k := 0) (As := []) (S := []) (L := [some (.ref 0), some (iv 0)]) (pc' := 29) (g_d dtbX10_from_0 15 rfl) lk_X10_105 okX10_refuseNo (by decide) rfl rfl rfl rfl (Nat.le_of_ble_eq_true rfl) (Nat.le_of_ble_eq_true rfl) (by decide) rfl (c_refuseNo G Z) ?_
        rintro _ _ ⟨rfl, rfl⟩
        refine nz_ri .int (g_d dtbX10_from_0 16 rfl) rfl rfl ?_
        rw [show xFrom A 0 = (-3, aNo A) from by unfold xFrom; rw [if_pos rfl, if_pos (by omega)]]
        exact ⟨rfl, cs_no hC, (FM.u FM.rf (by decide))⟩
    · refine cz_aload_n (pc' := 17) (g_d dtbX10_from_0 9 rfl) rfl rfl ?_
      refine nz_getf (v := .ref 16) (pc' := 20) (g_d dtbX10_from_0 10 rfl) gf_X10_22 (by decide) rfl rfl rfl ?_
      refine cz_iload_n (pc' := 21) (g_d dtbX10_from_0 11 rfl) rfl rfl ?_
      refine nz_zald 1 (pc' := 22) (g_d dtbX10_from_0 12 rfl) (by decide) rfl (by omega) (by rfl) (by omega) rfl ?_
      rw [show Z 16 1 = A.2.2.1.1 from hg1.1]
      refine nz_if_ne (tgt := 30) (pc' := 25) (g_d dtbX10_from_0 13 rfl) (by omega) rfl rfl (fun h22 => ?_) (fun h22 => ?_)
      · refine cz_aload_n (pc' := 31) (g_d dtbX10_from_0 17 rfl) rfl rfl ?_
        refine nz_getf (v := .ref 1) (pc' := 34) (g_d dtbX10_from_0 18 rfl) gf_X10_10 (by decide) rfl rfl rfl ?_
        refine cz_aload_n (pc' := 35) (g_d dtbX10_from_0 19 rfl) rfl rfl ?_
        refine cz_iload_n (pc' := 36) (g_d dtbX10_from_0 20 rfl) rfl rfl ?_
        refine nz_cVr (M' := mX10_imageAt) (k := 0) (As := [iv 1]) (S := [.ref 1]) (L := [some (.ref 0), some (iv 1)]) (pc' := 39) (g_d dtbX10_from_0 21 rfl) lk_X10_223 okX10_imageAt (by decide) rfl rfl rfl rfl (Nat.le_of_ble_eq_true rfl) (Nat.le_of_ble_eq_true rfl) (by decide) rfl (c_imageAt1 G Z) ?_
        rintro _ _ ⟨rfl, rfl⟩
        refine nz_cVv (M' := mX0_copyFrom) (k := 1) (As := [.ref 11]) (S := []) (L := [some (.ref 0), some (iv 1)]) (pc' := 42) (g_d dtbX10_from_0 22 rfl) lk_X10_92 okX0_copyFrom (by decide) rfl rfl rfl rfl (Nat.le_of_ble_eq_true rfl) (Nat.le_of_ble_eq_true rfl) (by decide) rfl (c_copyFrom G Z 1 11 _ bk1 bk11 (by decide) (hg1.2 (by omega))) ?_
        rintro W1 ⟨hb1, hF1⟩
        refine nz_iconst (pc' := 43) (g_d dtbX10_from_0 23 rfl) rfl ?_
        refine nz_ri .int (g_d dtbX10_from_0 24 rfl) rfl rfl ?_
        rw [show xFrom A 1 = (1, sF A (r108 A.2.2.1.2 A.1)) from by unfold xFrom; rw [if_neg (by decide), if_pos rfl, if_neg (by omega)]]
        exact ⟨rfl, hC.book (hb1.ext (fun j hj => r108_at hj)) hF1, FM.rf.b (by decide) hF1⟩
      · refine cz_aload_n (pc' := 26) (g_d dtbX10_from_0 14 rfl) rfl rfl ?_
        refine nz_cVi (M' := mX10_refuseNo) (k := 0) (As := []) (S := []) (L := [some (.ref 0), some (iv 1)]) (pc' := 29) (g_d dtbX10_from_0 15 rfl) lk_X10_105 okX10_refuseNo (by decide) rfl rfl rfl rfl (Nat.le_of_ble_eq_true rfl) (Nat.le_of_ble_eq_true rfl) (by decide) rfl (c_refuseNo G Z) ?_
        rintro _ _ ⟨rfl, rfl⟩
        refine nz_ri .int (g_d dtbX10_from_0 16 rfl) rfl rfl ?_
        rw [show xFrom A 1 = (-3, aNo A) from by unfold xFrom; rw [if_neg (by decide), if_pos rfl, if_pos (by omega)]]
        exact ⟨rfl, cs_no hC, (FM.u FM.rf (by decide))⟩
  · refine nz_if_ne_f (pc' := 9) (g_d dtbX10_from_0 4 rfl) (by omega) (by decide) rfl (by omega) ?_
    refine cz_aload_n (pc' := 10) (g_d dtbX10_from_0 5 rfl) rfl rfl ?_
    refine nz_bipush (pc' := 12) (g_d dtbX10_from_0 6 rfl) (by decide) rfl ?_
    refine nz_cVi (M' := mX10_refuseBad) (k := 0) (As := [iv (-2)]) (S := []) (L := [some (.ref 0), some (iv (i))]) (pc' := 15) (g_d dtbX10_from_0 7 rfl) lk_X10_57 okX10_refuseBad (by decide) rfl rfl rfl rfl (Nat.le_of_ble_eq_true rfl) (Nat.le_of_ble_eq_true rfl) (by decide) rfl (c_refuseBad G Z (-2)) ?_
    rintro _ _ ⟨rfl, rfl⟩
    refine nz_ri .int (g_d dtbX10_from_0 8 rfl) rfl rfl ?_
    rw [show xFrom A i = (-2, aBad A) from by unfold xFrom; rw [if_neg (by omega), if_neg (by omega)]]
    exact ⟨rfl, cs_bad hC, (FM.u FM.rf (by decide))⟩
end
section
/-! days that go by -/
def g_le : List (Option Value) → List (Option Value) → Prop
  | [], _ => True
  | none :: a, [] => g_le a []
  | none :: a, _ :: b => g_le a b
  | some v :: a, some w :: b => v = w ∧ g_le a b
  | some _ :: _, _ => False
theorem g_le_at : ∀ (a b : List (Option Value)), g_le a b → ∀ (i : Nat) (v : Value), a[i]? = some (some v) → b[i]? = some (some v) := by
  intro a
  induction a with
  | nil => intro b _ i v h; simp at h
  | cons x a ih =>
    intro b hb i v h
    cases x with
    | none =>
      cases b with
      | nil =>
        cases i with
        | zero => simp at h
        | succ i =>
          rw [List.getElem?_cons_succ] at h
          have := ih [] hb i v h
          simp at this
      | cons y b =>
        cases i with
        | zero => simp at h
        | succ i =>
          rw [List.getElem?_cons_succ] at h ⊢
          exact ih b hb i v h
    | some w =>
      cases b with
      | nil => exact hb.elim
      | cons y b =>
        cases y with
        | none => exact hb.elim
        | some z =>
          cases i with
          | zero => simp at h ⊢; rw [← hb.1]; exact h
          | succ i =>
            rw [List.getElem?_cons_succ] at h ⊢
            exact ih b hb.2 i v h
theorem cz_le {G : Wd} {M : MD} {nE pc : Nat} {L : List (Option Value)} {S : List Value} {σ : St} {Q : Option Value → St → Prop} (L' : List (Option Value)) (hl : g_le L' L) (h : Cc G M nE pc L' S σ Q) : Cc G M nE pc L S σ Q := cz_less (g_le_at L' L hl) h
theorem dyA0 {f : Row} (h : 1 ≤ f 3 ∧ f 3 ≤ 28) : dyA f 0 = f 3 := by unfold dyA; omega
theorem mnA0 {f : Row} (h : 1 ≤ f 3 ∧ f 3 ≤ 28) : mnA f 0 = f 4 := by unfold mnA; omega
def rGo (f : Row) (s : Int) : Row := fun j => if j = 0 then (if f 0 - (drA f (f 6).toNat 0 + s) < 0 then f 0 - (drA f (f 6).toNat 0 + s) - 1 else f 0 - (drA f (f 6).toNat 0 + s)) else if j = 2 then (if f 0 - (drA f (f 6).toNat 0 + s) < 0 then f 2 + 1 else f 2) else if j = 3 then (if f 3 < 28 then f 3 + 1 else 1) else if j = 4 then (if f 3 < 28 then f 4 else f 4 + 1) else f j
theorem rGo_hi {f : Row} {s : Int} {j : Nat} (h : 5 ≤ j) : rGo f s j = f j := by
  simp only [rGo]
  rw [if_neg (by omega), if_neg (by omega), if_neg (by omega), if_neg (by omega)]
theorem rGo_0 {f : Row} {s : Int} : rGo f s 0 = (if f 0 - (drA f (f 6).toNat 0 + s) < 0 then f 0 - (drA f (f 6).toNat 0 + s) - 1 else f 0 - (drA f (f 6).toNat 0 + s)) := rfl
theorem rGo_1 {f : Row} {s : Int} : rGo f s 1 = f 1 := rfl
theorem rGo_2 {f : Row} {s : Int} : rGo f s 2 = (if f 0 - (drA f (f 6).toNat 0 + s) < 0 then f 2 + 1 else f 2) := rfl
theorem rGo_3 {f : Row} {s : Int} : rGo f s 3 = (if f 3 < 28 then f 3 + 1 else 1) := rfl
theorem rGo_4 {f : Row} {s : Int} : rGo f s 4 = (if f 3 < 28 then f 4 else f 4 + 1) := rfl
theorem rGo_5 {f : Row} {s : Int} : rGo f s 5 = f 5 := rfl
theorem ro_go {B s : Int} {f : Row} (h : RO B f) (hs : 0 ≤ s ∧ s ≤ 40) : RO (B + 7000) (rGo f s) := by
  have h6 := h.2.1
  have hd := drA_in h 0 (f 6).toNat (by omega) (by omega)
  refine ro_fig (h.mono (show B ≤ B + 7000 by omega)) (fun j hj => rGo_hi (by omega)) ?_
  have hf := h.1
  unfold FO at hf ⊢
  rw [rGo_0, rGo_1, rGo_2, rGo_3, rGo_4, rGo_5]
  refine ⟨?_, ?_, ?_, ?_, ?_, ?_⟩
  · split <;> omega
  · omega
  · split <;> omega
  · split <;> omega
  · split <;> omega
  · omega
def rDs (g : Row) : Nat → Row
  | 0 => g
  | i + 1 => rGo (rDs g i) (rDs g i 5)
theorem ro_ds {B : Int} {g : Row} (h : RO B g) : ∀ i : Nat, RO (B + 7000 * (i : Int)) (rDs g i) := by
  intro i
  induction i with
  | zero => simpa [rDs] using h
  | succ i ih =>
    have h5 := ih.1.2.2.2.2.2
    have := ro_go ih (s := rDs g i 5) (by omega)
    rw [show B + 7000 * ((i + 1 : Nat) : Int) = B + 7000 * (i : Int) + 7000 by push_cast; omega]
    exact this
def xDays (A : AS) (n : Int) : Int × AS := if 1 ≤ n ∧ n ≤ 99 then (rDs (rKeep A.1) n.toNat 2 - A.1 2, sF A (rDs (rKeep A.1) n.toNat)) else (-2, aBad A)
def xOf (A : AS) (b w : Int) : Int × AS := if (0 ≤ b ∧ b < A.1 6) ∧ (0 ≤ w ∧ w ≤ 4) then (if w = 0 then A.1 (7 + b.toNat) else if w = 1 then A.1 (14 + b.toNat) else if w = 2 then A.1 (21 + b.toNat) else if w = 3 then dayB (A.1 (7 + b.toNat)) (A.1 (14 + b.toNat)) else pndB (A.1 (7 + b.toNat)) (A.1 (21 + b.toNat)) (A.1 4), A) else (-10000, aBad A)
def trF (f : Row) : Nat → Int
  | 0 => f 0
  | n + 1 => if f (7 + n) ≠ 5 ∧ f 3 ≤ dayB (f (7 + n)) (f (14 + n)) then trF f n - pndB (f (7 + n)) (f (21 + n)) (f 4) else trF f n
def xTruly (A : AS) : Int × AS := (trF A.1 (A.1 6).toNat, A)
def mnF (f : Row) (b : Nat) : Nat → Int
  | 0 => 0
  | i + 1 => mnF f b i + (pndB (f (7 + b)) (f (21 + b)) (f 4 + i) - f (21 + b))
def xMonthly (A : AS) (b : Int) : Int × AS := if 0 ≤ b ∧ b < A.1 6 then (mnF A.1 b.toNat 12, A) else (-100000, aBad A)

set_option maxRecDepth 20000 in
set_option maxHeartbeats 4000000 in
theorem l_drawnToday (G : Wd) (Z : ZS) (f : Row) (B : Int) (hB : BR Z 1 f) (hR : RO B f) (hBB : B ≤ 60000000) : ∀ (d : Nat) (n : Nat), (f 6).toNat - n = d → (n : Int) ≤ f 6 → Cn G mX10_drawnToday 4 [some (.ref 0), some (iv (drA f n 0)), some (iv ((n : Int))), none] [] Z (qi (fun r W => drA f (f 6).toNat 0 = r ∧ Z = W)) := by
  intro d
  induction d using Nat.strongRecOn with
  | ind d ih =>
    intro n hd hn
    have h6 := hR.2.1
    have hf3 : 1 ≤ f 3 ∧ f 3 ≤ 28 := hR.1.2.2.2.1
    have hf4 : 0 ≤ f 4 ∧ f 4 ≤ B := by have := hR.1.2.2.2.2.1; omega
    have hf0 := hR.1.1
    refine cz_iload_n (pc' := 5) (g_d dtbX10_drawnToday_0 4 rfl) rfl rfl ?_
    refine cz_aload_n (pc' := 6) (g_d dtbX10_drawnToday_0 5 rfl) rfl rfl ?_
    refine nz_getf (v := .ref 1) (pc' := 9) (g_d dtbX10_drawnToday_0 6 rfl) gf_X10_10 (by decide) rfl rfl rfl ?_
    refine nz_getf (v := iv (f 6)) (pc' := 12) (g_d dtbX10_drawnToday_0 7 rfl) gf_X10_61 (by decide) rfl (congrArg iv (br1_4 (hB))) rfl ?_
    refine nz_icmp_ge (tgt := 85) (pc' := 15) (g_d dtbX10_drawnToday_0 8 rfl) (by omega) (by omega) rfl rfl (fun h12 => ?_) (fun h12 => ?_)
    · refine cz_iload_n (pc' := 86) (g_d dtbX10_drawnToday_0 45 rfl) rfl rfl ?_
      refine nz_ri .int (g_d dtbX10_drawnToday_0 46 rfl) rfl rfl ?_
      rw [show n = (f 6).toNat by omega]; exact ⟨rfl, rfl⟩
    · have hn7 : n < 7 := by omega
      have hn2 : (n : Int) < f 6 := by omega
      have hbo := hR.2.2.1 n hn7 hn2
      have hto : 1 ≤ f (14 + n) ∧ f (14 + n) ≤ 28 := hbo.2.1
      have hpo : 1 ≤ f (21 + n) ∧ f (21 + n) ≤ 99 := hbo.2.2
      obtain ⟨κ, hκ, hκ6⟩ : ∃ κ : Nat, f (7 + n) = (κ : Int) ∧ κ < 6 := ⟨(f (7 + n)).toNat, by have := hbo.1; omega, by have := hbo.1; omega⟩
      have hdI := dayB_in (κ := (κ : Int)) hto
      have hpI := pndB_in (κ := (κ : Int)) (p := f (21 + n)) (m := f 4) (by omega)
      refine cz_aload_n (pc' := 16) (g_d dtbX10_drawnToday_0 9 rfl) rfl rfl ?_
      refine nz_getf (v := .ref 25) (pc' := 19) (g_d dtbX10_drawnToday_0 10 rfl) gf_X10_44 (by decide) rfl rfl rfl ?_
      refine cz_aload_n (pc' := 20) (g_d dtbX10_drawnToday_0 11 rfl) rfl rfl ?_
      refine nz_getf (v := .ref 1) (pc' := 23) (g_d dtbX10_drawnToday_0 12 rfl) gf_X10_10 (by decide) rfl rfl rfl ?_
      refine cz_iload_n (pc' := 24) (g_d dtbX10_drawnToday_0 13 rfl) rfl rfl ?_
      refine nz_cVi (M' := mX0_kindAt) (k := 1) (As := [iv ((n : Int))]) (S := [.ref 25]) (L := [some (.ref 0), some (iv (drA f n 0)), some (iv ((n : Int))), none]) (pc' := 27) (g_d dtbX10_drawnToday_0 14 rfl) lk_X10_118 okX0_kindAt (by decide) rfl rfl rfl rfl (Nat.le_of_ble_eq_true rfl) (Nat.le_of_ble_eq_true rfl) (by decide) rfl (c_kindR G Z n f (hB) hn7 hn2) ?_
      rintro _ _ ⟨rfl, rfl⟩
      rw [hκ]
      refine nz_cVr (M' := mX2_numbered) (k := 25) (As := [iv ((κ : Int))]) (S := []) (L := [some (.ref 0), some (iv (drA f n 0)), some (iv ((n : Int))), none]) (pc' := 30) (g_d dtbX10_drawnToday_0 15 rfl) lk_X10_121 okX2_numbered (by decide) rfl rfl rfl rfl (Nat.le_of_ble_eq_true rfl) (Nat.le_of_ble_eq_true rfl) (by decide) rfl (c_numbered G Z κ hκ6) ?_
      rintro _ _ ⟨rfl, rfl⟩
      refine cz_astore_n (L' := [some (.ref 0), some (iv (drA f n 0)), some (iv ((n : Int))), some (.ref (26 + κ))]) (pc' := 31) (g_d dtbX10_drawnToday_0 16 rfl) (by decide) rfl rfl ?_
      refine cz_aload_n (pc' := 32) (g_d dtbX10_drawnToday_0 17 rfl) rfl rfl ?_
      refine cz_aload_n (pc' := 33) (g_d dtbX10_drawnToday_0 18 rfl) rfl rfl ?_
      refine nz_getf (v := .ref 1) (pc' := 36) (g_d dtbX10_drawnToday_0 19 rfl) gf_X10_10 (by decide) rfl rfl rfl ?_
      refine cz_iload_n (pc' := 37) (g_d dtbX10_drawnToday_0 20 rfl) rfl rfl ?_
      refine nz_cVi (M' := mX0_dayAt) (k := 1) (As := [iv ((n : Int))]) (S := [.ref (26 + κ)]) (L := [some (.ref 0), some (iv (drA f n 0)), some (iv ((n : Int))), some (.ref (26 + κ))]) (pc' := 40) (g_d dtbX10_drawnToday_0 21 rfl) lk_X10_127 okX0_dayAt (by decide) rfl rfl rfl rfl (Nat.le_of_ble_eq_true rfl) (Nat.le_of_ble_eq_true rfl) (by decide) rfl (c_dayR G Z n f (hB) hn7 hn2) ?_
      rintro _ _ ⟨rfl, rfl⟩
      refine nz_cD (κ := κ) (S := []) (L := [some (.ref 0), some (iv (drA f n 0)), some (iv ((n : Int))), some (.ref (26 + κ))]) (pc' := 43) (g_d dtbX10_drawnToday_0 22 rfl) kd_X10 hκ6 (by omega) (Nat.le_of_ble_eq_true rfl) (by decide) (by decide) rfl ?_
      refine cz_aload_n (pc' := 44) (g_d dtbX10_drawnToday_0 23 rfl) rfl rfl ?_
      refine nz_getf (v := .ref 1) (pc' := 47) (g_d dtbX10_drawnToday_0 24 rfl) gf_X10_10 (by decide) rfl rfl rfl ?_
      refine nz_getf (v := .ref 2) (pc' := 50) (g_d dtbX10_drawnToday_0 25 rfl) gf_X10_99 (by decide) rfl rfl rfl ?_
      refine nz_iconst (pc' := 51) (g_d dtbX10_drawnToday_0 26 rfl) rfl ?_
      refine nz_iald 3 (pc' := 52) (g_d dtbX10_drawnToday_0 27 rfl) (by decide) rfl (by omega) (by rfl) (by omega) rfl ?_
      rw [show Z 2 3 = f 3 from br1_fig (hB) (by decide)]
      refine nz_icmp_ne (tgt := 79) (pc' := 55) (g_d dtbX10_drawnToday_0 28 rfl) (by omega) (by omega) rfl rfl (fun h52 => ?_) (fun h52 => ?_)
      · refine nz_iinc (L' := [some (.ref 0), some (iv (drA f n 0)), some (iv (((n : Int)) + 1)), some (.ref (26 + κ))]) (pc' := 82) (g_d dtbX10_drawnToday_0 43 rfl) (by decide) rfl rfl rfl ?_
        refine cz_goto (pc' := 4) (g_d dtbX10_drawnToday_0 44 rfl) rfl ?_
        refine cz_le [some (.ref 0), some (iv (drA f n 0)), some (iv (((n : Int)) + 1)), none] ⟨rfl, rfl, rfl, trivial⟩ ?_
        rw [show drA f n 0 = drA f (n + 1) 0 from by simp only [drA, pA]; rw [hκ, dyA0 hf3, mnA0 hf3, if_neg (by omega)]; omega]
        exact ih ((f 6).toNat - (n + 1)) (by omega) (n + 1) rfl (by omega)
      · refine cz_iload_n (pc' := 56) (g_d dtbX10_drawnToday_0 29 rfl) rfl rfl ?_
        refine cz_aload_n (pc' := 57) (g_d dtbX10_drawnToday_0 30 rfl) rfl rfl ?_
        refine cz_aload_n (pc' := 58) (g_d dtbX10_drawnToday_0 31 rfl) rfl rfl ?_
        refine nz_getf (v := .ref 1) (pc' := 61) (g_d dtbX10_drawnToday_0 32 rfl) gf_X10_10 (by decide) rfl rfl rfl ?_
        refine nz_getf (v := .ref 2) (pc' := 64) (g_d dtbX10_drawnToday_0 33 rfl) gf_X10_99 (by decide) rfl rfl rfl ?_
        refine nz_iconst (pc' := 65) (g_d dtbX10_drawnToday_0 34 rfl) rfl ?_
        refine nz_iald 4 (pc' := 66) (g_d dtbX10_drawnToday_0 35 rfl) (by decide) rfl (by omega) (by rfl) (by omega) rfl ?_
        rw [show Z 2 4 = f 4 from br1_fig (hB) (by decide)]
        refine cz_aload_n (pc' := 67) (g_d dtbX10_drawnToday_0 36 rfl) rfl rfl ?_
        refine nz_getf (v := .ref 1) (pc' := 70) (g_d dtbX10_drawnToday_0 37 rfl) gf_X10_10 (by decide) rfl rfl rfl ?_
        refine cz_iload_n (pc' := 71) (g_d dtbX10_drawnToday_0 38 rfl) rfl rfl ?_
        refine nz_cVi (M' := mX0_poundsAt) (k := 1) (As := [iv ((n : Int))]) (S := [iv (f 4), .ref (26 + κ), iv (drA f n 0)]) (L := [some (.ref 0), some (iv (drA f n 0)), some (iv ((n : Int))), some (.ref (26 + κ))]) (pc' := 74) (g_d dtbX10_drawnToday_0 39 rfl) lk_X10_130 okX0_poundsAt (by decide) rfl rfl rfl rfl (Nat.le_of_ble_eq_true rfl) (Nat.le_of_ble_eq_true rfl) (by decide) rfl (c_poundsR G Z n f (hB) hn7 hn2) ?_
        rintro _ _ ⟨rfl, rfl⟩
        refine nz_cP (κ := κ) (S := [iv (drA f n 0)]) (L := [some (.ref 0), some (iv (drA f n 0)), some (iv ((n : Int))), some (.ref (26 + κ))]) (pc' := 77) (g_d dtbX10_drawnToday_0 40 rfl) kp_X10 hκ6 (by omega) (by omega) (Nat.le_of_ble_eq_true rfl) (by decide) (by decide) rfl ?_
        refine nz_iadd (pc' := 78) (g_d dtbX10_drawnToday_0 41 rfl) rfl ?_
        refine cz_istore_n (L' := [some (.ref 0), some (iv ((drA f n 0) + (pndB (κ : Int) (f (21 + n)) (f 4)))), some (iv ((n : Int))), some (.ref (26 + κ))]) (pc' := 79) (g_d dtbX10_drawnToday_0 42 rfl) (by decide) rfl rfl ?_
        refine nz_iinc (L' := [some (.ref 0), some (iv ((drA f n 0) + (pndB (κ : Int) (f (21 + n)) (f 4)))), some (iv (((n : Int)) + 1)), some (.ref (26 + κ))]) (pc' := 82) (g_d dtbX10_drawnToday_0 43 rfl) (by decide) rfl rfl rfl ?_
        refine cz_goto (pc' := 4) (g_d dtbX10_drawnToday_0 44 rfl) rfl ?_
        refine cz_le [some (.ref 0), some (iv ((drA f n 0) + (pndB (κ : Int) (f (21 + n)) (f 4)))), some (iv (((n : Int)) + 1)), none] ⟨rfl, rfl, rfl, trivial⟩ ?_
        rw [show drA f n 0 + pndB (κ : Int) (f (21 + n)) (f 4) = drA f (n + 1) 0 from by simp only [drA, pA]; rw [hκ, dyA0 hf3, mnA0 hf3, if_pos (by omega)]]
        exact ih ((f 6).toNat - (n + 1)) (by omega) (n + 1) rfl (by omega)

set_option maxRecDepth 20000 in
set_option maxHeartbeats 4000000 in
theorem c_drawnToday (G : Wd) (Z : ZS) (f : Row) (B : Int) (hB : BR Z 1 f) (hR : RO B f) (hBB : B ≤ 60000000) : Cn G mX10_drawnToday 0 [some (.ref 0), none, none, none] [] Z (qi (fun r W => drA f (f 6).toNat 0 = r ∧ Z = W)) := by
  refine nz_iconst (pc' := 1) (g_d dtbX10_drawnToday_0 0 rfl) rfl ?_
  refine cz_istore_n (L' := [some (.ref 0), some (iv 0), none, none]) (pc' := 2) (g_d dtbX10_drawnToday_0 1 rfl) (by decide) rfl rfl ?_
  refine nz_iconst (pc' := 3) (g_d dtbX10_drawnToday_0 2 rfl) rfl ?_
  refine cz_istore_n (L' := [some (.ref 0), some (iv 0), some (iv 0), none]) (pc' := 4) (g_d dtbX10_drawnToday_0 3 rfl) (by decide) rfl rfl ?_
  exact l_drawnToday G Z f B hB hR hBB ((f 6).toNat - 0) 0 rfl (by have := hR.2.1; omega)

set_option maxRecDepth 20000 in
set_option maxHeartbeats 4000000 in
theorem c_passDay (G : Wd) (Z : ZS) (f : Row) (B : Int) (hB : BR Z 1 f) (hR : RO B f) (hBB : B ≤ 60000000) (h5 : 0 ≤ f 5 ∧ f 5 ≤ 30) : Cn G mX10_passDay 0 [some (.ref 0), none] [] Z (qv (fun W => BR W 1 (rGo f (f 5)) ∧ Fb 1 Z W)) := by
  have h6 := hR.2.1
  have hf3 : 1 ≤ f 3 ∧ f 3 ≤ 28 := hR.1.2.2.2.1
  have hf4 : 0 ≤ f 4 ∧ f 4 ≤ B := by have := hR.1.2.2.2.2.1; omega
  have hf0 := hR.1.1
  have hmn := hR.1.2.2.2.2.1
  refine cz_aload_n (pc' := 1) (g_d dtbX10_passDay_0 0 rfl) rfl rfl ?_
  refine nz_getf (v := .ref 1) (pc' := 4) (g_d dtbX10_passDay_0 1 rfl) gf_X10_10 (by decide) rfl rfl rfl ?_
  refine nz_getf (v := .ref 2) (pc' := 7) (g_d dtbX10_passDay_0 2 rfl) gf_X10_99 (by decide) rfl rfl rfl ?_
  refine cz_astore_n (L' := [some (.ref 0), some (.ref 2)]) (pc' := 8) (g_d dtbX10_passDay_0 3 rfl) (by decide) rfl rfl ?_
  refine cz_aload_n (pc' := 9) (g_d dtbX10_passDay_0 4 rfl) rfl rfl ?_
  refine nz_iconst (pc' := 10) (g_d dtbX10_passDay_0 5 rfl) rfl ?_
  refine cz_dup2 (pc' := 11) (g_d dtbX10_passDay_0 6 rfl) rfl rfl rfl ?_
  refine nz_iald 0 (pc' := 12) (g_d dtbX10_passDay_0 7 rfl) (by decide) rfl (by omega) (by rfl) (by omega) rfl ?_
  rw [show Z 2 0 = f 0 from br1_fig (hB) (by decide)]
  refine cz_aload_n (pc' := 13) (g_d dtbX10_passDay_0 8 rfl) rfl rfl ?_
  refine nz_cVi (M' := mX10_drawnToday) (k := 0) (As := []) (S := [iv (f 0), iv 0, .ref 2]) (L := [some (.ref 0), some (.ref 2)]) (pc' := 16) (g_d dtbX10_passDay_0 9 rfl) lk_X10_248 okX10_drawnToday (by decide) rfl rfl rfl rfl (Nat.le_of_ble_eq_true rfl) (Nat.le_of_ble_eq_true rfl) (by decide) rfl (c_drawnToday G Z f B hB hR hBB) ?_
  rintro _ _ ⟨rfl, rfl⟩
  refine cz_aload_n (pc' := 17) (g_d dtbX10_passDay_0 10 rfl) rfl rfl ?_
  refine nz_iconst (pc' := 18) (g_d dtbX10_passDay_0 11 rfl) rfl ?_
  refine nz_iald 5 (pc' := 19) (g_d dtbX10_passDay_0 12 rfl) (by decide) rfl (by omega) (by rfl) (by omega) rfl ?_
  rw [show Z 2 5 = f 5 from br1_fig (hB) (by decide)]
  refine nz_iadd (pc' := 20) (g_d dtbX10_passDay_0 13 rfl) rfl ?_
  refine nz_isub (pc' := 21) (g_d dtbX10_passDay_0 14 rfl) rfl ?_
  refine nz_iast 0 (pc' := 22) (g_d dtbX10_passDay_0 15 rfl) (by decide) rfl (by omega) (by rfl) (by omega) rfl ?_
  have hdr := drA_in hR 0 (f 6).toNat (by omega) (by omega)
  refine cz_aload_n (pc' := 23) (g_d dtbX10_passDay_0 16 rfl) rfl rfl ?_
  refine nz_iconst (pc' := 24) (g_d dtbX10_passDay_0 17 rfl) rfl ?_
  refine nz_iald 0 (pc' := 25) (g_d dtbX10_passDay_0 18 rfl) (by decide) rfl (by omega) (by rfl) (by omega) rfl ?_
  rw [show (zu Z 2 0 ((f 0) - ((drA f (f 6).toNat 0) + (f 5)))) 2 0 = (f 0) - ((drA f (f 6).toNat 0) + (f 5)) from by simp [zu, zr]]
  refine nz_if_ge (tgt := 42) (pc' := 28) (g_d dtbX10_passDay_0 19 rfl) (by omega) rfl rfl (fun h25 => ?_) (fun h25 => ?_)
  · refine cz_aload_n (pc' := 43) (g_d dtbX10_passDay_0 34 rfl) rfl rfl ?_
    refine nz_iconst (pc' := 44) (g_d dtbX10_passDay_0 35 rfl) rfl ?_
    refine nz_iald 3 (pc' := 45) (g_d dtbX10_passDay_0 36 rfl) (by decide) rfl (by omega) (by rfl) (by omega) rfl ?_
    rw [show (zu Z 2 0 ((f 0) - ((drA f (f 6).toNat 0) + (f 5)))) 2 3 = f 3 from by rw [show (zu Z 2 0 ((f 0) - ((drA f (f 6).toNat 0) + (f 5)))) 2 3 = Z 2 3 from by simp [zu, zr]]; exact br1_fig (hB) (by decide)]
    refine nz_bipush (pc' := 47) (g_d dtbX10_passDay_0 37 rfl) (by decide) rfl ?_
    refine nz_icmp_ge (tgt := 60) (pc' := 50) (g_d dtbX10_passDay_0 38 rfl) (by omega) (by omega) rfl rfl (fun h47 => ?_) (fun h47 => ?_)
    · refine cz_aload_n (pc' := 61) (g_d dtbX10_passDay_0 47 rfl) rfl rfl ?_
      refine nz_iconst (pc' := 62) (g_d dtbX10_passDay_0 48 rfl) rfl ?_
      refine nz_iald 4 (pc' := 63) (g_d dtbX10_passDay_0 49 rfl) (by decide) rfl (by omega) (by rfl) (by omega) rfl ?_
      rw [show (zu Z 2 0 ((f 0) - ((drA f (f 6).toNat 0) + (f 5)))) 2 4 = f 4 from by rw [show (zu Z 2 0 ((f 0) - ((drA f (f 6).toNat 0) + (f 5)))) 2 4 = Z 2 4 from by simp [zu, zr]]; exact br1_fig (hB) (by decide)]
      refine nz_sipush (pc' := 66) (g_d dtbX10_passDay_0 50 rfl) (by decide) rfl ?_
      refine nz_icmp_ge_f (pc' := 69) (g_d dtbX10_passDay_0 51 rfl) (by omega) (by omega) (by decide) rfl (by omega) ?_
      refine cz_aload_n (pc' := 70) (g_d dtbX10_passDay_0 52 rfl) rfl rfl ?_
      refine nz_iconst (pc' := 71) (g_d dtbX10_passDay_0 53 rfl) rfl ?_
      refine nz_iconst (pc' := 72) (g_d dtbX10_passDay_0 54 rfl) rfl ?_
      refine nz_iast 3 (pc' := 73) (g_d dtbX10_passDay_0 55 rfl) (by decide) rfl (by omega) (by rfl) (by omega) rfl ?_
      refine cz_aload_n (pc' := 74) (g_d dtbX10_passDay_0 56 rfl) rfl rfl ?_
      refine nz_iconst (pc' := 75) (g_d dtbX10_passDay_0 57 rfl) rfl ?_
      refine cz_dup2 (pc' := 76) (g_d dtbX10_passDay_0 58 rfl) rfl rfl rfl ?_
      refine nz_iald 4 (pc' := 77) (g_d dtbX10_passDay_0 59 rfl) (by decide) rfl (by omega) (by rfl) (by omega) rfl ?_
      rw [show (zu (zu Z 2 0 ((f 0) - ((drA f (f 6).toNat 0) + (f 5)))) 2 3 1) 2 4 = f 4 from by rw [show (zu (zu Z 2 0 ((f 0) - ((drA f (f 6).toNat 0) + (f 5)))) 2 3 1) 2 4 = Z 2 4 from by simp [zu, zr]]; exact br1_fig (hB) (by decide)]
      refine nz_iconst (pc' := 78) (g_d dtbX10_passDay_1 0 rfl) rfl ?_
      refine nz_iadd (pc' := 79) (g_d dtbX10_passDay_1 1 rfl) rfl ?_
      refine nz_iast 4 (pc' := 80) (g_d dtbX10_passDay_1 2 rfl) (by decide) rfl (by omega) (by rfl) (by omega) rfl ?_
      refine nz_rv (g_d dtbX10_passDay_1 3 rfl) rfl ?_
      refine ⟨BR.ext (br_fig (br_fig (br_fig hB (by decide)) (by decide)) (by decide)) (fun j hj => ?_), (Fb.u (Fb.u (Fb.u Fb.rf ⟨by omega, by omega⟩) ⟨by omega, by omega⟩) ⟨by omega, by omega⟩)⟩
      simp only [rGo, ru]
      (repeat' split) <;> first | rfl | omega | (subst_vars; first | rfl | omega | contradiction) | contradiction
    · refine cz_aload_n (pc' := 51) (g_d dtbX10_passDay_0 39 rfl) rfl rfl ?_
      refine nz_iconst (pc' := 52) (g_d dtbX10_passDay_0 40 rfl) rfl ?_
      refine cz_dup2 (pc' := 53) (g_d dtbX10_passDay_0 41 rfl) rfl rfl rfl ?_
      refine nz_iald 3 (pc' := 54) (g_d dtbX10_passDay_0 42 rfl) (by decide) rfl (by omega) (by rfl) (by omega) rfl ?_
      rw [show (zu Z 2 0 ((f 0) - ((drA f (f 6).toNat 0) + (f 5)))) 2 3 = f 3 from by rw [show (zu Z 2 0 ((f 0) - ((drA f (f 6).toNat 0) + (f 5)))) 2 3 = Z 2 3 from by simp [zu, zr]]; exact br1_fig (hB) (by decide)]
      refine nz_iconst (pc' := 55) (g_d dtbX10_passDay_0 43 rfl) rfl ?_
      refine nz_iadd (pc' := 56) (g_d dtbX10_passDay_0 44 rfl) rfl ?_
      refine nz_iast 3 (pc' := 57) (g_d dtbX10_passDay_0 45 rfl) (by decide) rfl (by omega) (by rfl) (by omega) rfl ?_
      refine cz_goto (pc' := 80) (g_d dtbX10_passDay_0 46 rfl) rfl ?_
      refine nz_rv (g_d dtbX10_passDay_1 3 rfl) rfl ?_
      refine ⟨BR.ext (br_fig (br_fig hB (by decide)) (by decide)) (fun j hj => ?_), (Fb.u (Fb.u Fb.rf ⟨by omega, by omega⟩) ⟨by omega, by omega⟩)⟩
      simp only [rGo, ru]
      (repeat' split) <;> first | rfl | omega | (subst_vars; first | rfl | omega | contradiction) | contradiction
  · refine cz_aload_n (pc' := 29) (g_d dtbX10_passDay_0 20 rfl) rfl rfl ?_
    refine nz_iconst (pc' := 30) (g_d dtbX10_passDay_0 21 rfl) rfl ?_
    refine cz_dup2 (pc' := 31) (g_d dtbX10_passDay_0 22 rfl) rfl rfl rfl ?_
    refine nz_iald 0 (pc' := 32) (g_d dtbX10_passDay_0 23 rfl) (by decide) rfl (by omega) (by rfl) (by omega) rfl ?_
    rw [show (zu Z 2 0 ((f 0) - ((drA f (f 6).toNat 0) + (f 5)))) 2 0 = (f 0) - ((drA f (f 6).toNat 0) + (f 5)) from by simp [zu, zr]]
    refine nz_iconst (pc' := 33) (g_d dtbX10_passDay_0 24 rfl) rfl ?_
    refine nz_isub (pc' := 34) (g_d dtbX10_passDay_0 25 rfl) rfl ?_
    refine nz_iast 0 (pc' := 35) (g_d dtbX10_passDay_0 26 rfl) (by decide) rfl (by omega) (by rfl) (by omega) rfl ?_
    refine cz_aload_n (pc' := 36) (g_d dtbX10_passDay_0 27 rfl) rfl rfl ?_
    refine nz_iconst (pc' := 37) (g_d dtbX10_passDay_0 28 rfl) rfl ?_
    refine cz_dup2 (pc' := 38) (g_d dtbX10_passDay_0 29 rfl) rfl rfl rfl ?_
    refine nz_iald 2 (pc' := 39) (g_d dtbX10_passDay_0 30 rfl) (by decide) rfl (by omega) (by rfl) (by omega) rfl ?_
    rw [show (zu (zu Z 2 0 ((f 0) - ((drA f (f 6).toNat 0) + (f 5)))) 2 0 (((f 0) - ((drA f (f 6).toNat 0) + (f 5))) - 1)) 2 2 = f 2 from by rw [show (zu (zu Z 2 0 ((f 0) - ((drA f (f 6).toNat 0) + (f 5)))) 2 0 (((f 0) - ((drA f (f 6).toNat 0) + (f 5))) - 1)) 2 2 = Z 2 2 from by simp [zu, zr]]; exact br1_fig (hB) (by decide)]
    refine nz_iconst (pc' := 40) (g_d dtbX10_passDay_0 31 rfl) rfl ?_
    refine nz_iadd (pc' := 41) (g_d dtbX10_passDay_0 32 rfl) rfl ?_
    refine nz_iast 2 (pc' := 42) (g_d dtbX10_passDay_0 33 rfl) (by decide) rfl (by omega) (by rfl) (by omega) rfl ?_
    refine cz_aload_n (pc' := 43) (g_d dtbX10_passDay_0 34 rfl) rfl rfl ?_
    refine nz_iconst (pc' := 44) (g_d dtbX10_passDay_0 35 rfl) rfl ?_
    refine nz_iald 3 (pc' := 45) (g_d dtbX10_passDay_0 36 rfl) (by decide) rfl (by omega) (by rfl) (by omega) rfl ?_
    rw [show (zu (zu (zu Z 2 0 ((f 0) - ((drA f (f 6).toNat 0) + (f 5)))) 2 0 (((f 0) - ((drA f (f 6).toNat 0) + (f 5))) - 1)) 2 2 ((f 2) + 1)) 2 3 = f 3 from by rw [show (zu (zu (zu Z 2 0 ((f 0) - ((drA f (f 6).toNat 0) + (f 5)))) 2 0 (((f 0) - ((drA f (f 6).toNat 0) + (f 5))) - 1)) 2 2 ((f 2) + 1)) 2 3 = Z 2 3 from by simp [zu, zr]]; exact br1_fig (hB) (by decide)]
    refine nz_bipush (pc' := 47) (g_d dtbX10_passDay_0 37 rfl) (by decide) rfl ?_
    refine nz_icmp_ge (tgt := 60) (pc' := 50) (g_d dtbX10_passDay_0 38 rfl) (by omega) (by omega) rfl rfl (fun h47 => ?_) (fun h47 => ?_)
    · refine cz_aload_n (pc' := 61) (g_d dtbX10_passDay_0 47 rfl) rfl rfl ?_
      refine nz_iconst (pc' := 62) (g_d dtbX10_passDay_0 48 rfl) rfl ?_
      refine nz_iald 4 (pc' := 63) (g_d dtbX10_passDay_0 49 rfl) (by decide) rfl (by omega) (by rfl) (by omega) rfl ?_
      rw [show (zu (zu (zu Z 2 0 ((f 0) - ((drA f (f 6).toNat 0) + (f 5)))) 2 0 (((f 0) - ((drA f (f 6).toNat 0) + (f 5))) - 1)) 2 2 ((f 2) + 1)) 2 4 = f 4 from by rw [show (zu (zu (zu Z 2 0 ((f 0) - ((drA f (f 6).toNat 0) + (f 5)))) 2 0 (((f 0) - ((drA f (f 6).toNat 0) + (f 5))) - 1)) 2 2 ((f 2) + 1)) 2 4 = Z 2 4 from by simp [zu, zr]]; exact br1_fig (hB) (by decide)]
      refine nz_sipush (pc' := 66) (g_d dtbX10_passDay_0 50 rfl) (by decide) rfl ?_
      refine nz_icmp_ge_f (pc' := 69) (g_d dtbX10_passDay_0 51 rfl) (by omega) (by omega) (by decide) rfl (by omega) ?_
      refine cz_aload_n (pc' := 70) (g_d dtbX10_passDay_0 52 rfl) rfl rfl ?_
      refine nz_iconst (pc' := 71) (g_d dtbX10_passDay_0 53 rfl) rfl ?_
      refine nz_iconst (pc' := 72) (g_d dtbX10_passDay_0 54 rfl) rfl ?_
      refine nz_iast 3 (pc' := 73) (g_d dtbX10_passDay_0 55 rfl) (by decide) rfl (by omega) (by rfl) (by omega) rfl ?_
      refine cz_aload_n (pc' := 74) (g_d dtbX10_passDay_0 56 rfl) rfl rfl ?_
      refine nz_iconst (pc' := 75) (g_d dtbX10_passDay_0 57 rfl) rfl ?_
      refine cz_dup2 (pc' := 76) (g_d dtbX10_passDay_0 58 rfl) rfl rfl rfl ?_
      refine nz_iald 4 (pc' := 77) (g_d dtbX10_passDay_0 59 rfl) (by decide) rfl (by omega) (by rfl) (by omega) rfl ?_
      rw [show (zu (zu (zu (zu Z 2 0 ((f 0) - ((drA f (f 6).toNat 0) + (f 5)))) 2 0 (((f 0) - ((drA f (f 6).toNat 0) + (f 5))) - 1)) 2 2 ((f 2) + 1)) 2 3 1) 2 4 = f 4 from by rw [show (zu (zu (zu (zu Z 2 0 ((f 0) - ((drA f (f 6).toNat 0) + (f 5)))) 2 0 (((f 0) - ((drA f (f 6).toNat 0) + (f 5))) - 1)) 2 2 ((f 2) + 1)) 2 3 1) 2 4 = Z 2 4 from by simp [zu, zr]]; exact br1_fig (hB) (by decide)]
      refine nz_iconst (pc' := 78) (g_d dtbX10_passDay_1 0 rfl) rfl ?_
      refine nz_iadd (pc' := 79) (g_d dtbX10_passDay_1 1 rfl) rfl ?_
      refine nz_iast 4 (pc' := 80) (g_d dtbX10_passDay_1 2 rfl) (by decide) rfl (by omega) (by rfl) (by omega) rfl ?_
      refine nz_rv (g_d dtbX10_passDay_1 3 rfl) rfl ?_
      refine ⟨BR.ext (br_fig (br_fig (br_fig (br_fig (br_fig hB (by decide)) (by decide)) (by decide)) (by decide)) (by decide)) (fun j hj => ?_), (Fb.u (Fb.u (Fb.u (Fb.u (Fb.u Fb.rf ⟨by omega, by omega⟩) ⟨by omega, by omega⟩) ⟨by omega, by omega⟩) ⟨by omega, by omega⟩) ⟨by omega, by omega⟩)⟩
      simp only [rGo, ru]
      (repeat' split) <;> first | rfl | omega | (subst_vars; first | rfl | omega | contradiction) | contradiction
    · refine cz_aload_n (pc' := 51) (g_d dtbX10_passDay_0 39 rfl) rfl rfl ?_
      refine nz_iconst (pc' := 52) (g_d dtbX10_passDay_0 40 rfl) rfl ?_
      refine cz_dup2 (pc' := 53) (g_d dtbX10_passDay_0 41 rfl) rfl rfl rfl ?_
      refine nz_iald 3 (pc' := 54) (g_d dtbX10_passDay_0 42 rfl) (by decide) rfl (by omega) (by rfl) (by omega) rfl ?_
      rw [show (zu (zu (zu Z 2 0 ((f 0) - ((drA f (f 6).toNat 0) + (f 5)))) 2 0 (((f 0) - ((drA f (f 6).toNat 0) + (f 5))) - 1)) 2 2 ((f 2) + 1)) 2 3 = f 3 from by rw [show (zu (zu (zu Z 2 0 ((f 0) - ((drA f (f 6).toNat 0) + (f 5)))) 2 0 (((f 0) - ((drA f (f 6).toNat 0) + (f 5))) - 1)) 2 2 ((f 2) + 1)) 2 3 = Z 2 3 from by simp [zu, zr]]; exact br1_fig (hB) (by decide)]
      refine nz_iconst (pc' := 55) (g_d dtbX10_passDay_0 43 rfl) rfl ?_
      refine nz_iadd (pc' := 56) (g_d dtbX10_passDay_0 44 rfl) rfl ?_
      refine nz_iast 3 (pc' := 57) (g_d dtbX10_passDay_0 45 rfl) (by decide) rfl (by omega) (by rfl) (by omega) rfl ?_
      refine cz_goto (pc' := 80) (g_d dtbX10_passDay_0 46 rfl) rfl ?_
      refine nz_rv (g_d dtbX10_passDay_1 3 rfl) rfl ?_
      refine ⟨BR.ext (br_fig (br_fig (br_fig (br_fig hB (by decide)) (by decide)) (by decide)) (by decide)) (fun j hj => ?_), (Fb.u (Fb.u (Fb.u (Fb.u Fb.rf ⟨by omega, by omega⟩) ⟨by omega, by omega⟩) ⟨by omega, by omega⟩) ⟨by omega, by omega⟩)⟩
      simp only [rGo, ru]
      (repeat' split) <;> first | rfl | omega | (subst_vars; first | rfl | omega | contradiction) | contradiction

set_option maxRecDepth 20000 in
set_option maxHeartbeats 4000000 in
theorem l_days (G : Wd) (Z : ZS) (A : AS) (B c0 : Int) (N : Nat) (hO : RO B A.1) (hb0 : B + 700000 ≤ 60000000) (hN : N ≤ 99) : ∀ (d : Nat) (i : Nat) (W : ZS), N - i = d → i ≤ N → CS W (sF A (rDs (rKeep A.1) i)) → FM Z W → Cn G mX10_days 36 [some (.ref 0), some (iv ((N : Int))), some (iv (c0)), some (iv ((i : Int)))] [] W (qi (fun r V => rDs (rKeep A.1) N 2 - c0 = r ∧ CS V (sF A (rDs (rKeep A.1) N)) ∧ FM Z V)) := by
  intro d
  induction d using Nat.strongRecOn with
  | ind d ih =>
    intro i W hd hi hCW hFW
    have hRi := ro_ds (ro_keep hO) i
    refine cz_iload_n (pc' := 37) (g_d dtbX10_days_0 20 rfl) rfl rfl ?_
    refine cz_iload_n (pc' := 38) (g_d dtbX10_days_0 21 rfl) rfl rfl ?_
    refine nz_icmp_ge (tgt := 51) (pc' := 41) (g_d dtbX10_days_0 22 rfl) (by omega) (by omega) rfl rfl (fun h38 => ?_) (fun h38 => ?_)
    · refine cz_aload_n (pc' := 52) (g_d dtbX10_days_0 27 rfl) rfl rfl ?_
      refine nz_getf (v := .ref 1) (pc' := 55) (g_d dtbX10_days_0 28 rfl) gf_X10_10 (by decide) rfl rfl rfl ?_
      refine nz_getf (v := .ref 2) (pc' := 58) (g_d dtbX10_days_0 29 rfl) gf_X10_99 (by decide) rfl rfl rfl ?_
      refine nz_iconst (pc' := 59) (g_d dtbX10_days_0 30 rfl) rfl ?_
      refine nz_iald 2 (pc' := 60) (g_d dtbX10_days_0 31 rfl) (by decide) rfl (by omega) (by rfl) (by omega) rfl ?_
      rw [show W 2 2 = rDs (rKeep A.1) i 2 from br1_fig hCW.1 (by decide)]
      refine cz_iload_n (pc' := 61) (g_d dtbX10_days_0 32 rfl) rfl rfl ?_
      refine nz_isub (pc' := 62) (g_d dtbX10_days_0 33 rfl) rfl ?_
      refine nz_ri .int (g_d dtbX10_days_0 34 rfl) rfl rfl ?_
      rw [show i = N by omega] at hCW ⊢
      exact ⟨rfl, hCW, hFW⟩
    · refine cz_aload_n (pc' := 42) (g_d dtbX10_days_0 23 rfl) rfl rfl ?_
      refine nz_cVv (M' := mX10_passDay) (k := 0) (As := []) (S := []) (L := [some (.ref 0), some (iv ((N : Int))), some (iv (c0)), some (iv ((i : Int)))]) (pc' := 45) (g_d dtbX10_days_0 24 rfl) lk_X10_102 okX10_passDay (by decide) rfl rfl rfl rfl (Nat.le_of_ble_eq_true rfl) (Nat.le_of_ble_eq_true rfl) (by decide) rfl (c_passDay G W (rDs (rKeep A.1) i) (B + 7000 * (i : Int)) hCW.1 hRi (by omega) hRi.1.2.2.2.2.2) ?_
      rintro W2 ⟨hb2, hF2⟩
      refine nz_iinc (L' := [some (.ref 0), some (iv ((N : Int))), some (iv (c0)), some (iv (((i : Int)) + 1))]) (pc' := 48) (g_d dtbX10_days_0 25 rfl) (by decide) rfl rfl rfl ?_
      refine cz_goto (pc' := 36) (g_d dtbX10_days_0 26 rfl) rfl ?_
      exact ih (N - (i + 1)) (by omega) (i + 1) W2 rfl (by omega) (CS.book (A := sF A (rDs (rKeep A.1) i)) hCW hb2 hF2) (hFW.b (by decide) hF2)

set_option maxRecDepth 20000 in
set_option maxHeartbeats 4000000 in
theorem a_days (G : Wd) (Z : ZS) (A : AS) (B : Int) (hC : CS Z A) (hA : AO B A) (n : Int) (hn : -2147483648 ≤ n ∧ n ≤ 2147483647) (hbb : B + 700000 ≤ 60000000) : Cn G mX10_days 0 [some (.ref 0), some (iv (n)), none, none] [] Z (qi (fun r W => (xDays A n).1 = r ∧ CS W (xDays A n).2 ∧ FM Z W)) := by
  have hB := hC.1
  have hb0 := hA.1
  have hO := hA.2.1
  have h6 : 0 ≤ A.1 6 ∧ A.1 6 ≤ 7 := hO.2.1
  have h28 : 0 ≤ A.1 28 ∧ A.1 28 ≤ 6 := hO.2.2.2.1
  have h59 : 0 ≤ A.1 59 ∧ A.1 59 ≤ 8 := hO.2.2.2.2.2.1
  have hf := hO.1
  unfold FO at hf
  have hct := hA.2.2.2.2.2.2
  refine cz_iload_n (pc' := 1) (g_d dtbX10_days_0 0 rfl) rfl rfl ?_
  refine nz_iconst (pc' := 2) (g_d dtbX10_days_0 1 rfl) rfl ?_
  refine nz_bipush (pc' := 4) (g_d dtbX10_days_0 2 rfl) (by decide) rfl ?_
  refine nz_cSi (M' := mX10_within) (As := [iv (n), iv 1, iv 99]) (S := []) (L := [some (.ref 0), some (iv (n)), none, none]) (pc' := 7) (g_d dtbX10_days_0 3 rfl) lk_X10_53 okX10_within rfl rfl (Nat.le_of_ble_eq_true rfl) (Nat.le_of_ble_eq_true rfl) (by decide) rfl (c_within G Z n 1 99 (by omega) (by omega) (by omega)) ?_
  rintro _ _ ⟨rfl, ⟨rfl, hw4⟩ | ⟨rfl, hw4⟩⟩
  · refine nz_if_ne_t (tgt := 17) (g_d dtbX10_days_0 4 rfl) (by omega) rfl (by omega) ?_
    refine cz_aload_n (pc' := 18) (g_d dtbX10_days_0 9 rfl) rfl rfl ?_
    refine nz_getf (v := .ref 1) (pc' := 21) (g_d dtbX10_days_0 10 rfl) gf_X10_10 (by decide) rfl rfl rfl ?_
    refine nz_cVv (M' := mX0_keepPast) (k := 1) (As := []) (S := []) (L := [some (.ref 0), some (iv (n)), none, none]) (pc' := 24) (g_d dtbX10_days_0 11 rfl) lk_X10_96 okX0_keepPast (by decide) rfl rfl rfl rfl (Nat.le_of_ble_eq_true rfl) (Nat.le_of_ble_eq_true rfl) (by decide) rfl (c_keepPast G Z 1 A.1 bk1 hB h59) ?_
    rintro W1 ⟨hb1, hF1⟩
    have hC1 := hC.book hb1 hF1
    refine cz_aload_n (pc' := 25) (g_d dtbX10_days_0 12 rfl) rfl rfl ?_
    refine nz_getf (v := .ref 1) (pc' := 28) (g_d dtbX10_days_0 13 rfl) gf_X10_10 (by decide) rfl rfl rfl ?_
    refine nz_getf (v := .ref 2) (pc' := 31) (g_d dtbX10_days_0 14 rfl) gf_X10_99 (by decide) rfl rfl rfl ?_
    refine nz_iconst (pc' := 32) (g_d dtbX10_days_0 15 rfl) rfl ?_
    refine nz_iald 2 (pc' := 33) (g_d dtbX10_days_0 16 rfl) (by decide) rfl (by omega) (by rfl) (by omega) rfl ?_
    rw [show W1 2 2 = A.1 2 from (br1_fig hb1 (by decide)).trans (rKeep_lo (by decide))]
    refine cz_istore_n (L' := [some (.ref 0), some (iv (n)), some (iv (A.1 2)), none]) (pc' := 34) (g_d dtbX10_days_0 17 rfl) (by decide) rfl rfl ?_
    refine nz_iconst (pc' := 35) (g_d dtbX10_days_0 18 rfl) rfl ?_
    refine cz_istore_n (L' := [some (.ref 0), some (iv (n)), some (iv (A.1 2)), some (iv 0)]) (pc' := 36) (g_d dtbX10_days_0 19 rfl) (by decide) rfl rfl ?_
    obtain ⟨N, rfl⟩ : ∃ N : Nat, n = (N : Int) := ⟨n.toNat, by omega⟩
    rw [show xDays A (N : Int) = (rDs (rKeep A.1) N 2 - A.1 2, sF A (rDs (rKeep A.1) N)) from if_pos (by omega)]
    exact l_days G Z A B (A.1 2) N hO hbb (by omega) (N - 0) 0 W1 rfl (Nat.zero_le _) hC1 (FM.rf.b (by decide) hF1)
  · refine nz_if_ne_f (pc' := 10) (g_d dtbX10_days_0 4 rfl) (by omega) (by decide) rfl (by omega) ?_
    refine cz_aload_n (pc' := 11) (g_d dtbX10_days_0 5 rfl) rfl rfl ?_
    refine nz_bipush (pc' := 13) (g_d dtbX10_days_0 6 rfl) (by decide) rfl ?_
    refine nz_cVi (M' := mX10_refuseBad) (k := 0) (As := [iv (-2)]) (S := []) (L := [some (.ref 0), some (iv (n)), none, none]) (pc' := 16) (g_d dtbX10_days_0 7 rfl) lk_X10_57 okX10_refuseBad (by decide) rfl rfl rfl rfl (Nat.le_of_ble_eq_true rfl) (Nat.le_of_ble_eq_true rfl) (by decide) rfl (c_refuseBad G Z (-2)) ?_
    rintro _ _ ⟨rfl, rfl⟩
    refine nz_ri .int (g_d dtbX10_days_0 8 rfl) rfl rfl ?_
    rw [show xDays A n = (-2, aBad A) from by unfold xDays; rw [if_neg (by omega)]]
    exact ⟨rfl, cs_bad hC, (FM.u FM.rf (by decide))⟩

set_option maxRecDepth 20000 in
set_option maxHeartbeats 4000000 in
theorem a_of (G : Wd) (Z : ZS) (A : AS) (B : Int) (hC : CS Z A) (hA : AO B A) (b w : Int) (hb : -2147483648 ≤ b ∧ b ≤ 2147483647) (hw : -2147483648 ≤ w ∧ w ≤ 2147483647) : Cn G mX10_of 0 [some (.ref 0), some (iv (b)), some (iv (w)), none] [] Z (qi (fun r W => (xOf A b w).1 = r ∧ CS W (xOf A b w).2 ∧ FM Z W)) := by
  have hB := hC.1
  have hb0 := hA.1
  have hO := hA.2.1
  have h6 : 0 ≤ A.1 6 ∧ A.1 6 ≤ 7 := hO.2.1
  have h28 : 0 ≤ A.1 28 ∧ A.1 28 ≤ 6 := hO.2.2.2.1
  have h59 : 0 ≤ A.1 59 ∧ A.1 59 ≤ 8 := hO.2.2.2.2.2.1
  have hf := hO.1
  unfold FO at hf
  have hct := hA.2.2.2.2.2.2
  obtain ⟨f, ef⟩ : ∃ f : Row, f = A.1 := ⟨_, rfl⟩
  rw [← ef] at hB hO h6 h28 h59 hf
  have hR := hO
  have hf3 : 1 ≤ f 3 ∧ f 3 ≤ 28 := hR.1.2.2.2.1
  have hf4 : 0 ≤ f 4 ∧ f 4 ≤ B := by have := hR.1.2.2.2.2.1; omega
  refine cz_aload_n (pc' := 1) (g_d dtbX10_of_0 0 rfl) rfl rfl ?_
  refine cz_iload_n (pc' := 2) (g_d dtbX10_of_0 1 rfl) rfl rfl ?_
  refine nz_cVi (M' := mX10_isBillNumber) (k := 0) (As := [iv (b)]) (S := []) (L := [some (.ref 0), some (iv (b)), some (iv (w)), none]) (pc' := 5) (g_d dtbX10_of_0 2 rfl) lk_X10_114 okX10_isBillNumber (by decide) rfl rfl rfl rfl (Nat.le_of_ble_eq_true rfl) (Nat.le_of_ble_eq_true rfl) (by decide) rfl (c_isBN G Z A B hC hA b (by omega)) ?_
  rintro _ _ ⟨rfl, ⟨rfl, hw2⟩ | ⟨rfl, hw2⟩⟩
  · rw [← ef] at hw2
    refine nz_if_eq_f (pc' := 8) (g_d dtbX10_of_0 3 rfl) (by omega) (by decide) rfl (by omega) ?_
    refine cz_iload_n (pc' := 9) (g_d dtbX10_of_0 4 rfl) rfl rfl ?_
    refine nz_iconst (pc' := 10) (g_d dtbX10_of_0 5 rfl) rfl ?_
    refine nz_iconst (pc' := 11) (g_d dtbX10_of_0 6 rfl) rfl ?_
    refine nz_cSi (M' := mX10_within) (As := [iv (w), iv 0, iv 4]) (S := []) (L := [some (.ref 0), some (iv (b)), some (iv (w)), none]) (pc' := 14) (g_d dtbX10_of_0 7 rfl) lk_X10_53 okX10_within rfl rfl (Nat.le_of_ble_eq_true rfl) (Nat.le_of_ble_eq_true rfl) (by decide) rfl (c_within G Z w 0 4 (by omega) (by omega) (by omega)) ?_
    rintro _ _ ⟨rfl, ⟨rfl, hw11⟩ | ⟨rfl, hw11⟩⟩
    · refine nz_if_ne_t (tgt := 25) (g_d dtbX10_of_0 8 rfl) (by omega) rfl (by omega) ?_
      obtain ⟨n, rfl⟩ : ∃ n : Nat, b = (n : Int) := ⟨b.toNat, by omega⟩
      have hn7 : n < 7 := by omega
      have hn2 : (n : Int) < f 6 := by omega
      have hbo := hR.2.2.1 n hn7 hn2
      have hto : 1 ≤ f (14 + n) ∧ f (14 + n) ≤ 28 := hbo.2.1
      have hpo : 1 ≤ f (21 + n) ∧ f (21 + n) ≤ 99 := hbo.2.2
      obtain ⟨κ, hκ, hκ6⟩ : ∃ κ : Nat, f (7 + n) = (κ : Int) ∧ κ < 6 := ⟨(f (7 + n)).toNat, by have := hbo.1; omega, by have := hbo.1; omega⟩
      have hdI := dayB_in (κ := (κ : Int)) hto
      have hpI := pndB_in (κ := (κ : Int)) (p := f (21 + n)) (m := f 4) (by omega)
      refine cz_aload_n (pc' := 26) (g_d dtbX10_of_0 13 rfl) rfl rfl ?_
      refine nz_getf (v := .ref 25) (pc' := 29) (g_d dtbX10_of_0 14 rfl) gf_X10_44 (by decide) rfl rfl rfl ?_
      refine cz_aload_n (pc' := 30) (g_d dtbX10_of_0 15 rfl) rfl rfl ?_
      refine nz_getf (v := .ref 1) (pc' := 33) (g_d dtbX10_of_0 16 rfl) gf_X10_10 (by decide) rfl rfl rfl ?_
      refine cz_iload_n (pc' := 34) (g_d dtbX10_of_0 17 rfl) rfl rfl ?_
      refine nz_cVi (M' := mX0_kindAt) (k := 1) (As := [iv ((n : Int))]) (S := [.ref 25]) (L := [some (.ref 0), some (iv ((n : Int))), some (iv (w)), none]) (pc' := 37) (g_d dtbX10_of_0 18 rfl) lk_X10_118 okX0_kindAt (by decide) rfl rfl rfl rfl (Nat.le_of_ble_eq_true rfl) (Nat.le_of_ble_eq_true rfl) (by decide) rfl (c_kindR G Z n f (hB) hn7 hn2) ?_
      rintro _ _ ⟨rfl, rfl⟩
      rw [hκ]
      refine nz_cVr (M' := mX2_numbered) (k := 25) (As := [iv ((κ : Int))]) (S := []) (L := [some (.ref 0), some (iv ((n : Int))), some (iv (w)), none]) (pc' := 40) (g_d dtbX10_of_0 19 rfl) lk_X10_121 okX2_numbered (by decide) rfl rfl rfl rfl (Nat.le_of_ble_eq_true rfl) (Nat.le_of_ble_eq_true rfl) (by decide) rfl (c_numbered G Z κ hκ6) ?_
      rintro _ _ ⟨rfl, rfl⟩
      refine cz_astore_n (L' := [some (.ref 0), some (iv ((n : Int))), some (iv (w)), some (.ref (26 + κ))]) (pc' := 41) (g_d dtbX10_of_0 20 rfl) (by decide) rfl rfl ?_
      refine cz_iload_n (pc' := 42) (g_d dtbX10_of_0 21 rfl) rfl rfl ?_
      rcases (show w = 0 ∨ w = 1 ∨ w = 2 ∨ w = 3 ∨ (w < 0 ∨ 3 < w) from by omega) with h42 | h42 | h42 | h42 | h42
      · refine nz_tabIn (tgt := 72) 0 (g_d dtbX10_of_0 22 rfl) (by omega) (by omega) (by omega) rfl rfl ?_
        refine cz_aload_n (pc' := 73) (g_d dtbX10_of_0 23 rfl) rfl rfl ?_
        refine nz_getf (v := .ref 1) (pc' := 76) (g_d dtbX10_of_0 24 rfl) gf_X10_10 (by decide) rfl rfl rfl ?_
        refine cz_iload_n (pc' := 77) (g_d dtbX10_of_0 25 rfl) rfl rfl ?_
        refine nz_cVi (M' := mX0_kindAt) (k := 1) (As := [iv ((n : Int))]) (S := []) (L := [some (.ref 0), some (iv ((n : Int))), some (iv (w)), some (.ref (26 + κ))]) (pc' := 80) (g_d dtbX10_of_0 26 rfl) lk_X10_118 okX0_kindAt (by decide) rfl rfl rfl rfl (Nat.le_of_ble_eq_true rfl) (Nat.le_of_ble_eq_true rfl) (by decide) rfl (c_kindR G Z n f (hB) hn7 hn2) ?_
        rintro _ _ ⟨rfl, rfl⟩
        rw [hκ]
        refine nz_ri .int (g_d dtbX10_of_0 27 rfl) rfl rfl ?_
        refine ⟨?_, ?_, FM.rf⟩
        · unfold xOf
          rw [← ef, if_pos (by omega)]
          simp only [Int.toNat_natCast]
          rw [if_pos (by omega), hκ]
        · unfold xOf; rw [← ef, if_pos (by omega)]; exact hC
      · refine nz_tabIn (tgt := 81) 1 (g_d dtbX10_of_0 22 rfl) (by omega) (by omega) (by omega) rfl rfl ?_
        refine cz_aload_n (pc' := 82) (g_d dtbX10_of_0 28 rfl) rfl rfl ?_
        refine nz_getf (v := .ref 1) (pc' := 85) (g_d dtbX10_of_0 29 rfl) gf_X10_10 (by decide) rfl rfl rfl ?_
        refine cz_iload_n (pc' := 86) (g_d dtbX10_of_0 30 rfl) rfl rfl ?_
        refine nz_cVi (M' := mX0_dayAt) (k := 1) (As := [iv ((n : Int))]) (S := []) (L := [some (.ref 0), some (iv ((n : Int))), some (iv (w)), some (.ref (26 + κ))]) (pc' := 89) (g_d dtbX10_of_0 31 rfl) lk_X10_127 okX0_dayAt (by decide) rfl rfl rfl rfl (Nat.le_of_ble_eq_true rfl) (Nat.le_of_ble_eq_true rfl) (by decide) rfl (c_dayR G Z n f (hB) hn7 hn2) ?_
        rintro _ _ ⟨rfl, rfl⟩
        refine nz_ri .int (g_d dtbX10_of_0 32 rfl) rfl rfl ?_
        refine ⟨?_, ?_, FM.rf⟩
        · unfold xOf
          rw [← ef, if_pos (by omega)]
          simp only [Int.toNat_natCast]
          rw [if_neg (by omega), if_pos (by omega)]
        · unfold xOf; rw [← ef, if_pos (by omega)]; exact hC
      · refine nz_tabIn (tgt := 90) 2 (g_d dtbX10_of_0 22 rfl) (by omega) (by omega) (by omega) rfl rfl ?_
        refine cz_aload_n (pc' := 91) (g_d dtbX10_of_0 33 rfl) rfl rfl ?_
        refine nz_getf (v := .ref 1) (pc' := 94) (g_d dtbX10_of_0 34 rfl) gf_X10_10 (by decide) rfl rfl rfl ?_
        refine cz_iload_n (pc' := 95) (g_d dtbX10_of_0 35 rfl) rfl rfl ?_
        refine nz_cVi (M' := mX0_poundsAt) (k := 1) (As := [iv ((n : Int))]) (S := []) (L := [some (.ref 0), some (iv ((n : Int))), some (iv (w)), some (.ref (26 + κ))]) (pc' := 98) (g_d dtbX10_of_0 36 rfl) lk_X10_130 okX0_poundsAt (by decide) rfl rfl rfl rfl (Nat.le_of_ble_eq_true rfl) (Nat.le_of_ble_eq_true rfl) (by decide) rfl (c_poundsR G Z n f (hB) hn7 hn2) ?_
        rintro _ _ ⟨rfl, rfl⟩
        refine nz_ri .int (g_d dtbX10_of_0 37 rfl) rfl rfl ?_
        refine ⟨?_, ?_, FM.rf⟩
        · unfold xOf
          rw [← ef, if_pos (by omega)]
          simp only [Int.toNat_natCast]
          rw [if_neg (by omega), if_neg (by omega), if_pos (by omega)]
        · unfold xOf; rw [← ef, if_pos (by omega)]; exact hC
      · refine nz_tabIn (tgt := 99) 3 (g_d dtbX10_of_0 22 rfl) (by omega) (by omega) (by omega) rfl rfl ?_
        refine cz_aload_n (pc' := 100) (g_d dtbX10_of_0 38 rfl) rfl rfl ?_
        refine cz_aload_n (pc' := 101) (g_d dtbX10_of_0 39 rfl) rfl rfl ?_
        refine nz_getf (v := .ref 1) (pc' := 104) (g_d dtbX10_of_0 40 rfl) gf_X10_10 (by decide) rfl rfl rfl ?_
        refine cz_iload_n (pc' := 105) (g_d dtbX10_of_0 41 rfl) rfl rfl ?_
        refine nz_cVi (M' := mX0_dayAt) (k := 1) (As := [iv ((n : Int))]) (S := [.ref (26 + κ)]) (L := [some (.ref 0), some (iv ((n : Int))), some (iv (w)), some (.ref (26 + κ))]) (pc' := 108) (g_d dtbX10_of_0 42 rfl) lk_X10_127 okX0_dayAt (by decide) rfl rfl rfl rfl (Nat.le_of_ble_eq_true rfl) (Nat.le_of_ble_eq_true rfl) (by decide) rfl (c_dayR G Z n f (hB) hn7 hn2) ?_
        rintro _ _ ⟨rfl, rfl⟩
        refine nz_cD (κ := κ) (S := []) (L := [some (.ref 0), some (iv ((n : Int))), some (iv (w)), some (.ref (26 + κ))]) (pc' := 111) (g_d dtbX10_of_0 43 rfl) kd_X10 hκ6 (by omega) (Nat.le_of_ble_eq_true rfl) (by decide) (by decide) rfl ?_
        refine nz_ri .int (g_d dtbX10_of_0 44 rfl) rfl rfl ?_
        refine ⟨?_, ?_, FM.rf⟩
        · unfold xOf
          rw [← ef, if_pos (by omega)]
          simp only [Int.toNat_natCast]
          rw [if_neg (by omega), if_neg (by omega), if_neg (by omega), if_pos (by omega), hκ]
        · unfold xOf; rw [← ef, if_pos (by omega)]; exact hC
      · refine nz_tabOut (tgt := 112) (g_d dtbX10_of_0 22 rfl) (by omega) h42 rfl ?_
        refine cz_aload_n (pc' := 113) (g_d dtbX10_of_0 45 rfl) rfl rfl ?_
        refine cz_aload_n (pc' := 114) (g_d dtbX10_of_0 46 rfl) rfl rfl ?_
        refine nz_getf (v := .ref 1) (pc' := 117) (g_d dtbX10_of_0 47 rfl) gf_X10_10 (by decide) rfl rfl rfl ?_
        refine nz_getf (v := .ref 2) (pc' := 120) (g_d dtbX10_of_0 48 rfl) gf_X10_99 (by decide) rfl rfl rfl ?_
        refine nz_iconst (pc' := 121) (g_d dtbX10_of_0 49 rfl) rfl ?_
        refine nz_iald 4 (pc' := 122) (g_d dtbX10_of_0 50 rfl) (by decide) rfl (by omega) (by rfl) (by omega) rfl ?_
        rw [show Z 2 4 = f 4 from br1_fig (hB) (by decide)]
        refine cz_aload_n (pc' := 123) (g_d dtbX10_of_0 51 rfl) rfl rfl ?_
        refine nz_getf (v := .ref 1) (pc' := 126) (g_d dtbX10_of_0 52 rfl) gf_X10_10 (by decide) rfl rfl rfl ?_
        refine cz_iload_n (pc' := 127) (g_d dtbX10_of_0 53 rfl) rfl rfl ?_
        refine nz_cVi (M' := mX0_poundsAt) (k := 1) (As := [iv ((n : Int))]) (S := [iv (f 4), .ref (26 + κ)]) (L := [some (.ref 0), some (iv ((n : Int))), some (iv (w)), some (.ref (26 + κ))]) (pc' := 130) (g_d dtbX10_of_0 54 rfl) lk_X10_130 okX0_poundsAt (by decide) rfl rfl rfl rfl (Nat.le_of_ble_eq_true rfl) (Nat.le_of_ble_eq_true rfl) (by decide) rfl (c_poundsR G Z n f (hB) hn7 hn2) ?_
        rintro _ _ ⟨rfl, rfl⟩
        refine nz_cP (κ := κ) (S := []) (L := [some (.ref 0), some (iv ((n : Int))), some (iv (w)), some (.ref (26 + κ))]) (pc' := 133) (g_d dtbX10_of_0 55 rfl) kp_X10 hκ6 (by omega) (by omega) (Nat.le_of_ble_eq_true rfl) (by decide) (by decide) rfl ?_
        refine nz_ri .int (g_d dtbX10_of_0 56 rfl) rfl rfl ?_
        refine ⟨?_, ?_, FM.rf⟩
        · unfold xOf
          rw [← ef, if_pos (by omega)]
          simp only [Int.toNat_natCast]
          rw [if_neg (by omega), if_neg (by omega), if_neg (by omega), if_neg (by omega), hκ]
        · unfold xOf; rw [← ef, if_pos (by omega)]; exact hC
    · refine nz_if_ne_f (pc' := 17) (g_d dtbX10_of_0 8 rfl) (by omega) (by decide) rfl (by omega) ?_
      refine cz_aload_n (pc' := 18) (g_d dtbX10_of_0 9 rfl) rfl rfl ?_
      refine nz_sipush (pc' := 21) (g_d dtbX10_of_0 10 rfl) (by decide) rfl ?_
      refine nz_cVi (M' := mX10_refuseBad) (k := 0) (As := [iv (-10000)]) (S := []) (L := [some (.ref 0), some (iv (b)), some (iv (w)), none]) (pc' := 24) (g_d dtbX10_of_0 11 rfl) lk_X10_57 okX10_refuseBad (by decide) rfl rfl rfl rfl (Nat.le_of_ble_eq_true rfl) (Nat.le_of_ble_eq_true rfl) (by decide) rfl (c_refuseBad G Z (-10000)) ?_
      rintro _ _ ⟨rfl, rfl⟩
      refine nz_ri .int (g_d dtbX10_of_0 12 rfl) rfl rfl ?_
      rw [show xOf A b w = (-10000, aBad A) from by unfold xOf; rw [← ef, if_neg (by omega)]]
      exact ⟨rfl, cs_bad hC, (FM.u FM.rf (by decide))⟩
  · rw [← ef] at hw2
    refine nz_if_eq_t (tgt := 17) (g_d dtbX10_of_0 3 rfl) (by omega) rfl (by omega) ?_
    refine cz_aload_n (pc' := 18) (g_d dtbX10_of_0 9 rfl) rfl rfl ?_
    refine nz_sipush (pc' := 21) (g_d dtbX10_of_0 10 rfl) (by decide) rfl ?_
    refine nz_cVi (M' := mX10_refuseBad) (k := 0) (As := [iv (-10000)]) (S := []) (L := [some (.ref 0), some (iv (b)), some (iv (w)), none]) (pc' := 24) (g_d dtbX10_of_0 11 rfl) lk_X10_57 okX10_refuseBad (by decide) rfl rfl rfl rfl (Nat.le_of_ble_eq_true rfl) (Nat.le_of_ble_eq_true rfl) (by decide) rfl (c_refuseBad G Z (-10000)) ?_
    rintro _ _ ⟨rfl, rfl⟩
    refine nz_ri .int (g_d dtbX10_of_0 12 rfl) rfl rfl ?_
    rw [show xOf A b w = (-10000, aBad A) from by unfold xOf; rw [← ef, if_neg (by omega)]]
    exact ⟨rfl, cs_bad hC, (FM.u FM.rf (by decide))⟩

set_option maxRecDepth 20000 in
set_option maxHeartbeats 4000000 in
theorem l_truly (G : Wd) (Z : ZS) (f : Row) (B : Int) (hB : BR Z 1 f) (hR : RO B f) (hBB : B ≤ 60000000) : ∀ (d : Nat) (n : Nat), (f 6).toNat - n = d → (n : Int) ≤ f 6 → Cn G mX10_truly 12 [some (.ref 0), some (iv (trF f n)), some (iv ((n : Int))), none] [] Z (qi (fun r W => trF f (f 6).toNat = r ∧ Z = W)) := by
  intro d
  induction d using Nat.strongRecOn with
  | ind d ih =>
    intro n hd hn
    have h6 := hR.2.1
    have hf3 : 1 ≤ f 3 ∧ f 3 ≤ 28 := hR.1.2.2.2.1
    have hf4 : 0 ≤ f 4 ∧ f 4 ≤ B := by have := hR.1.2.2.2.2.1; omega
    have hf0 := hR.1.1
    refine cz_iload_n (pc' := 13) (g_d dtbX10_truly_0 8 rfl) rfl rfl ?_
    refine cz_aload_n (pc' := 14) (g_d dtbX10_truly_0 9 rfl) rfl rfl ?_
    refine nz_getf (v := .ref 1) (pc' := 17) (g_d dtbX10_truly_0 10 rfl) gf_X10_10 (by decide) rfl rfl rfl ?_
    refine nz_getf (v := iv (f 6)) (pc' := 20) (g_d dtbX10_truly_0 11 rfl) gf_X10_61 (by decide) rfl (congrArg iv (br1_4 (hB))) rfl ?_
    refine nz_icmp_ge (tgt := 105) (pc' := 23) (g_d dtbX10_truly_0 12 rfl) (by omega) (by omega) rfl rfl (fun h20 => ?_) (fun h20 => ?_)
    · refine cz_iload_n (pc' := 106) (g_d dtbX10_truly_0 55 rfl) rfl rfl ?_
      refine nz_ri .int (g_d dtbX10_truly_0 56 rfl) rfl rfl ?_
      rw [show n = (f 6).toNat by omega]; exact ⟨rfl, rfl⟩
    · have hn7 : n < 7 := by omega
      have hn2 : (n : Int) < f 6 := by omega
      have hbo := hR.2.2.1 n hn7 hn2
      have hto : 1 ≤ f (14 + n) ∧ f (14 + n) ≤ 28 := hbo.2.1
      have hpo : 1 ≤ f (21 + n) ∧ f (21 + n) ≤ 99 := hbo.2.2
      obtain ⟨κ, hκ, hκ6⟩ : ∃ κ : Nat, f (7 + n) = (κ : Int) ∧ κ < 6 := ⟨(f (7 + n)).toNat, by have := hbo.1; omega, by have := hbo.1; omega⟩
      have hdI := dayB_in (κ := (κ : Int)) hto
      have hpI := pndB_in (κ := (κ : Int)) (p := f (21 + n)) (m := f 4) (by omega)
      refine cz_aload_n (pc' := 24) (g_d dtbX10_truly_0 13 rfl) rfl rfl ?_
      refine nz_getf (v := .ref 25) (pc' := 27) (g_d dtbX10_truly_0 14 rfl) gf_X10_44 (by decide) rfl rfl rfl ?_
      refine cz_aload_n (pc' := 28) (g_d dtbX10_truly_0 15 rfl) rfl rfl ?_
      refine nz_getf (v := .ref 1) (pc' := 31) (g_d dtbX10_truly_0 16 rfl) gf_X10_10 (by decide) rfl rfl rfl ?_
      refine cz_iload_n (pc' := 32) (g_d dtbX10_truly_0 17 rfl) rfl rfl ?_
      refine nz_cVi (M' := mX0_kindAt) (k := 1) (As := [iv ((n : Int))]) (S := [.ref 25]) (L := [some (.ref 0), some (iv (trF f n)), some (iv ((n : Int))), none]) (pc' := 35) (g_d dtbX10_truly_0 18 rfl) lk_X10_118 okX0_kindAt (by decide) rfl rfl rfl rfl (Nat.le_of_ble_eq_true rfl) (Nat.le_of_ble_eq_true rfl) (by decide) rfl (c_kindR G Z n f (hB) hn7 hn2) ?_
      rintro _ _ ⟨rfl, rfl⟩
      rw [hκ]
      refine nz_cVr (M' := mX2_numbered) (k := 25) (As := [iv ((κ : Int))]) (S := []) (L := [some (.ref 0), some (iv (trF f n)), some (iv ((n : Int))), none]) (pc' := 38) (g_d dtbX10_truly_0 19 rfl) lk_X10_121 okX2_numbered (by decide) rfl rfl rfl rfl (Nat.le_of_ble_eq_true rfl) (Nat.le_of_ble_eq_true rfl) (by decide) rfl (c_numbered G Z κ hκ6) ?_
      rintro _ _ ⟨rfl, rfl⟩
      refine cz_astore_n (L' := [some (.ref 0), some (iv (trF f n)), some (iv ((n : Int))), some (.ref (26 + κ))]) (pc' := 39) (g_d dtbX10_truly_0 20 rfl) (by decide) rfl rfl ?_
      refine cz_aload_n (pc' := 40) (g_d dtbX10_truly_0 21 rfl) rfl rfl ?_
      refine nz_getf (v := .ref 1) (pc' := 43) (g_d dtbX10_truly_0 22 rfl) gf_X10_10 (by decide) rfl rfl rfl ?_
      refine cz_iload_n (pc' := 44) (g_d dtbX10_truly_0 23 rfl) rfl rfl ?_
      refine nz_cVi (M' := mX0_kindAt) (k := 1) (As := [iv ((n : Int))]) (S := []) (L := [some (.ref 0), some (iv (trF f n)), some (iv ((n : Int))), some (.ref (26 + κ))]) (pc' := 47) (g_d dtbX10_truly_0 24 rfl) lk_X10_118 okX0_kindAt (by decide) rfl rfl rfl rfl (Nat.le_of_ble_eq_true rfl) (Nat.le_of_ble_eq_true rfl) (by decide) rfl (c_kindR G Z n f (hB) hn7 hn2) ?_
      rintro _ _ ⟨rfl, rfl⟩
      rw [hκ]
      refine nz_iconst (pc' := 48) (g_d dtbX10_truly_0 25 rfl) rfl ?_
      refine nz_icmp_eq (tgt := 99) (pc' := 51) (g_d dtbX10_truly_0 26 rfl) (by omega) (by omega) rfl rfl (fun h48 => ?_) (fun h48 => ?_)
      · refine nz_iinc (L' := [some (.ref 0), some (iv (trF f n)), some (iv (((n : Int)) + 1)), some (.ref (26 + κ))]) (pc' := 102) (g_d dtbX10_truly_0 53 rfl) (by decide) rfl rfl rfl ?_
        refine cz_goto (pc' := 12) (g_d dtbX10_truly_0 54 rfl) rfl ?_
        refine cz_le [some (.ref 0), some (iv (trF f n)), some (iv (((n : Int)) + 1)), none] ⟨rfl, rfl, rfl, trivial⟩ ?_
        rw [show trF f n = trF f (n + 1) from by simp only [trF]; rw [hκ, if_neg (by omega)]]
        exact ih ((f 6).toNat - (n + 1)) (by omega) (n + 1) rfl (by omega)
      · refine cz_aload_n (pc' := 52) (g_d dtbX10_truly_0 27 rfl) rfl rfl ?_
        refine cz_aload_n (pc' := 53) (g_d dtbX10_truly_0 28 rfl) rfl rfl ?_
        refine nz_getf (v := .ref 1) (pc' := 56) (g_d dtbX10_truly_0 29 rfl) gf_X10_10 (by decide) rfl rfl rfl ?_
        refine cz_iload_n (pc' := 57) (g_d dtbX10_truly_0 30 rfl) rfl rfl ?_
        refine nz_cVi (M' := mX0_dayAt) (k := 1) (As := [iv ((n : Int))]) (S := [.ref (26 + κ)]) (L := [some (.ref 0), some (iv (trF f n)), some (iv ((n : Int))), some (.ref (26 + κ))]) (pc' := 60) (g_d dtbX10_truly_0 31 rfl) lk_X10_127 okX0_dayAt (by decide) rfl rfl rfl rfl (Nat.le_of_ble_eq_true rfl) (Nat.le_of_ble_eq_true rfl) (by decide) rfl (c_dayR G Z n f (hB) hn7 hn2) ?_
        rintro _ _ ⟨rfl, rfl⟩
        refine nz_cD (κ := κ) (S := []) (L := [some (.ref 0), some (iv (trF f n)), some (iv ((n : Int))), some (.ref (26 + κ))]) (pc' := 63) (g_d dtbX10_truly_0 32 rfl) kd_X10 hκ6 (by omega) (Nat.le_of_ble_eq_true rfl) (by decide) (by decide) rfl ?_
        refine cz_aload_n (pc' := 64) (g_d dtbX10_truly_0 33 rfl) rfl rfl ?_
        refine nz_getf (v := .ref 1) (pc' := 67) (g_d dtbX10_truly_0 34 rfl) gf_X10_10 (by decide) rfl rfl rfl ?_
        refine nz_getf (v := .ref 2) (pc' := 70) (g_d dtbX10_truly_0 35 rfl) gf_X10_99 (by decide) rfl rfl rfl ?_
        refine nz_iconst (pc' := 71) (g_d dtbX10_truly_0 36 rfl) rfl ?_
        refine nz_iald 3 (pc' := 72) (g_d dtbX10_truly_0 37 rfl) (by decide) rfl (by omega) (by rfl) (by omega) rfl ?_
        rw [show Z 2 3 = f 3 from br1_fig (hB) (by decide)]
        refine nz_icmp_lt (tgt := 99) (pc' := 75) (g_d dtbX10_truly_0 38 rfl) (by omega) (by omega) rfl rfl (fun h72 => ?_) (fun h72 => ?_)
        · refine nz_iinc (L' := [some (.ref 0), some (iv (trF f n)), some (iv (((n : Int)) + 1)), some (.ref (26 + κ))]) (pc' := 102) (g_d dtbX10_truly_0 53 rfl) (by decide) rfl rfl rfl ?_
          refine cz_goto (pc' := 12) (g_d dtbX10_truly_0 54 rfl) rfl ?_
          refine cz_le [some (.ref 0), some (iv (trF f n)), some (iv (((n : Int)) + 1)), none] ⟨rfl, rfl, rfl, trivial⟩ ?_
          rw [show trF f n = trF f (n + 1) from by simp only [trF]; rw [hκ, if_neg (by omega)]]
          exact ih ((f 6).toNat - (n + 1)) (by omega) (n + 1) rfl (by omega)
        · refine cz_iload_n (pc' := 76) (g_d dtbX10_truly_0 39 rfl) rfl rfl ?_
          refine cz_aload_n (pc' := 77) (g_d dtbX10_truly_0 40 rfl) rfl rfl ?_
          refine cz_aload_n (pc' := 78) (g_d dtbX10_truly_0 41 rfl) rfl rfl ?_
          refine nz_getf (v := .ref 1) (pc' := 81) (g_d dtbX10_truly_0 42 rfl) gf_X10_10 (by decide) rfl rfl rfl ?_
          refine nz_getf (v := .ref 2) (pc' := 84) (g_d dtbX10_truly_0 43 rfl) gf_X10_99 (by decide) rfl rfl rfl ?_
          refine nz_iconst (pc' := 85) (g_d dtbX10_truly_0 44 rfl) rfl ?_
          refine nz_iald 4 (pc' := 86) (g_d dtbX10_truly_0 45 rfl) (by decide) rfl (by omega) (by rfl) (by omega) rfl ?_
          rw [show Z 2 4 = f 4 from br1_fig (hB) (by decide)]
          refine cz_aload_n (pc' := 87) (g_d dtbX10_truly_0 46 rfl) rfl rfl ?_
          refine nz_getf (v := .ref 1) (pc' := 90) (g_d dtbX10_truly_0 47 rfl) gf_X10_10 (by decide) rfl rfl rfl ?_
          refine cz_iload_n (pc' := 91) (g_d dtbX10_truly_0 48 rfl) rfl rfl ?_
          refine nz_cVi (M' := mX0_poundsAt) (k := 1) (As := [iv ((n : Int))]) (S := [iv (f 4), .ref (26 + κ), iv (trF f n)]) (L := [some (.ref 0), some (iv (trF f n)), some (iv ((n : Int))), some (.ref (26 + κ))]) (pc' := 94) (g_d dtbX10_truly_0 49 rfl) lk_X10_130 okX0_poundsAt (by decide) rfl rfl rfl rfl (Nat.le_of_ble_eq_true rfl) (Nat.le_of_ble_eq_true rfl) (by decide) rfl (c_poundsR G Z n f (hB) hn7 hn2) ?_
          rintro _ _ ⟨rfl, rfl⟩
          refine nz_cP (κ := κ) (S := [iv (trF f n)]) (L := [some (.ref 0), some (iv (trF f n)), some (iv ((n : Int))), some (.ref (26 + κ))]) (pc' := 97) (g_d dtbX10_truly_0 50 rfl) kp_X10 hκ6 (by omega) (by omega) (Nat.le_of_ble_eq_true rfl) (by decide) (by decide) rfl ?_
          refine nz_isub (pc' := 98) (g_d dtbX10_truly_0 51 rfl) rfl ?_
          refine cz_istore_n (L' := [some (.ref 0), some (iv ((trF f n) - (pndB (κ : Int) (f (21 + n)) (f 4)))), some (iv ((n : Int))), some (.ref (26 + κ))]) (pc' := 99) (g_d dtbX10_truly_0 52 rfl) (by decide) rfl rfl ?_
          refine nz_iinc (L' := [some (.ref 0), some (iv ((trF f n) - (pndB (κ : Int) (f (21 + n)) (f 4)))), some (iv (((n : Int)) + 1)), some (.ref (26 + κ))]) (pc' := 102) (g_d dtbX10_truly_0 53 rfl) (by decide) rfl rfl rfl ?_
          refine cz_goto (pc' := 12) (g_d dtbX10_truly_0 54 rfl) rfl ?_
          refine cz_le [some (.ref 0), some (iv ((trF f n) - (pndB (κ : Int) (f (21 + n)) (f 4)))), some (iv (((n : Int)) + 1)), none] ⟨rfl, rfl, rfl, trivial⟩ ?_
          rw [show trF f n - pndB (κ : Int) (f (21 + n)) (f 4) = trF f (n + 1) from by simp only [trF]; rw [hκ, if_pos (by omega)]]
          exact ih ((f 6).toNat - (n + 1)) (by omega) (n + 1) rfl (by omega)

set_option maxRecDepth 20000 in
set_option maxHeartbeats 4000000 in
theorem a_truly (G : Wd) (Z : ZS) (A : AS) (B : Int) (hC : CS Z A) (hA : AO B A) : Cn G mX10_truly 0 [some (.ref 0), none, none, none] [] Z (qi (fun r W => (xTruly A).1 = r ∧ CS W (xTruly A).2 ∧ FM Z W)) := by
  have hB := hC.1
  have hb0 := hA.1
  have hO := hA.2.1
  have h6 : 0 ≤ A.1 6 ∧ A.1 6 ≤ 7 := hO.2.1
  have h28 : 0 ≤ A.1 28 ∧ A.1 28 ≤ 6 := hO.2.2.2.1
  have h59 : 0 ≤ A.1 59 ∧ A.1 59 ≤ 8 := hO.2.2.2.2.2.1
  have hf := hO.1
  unfold FO at hf
  have hct := hA.2.2.2.2.2.2
  refine cz_aload_n (pc' := 1) (g_d dtbX10_truly_0 0 rfl) rfl rfl ?_
  refine nz_getf (v := .ref 1) (pc' := 4) (g_d dtbX10_truly_0 1 rfl) gf_X10_10 (by decide) rfl rfl rfl ?_
  refine nz_getf (v := .ref 2) (pc' := 7) (g_d dtbX10_truly_0 2 rfl) gf_X10_99 (by decide) rfl rfl rfl ?_
  refine nz_iconst (pc' := 8) (g_d dtbX10_truly_0 3 rfl) rfl ?_
  refine nz_iald 0 (pc' := 9) (g_d dtbX10_truly_0 4 rfl) (by decide) rfl (by omega) (by rfl) (by omega) rfl ?_
  rw [show Z 2 0 = A.1 0 from br1_fig (hB) (by decide)]
  refine cz_istore_n (L' := [some (.ref 0), some (iv (A.1 0)), none, none]) (pc' := 10) (g_d dtbX10_truly_0 5 rfl) (by decide) rfl rfl ?_
  refine nz_iconst (pc' := 11) (g_d dtbX10_truly_0 6 rfl) rfl ?_
  refine cz_istore_n (L' := [some (.ref 0), some (iv (A.1 0)), some (iv 0), none]) (pc' := 12) (g_d dtbX10_truly_0 7 rfl) (by decide) rfl rfl ?_
  refine nz_wi (l_truly G Z A.1 B hB hO (by omega) ((A.1 6).toNat - 0) 0 rfl (by omega)) (fun r W h => ⟨h.1, ?_, ?_⟩)
  · rw [← h.2]; exact hC
  · rw [← h.2]; exact FM.rf

set_option maxRecDepth 20000 in
set_option maxHeartbeats 4000000 in
theorem l_monthly (G : Wd) (Z : ZS) (f : Row) (B : Int) (hB : BR Z 1 f) (hR : RO B f) (hBB : B ≤ 60000000) (n κ : Nat) (hκ : f (7 + n) = (κ : Int)) (hκ6 : κ < 6) (hpo : 1 ≤ f (21 + n) ∧ f (21 + n) ≤ 99) : ∀ (d : Nat) (i : Nat), 12 - i = d → i ≤ 12 → Cn G mX10_monthly 56 [some (.ref 0), some (iv ((n : Int))), some (.ref (26 + κ)), some (.ref (26 + 0)), some (iv (f (21 + n))), some (iv (mnF f n i)), some (iv ((i : Int))), none] [] Z (qi (fun r W => mnF f n 12 = r ∧ Z = W)) := by
  intro d
  induction d using Nat.strongRecOn with
  | ind d ih =>
    intro i hd hi
    have h6 := hR.2.1
    have hf3 : 1 ≤ f 3 ∧ f 3 ≤ 28 := hR.1.2.2.2.1
    have hf4 : 0 ≤ f 4 ∧ f 4 ≤ B := by have := hR.1.2.2.2.2.1; omega
    have hf0 := hR.1.1
    refine cz_iload (pc' := 58) (g_d dtbX10_monthly_0 30 rfl) rfl rfl ?_
    refine nz_bipush (pc' := 60) (g_d dtbX10_monthly_0 31 rfl) (by decide) rfl ?_
    refine nz_icmp_ge (tgt := 105) (pc' := 63) (g_d dtbX10_monthly_0 32 rfl) (by omega) (by omega) rfl rfl (fun h60 => ?_) (fun h60 => ?_)
    · refine cz_iload (pc' := 107) (g_d dtbX10_monthly_0 55 rfl) rfl rfl ?_
      refine nz_ri .int (g_d dtbX10_monthly_0 56 rfl) rfl rfl ?_
      rw [show i = 12 by omega]; exact ⟨rfl, rfl⟩
    · refine cz_aload_n (pc' := 64) (g_d dtbX10_monthly_0 33 rfl) rfl rfl ?_
      refine nz_getf (v := .ref 1) (pc' := 67) (g_d dtbX10_monthly_0 34 rfl) gf_X10_10 (by decide) rfl rfl rfl ?_
      refine nz_getf (v := .ref 2) (pc' := 70) (g_d dtbX10_monthly_0 35 rfl) gf_X10_99 (by decide) rfl rfl rfl ?_
      refine nz_iconst (pc' := 71) (g_d dtbX10_monthly_0 36 rfl) rfl ?_
      refine nz_iald 4 (pc' := 72) (g_d dtbX10_monthly_0 37 rfl) (by decide) rfl (by omega) (by rfl) (by omega) rfl ?_
      rw [show Z 2 4 = f 4 from br1_fig (hB) (by decide)]
      refine cz_iload (pc' := 74) (g_d dtbX10_monthly_0 38 rfl) rfl rfl ?_
      refine nz_iadd (pc' := 75) (g_d dtbX10_monthly_0 39 rfl) rfl ?_
      refine cz_istore (L' := [some (.ref 0), some (iv ((n : Int))), some (.ref (26 + κ)), some (.ref (26 + 0)), some (iv (f (21 + n))), some (iv (mnF f n i)), some (iv ((i : Int))), some (iv ((f 4) + ((i : Int))))]) (pc' := 77) (g_d dtbX10_monthly_0 40 rfl) (by decide) rfl rfl ?_
      refine cz_iload (pc' := 79) (g_d dtbX10_monthly_0 41 rfl) rfl rfl ?_
      refine cz_aload_n (pc' := 80) (g_d dtbX10_monthly_0 42 rfl) rfl rfl ?_
      refine cz_iload (pc' := 82) (g_d dtbX10_monthly_0 43 rfl) rfl rfl ?_
      refine cz_iload (pc' := 84) (g_d dtbX10_monthly_0 44 rfl) rfl rfl ?_
      refine nz_cP (κ := κ) (S := [iv (mnF f n i)]) (L := [some (.ref 0), some (iv ((n : Int))), some (.ref (26 + κ)), some (.ref (26 + 0)), some (iv (f (21 + n))), some (iv (mnF f n i)), some (iv ((i : Int))), some (iv ((f 4) + ((i : Int))))]) (pc' := 87) (g_d dtbX10_monthly_0 45 rfl) kp_X10 hκ6 (by omega) (by omega) (Nat.le_of_ble_eq_true rfl) (by decide) (by decide) rfl ?_
      refine cz_aload_n (pc' := 88) (g_d dtbX10_monthly_0 46 rfl) rfl rfl ?_
      refine cz_iload (pc' := 90) (g_d dtbX10_monthly_0 47 rfl) rfl rfl ?_
      refine cz_iload (pc' := 92) (g_d dtbX10_monthly_0 48 rfl) rfl rfl ?_
      refine nz_cP (κ := 0) (S := [iv (pndB (κ : Int) (f (21 + n)) ((f 4) + ((i : Int)))), iv (mnF f n i)]) (L := [some (.ref 0), some (iv ((n : Int))), some (.ref (26 + κ)), some (.ref (26 + 0)), some (iv (f (21 + n))), some (iv (mnF f n i)), some (iv ((i : Int))), some (iv ((f 4) + ((i : Int))))]) (pc' := 95) (g_d dtbX10_monthly_0 49 rfl) kp_X10 (by decide) (by omega) (by omega) (Nat.le_of_ble_eq_true rfl) (by decide) (by decide) rfl ?_
      refine nz_isub (pc' := 96) (g_d dtbX10_monthly_0 50 rfl) rfl ?_
      refine nz_iadd (pc' := 97) (g_d dtbX10_monthly_0 51 rfl) rfl ?_
      refine cz_istore (L' := [some (.ref 0), some (iv ((n : Int))), some (.ref (26 + κ)), some (.ref (26 + 0)), some (iv (f (21 + n))), some (iv ((mnF f n i) + ((pndB (κ : Int) (f (21 + n)) ((f 4) + ((i : Int)))) - (pndB (0 : Int) (f (21 + n)) ((f 4) + ((i : Int))))))), some (iv ((i : Int))), some (iv ((f 4) + ((i : Int))))]) (pc' := 99) (g_d dtbX10_monthly_0 52 rfl) (by decide) rfl rfl ?_
      refine nz_iinc (L' := [some (.ref 0), some (iv ((n : Int))), some (.ref (26 + κ)), some (.ref (26 + 0)), some (iv (f (21 + n))), some (iv ((mnF f n i) + ((pndB (κ : Int) (f (21 + n)) ((f 4) + ((i : Int)))) - (pndB (0 : Int) (f (21 + n)) ((f 4) + ((i : Int))))))), some (iv (((i : Int)) + 1)), some (iv ((f 4) + ((i : Int))))]) (pc' := 102) (g_d dtbX10_monthly_0 53 rfl) (by decide) rfl rfl rfl ?_
      refine cz_goto (pc' := 56) (g_d dtbX10_monthly_0 54 rfl) rfl ?_
      refine cz_le [some (.ref 0), some (iv ((n : Int))), some (.ref (26 + κ)), some (.ref (26 + 0)), some (iv (f (21 + n))), some (iv ((mnF f n i) + ((pndB (κ : Int) (f (21 + n)) ((f 4) + ((i : Int)))) - (pndB (0 : Int) (f (21 + n)) ((f 4) + ((i : Int))))))), some (iv (((i : Int)) + 1)), none] ⟨rfl, rfl, rfl, rfl, rfl, rfl, rfl, trivial⟩ ?_
      rw [show mnF f n i + (pndB (κ : Int) (f (21 + n)) (f 4 + (i : Int)) - pndB (0 : Int) (f (21 + n)) (f 4 + (i : Int))) = mnF f n (i + 1) from by simp only [mnF]; rw [hκ]; simp [pndB]]
      exact ih (12 - (i + 1)) (by omega) (i + 1) rfl (by omega)

set_option maxRecDepth 20000 in
set_option maxHeartbeats 4000000 in
theorem a_monthly (G : Wd) (Z : ZS) (A : AS) (B : Int) (hC : CS Z A) (hA : AO B A) (b : Int) (hb : -2147483648 ≤ b ∧ b ≤ 2147483647) : Cn G mX10_monthly 0 [some (.ref 0), some (iv (b)), none, none, none, none, none, none] [] Z (qi (fun r W => (xMonthly A b).1 = r ∧ CS W (xMonthly A b).2 ∧ FM Z W)) := by
  have hB := hC.1
  have hb0 := hA.1
  have hO := hA.2.1
  have h6 : 0 ≤ A.1 6 ∧ A.1 6 ≤ 7 := hO.2.1
  have h28 : 0 ≤ A.1 28 ∧ A.1 28 ≤ 6 := hO.2.2.2.1
  have h59 : 0 ≤ A.1 59 ∧ A.1 59 ≤ 8 := hO.2.2.2.2.2.1
  have hf := hO.1
  unfold FO at hf
  have hct := hA.2.2.2.2.2.2
  obtain ⟨f, ef⟩ : ∃ f : Row, f = A.1 := ⟨_, rfl⟩
  rw [← ef] at hB hO h6 h28 h59 hf
  have hR := hO
  have hf3 : 1 ≤ f 3 ∧ f 3 ≤ 28 := hR.1.2.2.2.1
  have hf4 : 0 ≤ f 4 ∧ f 4 ≤ B := by have := hR.1.2.2.2.2.1; omega
  refine cz_aload_n (pc' := 1) (g_d dtbX10_monthly_0 0 rfl) rfl rfl ?_
  refine cz_iload_n (pc' := 2) (g_d dtbX10_monthly_0 1 rfl) rfl rfl ?_
  refine nz_cVi (M' := mX10_isBillNumber) (k := 0) (As := [iv (b)]) (S := []) (L := [some (.ref 0), some (iv (b)), none, none, none, none, none, none]) (pc' := 5) (g_d dtbX10_monthly_0 2 rfl) lk_X10_114 okX10_isBillNumber (by decide) rfl rfl rfl rfl (Nat.le_of_ble_eq_true rfl) (Nat.le_of_ble_eq_true rfl) (by decide) rfl (c_isBN G Z A B hC hA b (by omega)) ?_
  rintro _ _ ⟨rfl, ⟨rfl, hw2⟩ | ⟨rfl, hw2⟩⟩
  · rw [← ef] at hw2
    refine nz_if_ne_t (tgt := 15) (g_d dtbX10_monthly_0 3 rfl) (by omega) rfl (by omega) ?_
    obtain ⟨n, rfl⟩ : ∃ n : Nat, b = (n : Int) := ⟨b.toNat, by omega⟩
    have hn7 : n < 7 := by omega
    have hn2 : (n : Int) < f 6 := by omega
    have hbo := hR.2.2.1 n hn7 hn2
    have hto : 1 ≤ f (14 + n) ∧ f (14 + n) ≤ 28 := hbo.2.1
    have hpo : 1 ≤ f (21 + n) ∧ f (21 + n) ≤ 99 := hbo.2.2
    obtain ⟨κ, hκ, hκ6⟩ : ∃ κ : Nat, f (7 + n) = (κ : Int) ∧ κ < 6 := ⟨(f (7 + n)).toNat, by have := hbo.1; omega, by have := hbo.1; omega⟩
    have hdI := dayB_in (κ := (κ : Int)) hto
    have hpI := pndB_in (κ := (κ : Int)) (p := f (21 + n)) (m := f 4) (by omega)
    refine cz_aload_n (pc' := 16) (g_d dtbX10_monthly_0 8 rfl) rfl rfl ?_
    refine nz_getf (v := .ref 25) (pc' := 19) (g_d dtbX10_monthly_0 9 rfl) gf_X10_44 (by decide) rfl rfl rfl ?_
    refine cz_aload_n (pc' := 20) (g_d dtbX10_monthly_0 10 rfl) rfl rfl ?_
    refine nz_getf (v := .ref 1) (pc' := 23) (g_d dtbX10_monthly_0 11 rfl) gf_X10_10 (by decide) rfl rfl rfl ?_
    refine cz_iload_n (pc' := 24) (g_d dtbX10_monthly_0 12 rfl) rfl rfl ?_
    refine nz_cVi (M' := mX0_kindAt) (k := 1) (As := [iv ((n : Int))]) (S := [.ref 25]) (L := [some (.ref 0), some (iv ((n : Int))), none, none, none, none, none, none]) (pc' := 27) (g_d dtbX10_monthly_0 13 rfl) lk_X10_118 okX0_kindAt (by decide) rfl rfl rfl rfl (Nat.le_of_ble_eq_true rfl) (Nat.le_of_ble_eq_true rfl) (by decide) rfl (c_kindR G Z n f (hB) hn7 hn2) ?_
    rintro _ _ ⟨rfl, rfl⟩
    rw [hκ]
    refine nz_cVr (M' := mX2_numbered) (k := 25) (As := [iv ((κ : Int))]) (S := []) (L := [some (.ref 0), some (iv ((n : Int))), none, none, none, none, none, none]) (pc' := 30) (g_d dtbX10_monthly_0 14 rfl) lk_X10_121 okX2_numbered (by decide) rfl rfl rfl rfl (Nat.le_of_ble_eq_true rfl) (Nat.le_of_ble_eq_true rfl) (by decide) rfl (c_numbered G Z κ hκ6) ?_
    rintro _ _ ⟨rfl, rfl⟩
    refine cz_astore_n (L' := [some (.ref 0), some (iv ((n : Int))), some (.ref (26 + κ)), none, none, none, none, none]) (pc' := 31) (g_d dtbX10_monthly_0 15 rfl) (by decide) rfl rfl ?_
    refine cz_aload_n (pc' := 32) (g_d dtbX10_monthly_0 16 rfl) rfl rfl ?_
    refine nz_getf (v := .ref 25) (pc' := 35) (g_d dtbX10_monthly_0 17 rfl) gf_X10_44 (by decide) rfl rfl rfl ?_
    refine nz_iconst (pc' := 36) (g_d dtbX10_monthly_0 18 rfl) rfl ?_
    refine nz_cVr (M' := mX2_numbered) (k := 25) (As := [iv 0]) (S := []) (L := [some (.ref 0), some (iv ((n : Int))), some (.ref (26 + κ)), none, none, none, none, none]) (pc' := 39) (g_d dtbX10_monthly_0 19 rfl) lk_X10_121 okX2_numbered (by decide) rfl rfl rfl rfl (Nat.le_of_ble_eq_true rfl) (Nat.le_of_ble_eq_true rfl) (by decide) rfl (c_numbered G Z 0 (by decide)) ?_
    rintro _ _ ⟨rfl, rfl⟩
    refine cz_astore_n (L' := [some (.ref 0), some (iv ((n : Int))), some (.ref (26 + κ)), some (.ref (26 + 0)), none, none, none, none]) (pc' := 40) (g_d dtbX10_monthly_0 20 rfl) (by decide) rfl rfl ?_
    refine cz_aload_n (pc' := 41) (g_d dtbX10_monthly_0 21 rfl) rfl rfl ?_
    refine nz_getf (v := .ref 1) (pc' := 44) (g_d dtbX10_monthly_0 22 rfl) gf_X10_10 (by decide) rfl rfl rfl ?_
    refine cz_iload_n (pc' := 45) (g_d dtbX10_monthly_0 23 rfl) rfl rfl ?_
    refine nz_cVi (M' := mX0_poundsAt) (k := 1) (As := [iv ((n : Int))]) (S := []) (L := [some (.ref 0), some (iv ((n : Int))), some (.ref (26 + κ)), some (.ref (26 + 0)), none, none, none, none]) (pc' := 48) (g_d dtbX10_monthly_0 24 rfl) lk_X10_130 okX0_poundsAt (by decide) rfl rfl rfl rfl (Nat.le_of_ble_eq_true rfl) (Nat.le_of_ble_eq_true rfl) (by decide) rfl (c_poundsR G Z n f (hB) hn7 hn2) ?_
    rintro _ _ ⟨rfl, rfl⟩
    refine cz_istore (L' := [some (.ref 0), some (iv ((n : Int))), some (.ref (26 + κ)), some (.ref (26 + 0)), some (iv (f (21 + n))), none, none, none]) (pc' := 50) (g_d dtbX10_monthly_0 25 rfl) (by decide) rfl rfl ?_
    refine nz_iconst (pc' := 51) (g_d dtbX10_monthly_0 26 rfl) rfl ?_
    refine cz_istore (L' := [some (.ref 0), some (iv ((n : Int))), some (.ref (26 + κ)), some (.ref (26 + 0)), some (iv (f (21 + n))), some (iv 0), none, none]) (pc' := 53) (g_d dtbX10_monthly_0 27 rfl) (by decide) rfl rfl ?_
    refine nz_iconst (pc' := 54) (g_d dtbX10_monthly_0 28 rfl) rfl ?_
    refine cz_istore (L' := [some (.ref 0), some (iv ((n : Int))), some (.ref (26 + κ)), some (.ref (26 + 0)), some (iv (f (21 + n))), some (iv 0), some (iv 0), none]) (pc' := 56) (g_d dtbX10_monthly_0 29 rfl) (by decide) rfl rfl ?_
    refine nz_wi (l_monthly G Z f B hB hR (by omega) n κ hκ hκ6 hpo (12 - 0) 0 rfl (by omega)) (fun r W h => ?_)
    rw [show xMonthly A (n : Int) = (mnF f n 12, A) from by unfold xMonthly; rw [← ef, if_pos (by omega)]; rfl]
    refine ⟨h.1, ?_, ?_⟩
    · rw [← h.2]; exact hC
    · rw [← h.2]; exact FM.rf
  · rw [← ef] at hw2
    refine nz_if_ne_f (pc' := 8) (g_d dtbX10_monthly_0 3 rfl) (by omega) (by decide) rfl (by omega) ?_
    refine cz_aload_n (pc' := 9) (g_d dtbX10_monthly_0 4 rfl) rfl rfl ?_
    refine nz_ldc (pc' := 11) (v := -100000) (g_d dtbX10_monthly_0 5 rfl) kn_X10_142 rfl ?_
    refine nz_cVi (M' := mX10_refuseBad) (k := 0) (As := [iv (-100000)]) (S := []) (L := [some (.ref 0), some (iv (b)), none, none, none, none, none, none]) (pc' := 14) (g_d dtbX10_monthly_0 6 rfl) lk_X10_57 okX10_refuseBad (by decide) rfl rfl rfl rfl (Nat.le_of_ble_eq_true rfl) (Nat.le_of_ble_eq_true rfl) (by decide) rfl (c_refuseBad G Z (-100000)) ?_
    rintro _ _ ⟨rfl, rfl⟩
    refine nz_ri .int (g_d dtbX10_monthly_0 7 rfl) rfl rfl ?_
    rw [show xMonthly A b = (-100000, aBad A) from by unfold xMonthly; rw [← ef, if_neg (by omega)]]
    exact ⟨rfl, cs_bad hC, (FM.u FM.rf (by decide))⟩
end
section
/-! what is there, days ahead -/
def bN (A : AS) : Nat := (A.1 6).toNat
def gA (A : AS) : Row := drA A.1 (A.1 6).toNat
def xThen (A : AS) (m w : Int) : Int × AS := if (0 ≤ m ∧ m ≤ 99) ∧ (0 ≤ w ∧ w ≤ 1) then (if w = 0 then rL (gA A) (A.1 5) (A.1 0) m.toNat else rC (gA A) (A.1 5) (A.1 0) m.toNat, A) else (-100000, aBad A)
def xLow (A : AS) (m w : Int) : Int × AS := if (1 ≤ m ∧ m ≤ 99) ∧ (0 ≤ w ∧ w ≤ 1) then (if w = 0 then rM (gA A) (A.1 5) (A.1 0) m.toNat else rI (gA A) (A.1 5) (A.1 0) m.toNat, A) else (-100000, aBad A)
def xBelow (A : AS) : Int × AS := (rBl (gA A) (A.1 5) (A.1 0) 99, A)
def xMost (A : AS) (m : Int) : Int × AS := if 1 ≤ m ∧ m ≤ 99 then (if mS (gA A) (A.1 0) m.toNat < 0 then -1 else mS (gA A) (A.1 0) m.toNat, A) else (-2, aBad A)
def xNeed (A : AS) (m : Int) : Int × AS := if 1 ≤ m ∧ m ≤ 99 then (if 999 < lM (gA A) (A.1 5) (A.1 0) m.toNat then -1 else lM (gA A) (A.1 5) (A.1 0) m.toNat, A) else (-2, aBad A)
/-- only the first places of a row count -/
theorem rL_ext {g h : Row} {sp a : Int} {m : Nat} (e : ∀ i, i < m → g i = h i) : ∀ i, i ≤ m → rL g sp a i = rL h sp a i := by
  intro i
  induction i with
  | zero => intro _; rfl
  | succ i ih => intro hi; simp only [rL]; rw [ih (by omega), e i (by omega)]
theorem rC_ext {g h : Row} {sp a : Int} {m : Nat} (e : ∀ i, i < m → g i = h i) : ∀ i, i ≤ m → rC g sp a i = rC h sp a i := by
  intro i
  induction i with
  | zero => intro _; rfl
  | succ i ih => intro hi; simp only [rC]; rw [ih (by omega), e i (by omega), rL_ext e i (by omega)]
theorem rBl_ext {g h : Row} {sp a : Int} {m : Nat} (e : ∀ i, i < m → g i = h i) : ∀ i, i ≤ m → rBl g sp a i = rBl h sp a i := by
  intro i
  induction i with
  | zero => intro _; rfl
  | succ i ih => intro hi; simp only [rBl]; rw [ih (by omega), e i (by omega), rL_ext e i (by omega)]
theorem rM_ext {g h : Row} {sp a : Int} {m : Nat} (e : ∀ i, i < m → g i = h i) : ∀ i, i ≤ m → rM g sp a i = rM h sp a i := by
  intro i
  induction i with
  | zero => intro _; rfl
  | succ i ih => intro hi; simp only [rM]; rw [ih (by omega), rL_ext e (i + 1) hi]
theorem rI_ext {g h : Row} {sp a : Int} {m : Nat} (e : ∀ i, i < m → g i = h i) : ∀ i, i ≤ m → rI g sp a i = rI h sp a i := by
  intro i
  induction i with
  | zero => intro _; rfl
  | succ i ih => intro hi; simp only [rI]; rw [ih (by omega), rL_ext e (i + 1) hi, rM_ext e i (by omega)]
theorem sS_ext {g h : Row} {a : Int} {m : Nat} (e : ∀ i, i < m → g i = h i) : ∀ i, i ≤ m → sS g a i = sS h a i := by
  intro i
  induction i with
  | zero => intro _; rfl
  | succ i ih => intro hi; simp only [sS]; rw [ih (by omega), e i (by omega)]
theorem mS_ext {g h : Row} {a : Int} {m : Nat} (e : ∀ i, i < m → g i = h i) : ∀ i, i ≤ m → mS g a i = mS h a i := by
  intro i
  induction i with
  | zero => intro _; rfl
  | succ i ih => intro hi; simp only [mS]; rw [ih (by omega), e i (by omega), sS_ext e i (by omega)]
theorem sP_ext {g h : Row} {sp a : Int} {m : Nat} (e : ∀ i, i < m → g i = h i) : ∀ i, i ≤ m → sP g sp a i = sP h sp a i := by
  intro i
  induction i with
  | zero => intro _; rfl
  | succ i ih => intro hi; simp only [sP]; rw [ih (by omega), e i (by omega)]
theorem lM_ext {g h : Row} {sp a : Int} {m : Nat} (e : ∀ i, i < m → g i = h i) : ∀ i, i ≤ m → lM g sp a i = lM h sp a i := by
  intro i
  induction i with
  | zero => intro _; rfl
  | succ i ih => intro hi; simp only [lM]; rw [ih (by omega), e i (by omega), sP_ext e i (by omega)]
/-- laid: m days, g on each -/
def LD (W : ZS) (m : Nat) (g : Row) : Prop := W 24 2 = (m : Int) ∧ ∀ i, i < m → W 32 i = g i
theorem zly_ld {Z : ZS} {f : Row} {m n : Nat} : LD (zly Z f m n) m (drA f n) := ⟨by simp [zly, zr, zu], fun i hi => by simp [zly, zr, hi]⟩
theorem zly_sc {Z : ZS} {f : Row} {m n : Nat} : Sc Z (zly Z f m n) := ⟨fun a ha => by rw [zly, zr_ne (by omega), zu_row (by omega)], by rw [zly, zr_ne (by omega), zu_row (by omega)]⟩
theorem zly_fm {Z : ZS} {f : Row} {m n : Nat} : FM Z (zly Z f m n) := fun a ha => by rw [zly, zr_ne (by omega), zu_row (by omega)]
theorem zrun_sc {Z : ZS} {sp a : Int} {m : Nat} : Sc Z (zrun Z sp a m) := ⟨fun b hb => z5_row (by omega), by rw [zrun, z5_row (by omega)]⟩
theorem zrun_fm {Z : ZS} {sp a : Int} {m : Nat} : FM Z (zrun Z sp a m) := fun b hb => z5_row (by omega)
theorem zrun_ld {Z : ZS} {sp a : Int} {m n : Nat} {g : Row} (h : LD Z n g) : LD (zrun Z sp a m) n g := ⟨by simp [zrun, z5]; exact h.1, fun i hi => by rw [zrun, z5_row (by omega)]; exact h.2 i hi⟩
theorem CS.br {Z W : ZS} {A : AS} (h : CS Z A) (s : Sc Z W) : BR W 1 A.1 := (h.sc s).1
theorem gA_in {B : Int} {A : AS} (h : AO B A) (i : Nat) : -1000 ≤ gA A i ∧ gA A i ≤ 7000 := by
  have h6 := h.2.1.2.1
  have := drA_in h.2.1 i (A.1 6).toNat (by omega) (by omega)
  unfold gA
  omega

/-- what a run over what is laid shows -/
theorem run_sh {Z : ZS} {sp a : Int} {m : Nat} {g : Row} (h : LD Z m g) : zrun Z sp a m 24 3 = rL g sp a m ∧ zrun Z sp a m 24 4 = rC g sp a m ∧ zrun Z sp a m 24 5 = rM g sp a m ∧ zrun Z sp a m 24 6 = rI g sp a m ∧ zrun Z sp a m 24 7 = rBl g sp a m := by
  have e : ∀ i, i < m → Z 32 i = g i := h.2
  refine ⟨rL_ext e m (Nat.le_refl _), rC_ext e m (Nat.le_refl _), rM_ext e m (Nat.le_refl _), rI_ext e m (Nat.le_refl _), rBl_ext e m (Nat.le_refl _)⟩

set_option maxRecDepth 20000 in
set_option maxHeartbeats 4000000 in
theorem c_foresee (G : Wd) (Z : ZS) (A : AS) (B : Int) (hC : CS Z A) (hA : AO B A) (m : Nat) (hm : m ≤ 99) : Cn G mX10_foresee 0 [some (.ref 0), some (iv ((m : Int)))] [] Z (qv (fun W => (W 24 3 = rL (gA A) (A.1 5) (A.1 0) m ∧ W 24 4 = rC (gA A) (A.1 5) (A.1 0) m ∧ W 24 5 = rM (gA A) (A.1 5) (A.1 0) m ∧ W 24 6 = rI (gA A) (A.1 5) (A.1 0) m ∧ W 24 7 = rBl (gA A) (A.1 5) (A.1 0) m) ∧ Sc Z W ∧ FM Z W ∧ LD W m (gA A))) := by
  have hB := hC.1
  have hb0 := hA.1
  have hO := hA.2.1
  have h6 : 0 ≤ A.1 6 ∧ A.1 6 ≤ 7 := hO.2.1
  have h28 : 0 ≤ A.1 28 ∧ A.1 28 ≤ 6 := hO.2.2.2.1
  have h59 : 0 ≤ A.1 59 ∧ A.1 59 ≤ 8 := hO.2.2.2.2.2.1
  have hf := hO.1
  unfold FO at hf
  have hct := hA.2.2.2.2.2.2
  refine cz_aload_n (pc' := 1) (g_d dtbX10_foresee_0 0 rfl) rfl rfl ?_
  refine nz_getf (v := .ref 24) (pc' := 4) (g_d dtbX10_foresee_0 1 rfl) gf_X10_36 (by decide) rfl rfl rfl ?_
  refine cz_aload_n (pc' := 5) (g_d dtbX10_foresee_0 2 rfl) rfl rfl ?_
  refine nz_getf (v := .ref 1) (pc' := 8) (g_d dtbX10_foresee_0 3 rfl) gf_X10_10 (by decide) rfl rfl rfl ?_
  refine cz_iload_n (pc' := 9) (g_d dtbX10_foresee_0 4 rfl) rfl rfl ?_
  refine nz_cVv (M' := mX4_lay) (k := 24) (As := [.ref 1, iv ((m : Int))]) (S := []) (L := [some (.ref 0), some (iv ((m : Int)))]) (pc' := 12) (g_d dtbX10_foresee_0 5 rfl) lk_X10_161 okX4_lay (by decide) rfl rfl rfl rfl (Nat.le_of_ble_eq_true rfl) (Nat.le_of_ble_eq_true rfl) (by decide) rfl (c_lay G Z m A.1 B hB hO (by omega) (by omega)) ?_
  rintro V1 e1
  have hs_V1 : Sc Z V1 := e1 ▸ zly_sc
  have hm_V1 : FM Z V1 := e1 ▸ zly_fm
  have hl_V1 : LD V1 m (gA A) := e1 ▸ zly_ld
  refine cz_aload_n (pc' := 13) (g_d dtbX10_foresee_0 6 rfl) rfl rfl ?_
  refine nz_getf (v := .ref 24) (pc' := 16) (g_d dtbX10_foresee_0 7 rfl) gf_X10_36 (by decide) rfl rfl rfl ?_
  refine cz_aload_n (pc' := 17) (g_d dtbX10_foresee_0 8 rfl) rfl rfl ?_
  refine nz_getf (v := .ref 1) (pc' := 20) (g_d dtbX10_foresee_0 9 rfl) gf_X10_10 (by decide) rfl rfl rfl ?_
  refine nz_getf (v := .ref 2) (pc' := 23) (g_d dtbX10_foresee_0 10 rfl) gf_X10_99 (by decide) rfl rfl rfl ?_
  refine nz_iconst (pc' := 24) (g_d dtbX10_foresee_0 11 rfl) rfl ?_
  refine nz_iald 0 (pc' := 25) (g_d dtbX10_foresee_0 12 rfl) (by decide) rfl (by omega) (by rfl) (by omega) rfl ?_
  rw [show V1 2 0 = A.1 0 from br1_fig (hC.br (hs_V1)) (by decide)]
  refine cz_aload_n (pc' := 26) (g_d dtbX10_foresee_0 13 rfl) rfl rfl ?_
  refine nz_getf (v := .ref 1) (pc' := 29) (g_d dtbX10_foresee_0 14 rfl) gf_X10_10 (by decide) rfl rfl rfl ?_
  refine nz_getf (v := .ref 2) (pc' := 32) (g_d dtbX10_foresee_0 15 rfl) gf_X10_99 (by decide) rfl rfl rfl ?_
  refine nz_iconst (pc' := 33) (g_d dtbX10_foresee_0 16 rfl) rfl ?_
  refine nz_iald 5 (pc' := 34) (g_d dtbX10_foresee_0 17 rfl) (by decide) rfl (by omega) (by rfl) (by omega) rfl ?_
  rw [show V1 2 5 = A.1 5 from br1_fig (hC.br (hs_V1)) (by decide)]
  refine nz_cVv (M' := mX4_run) (k := 24) (As := [iv (A.1 0), iv (A.1 5)]) (S := []) (L := [some (.ref 0), some (iv ((m : Int)))]) (pc' := 37) (g_d dtbX10_foresee_0 18 rfl) lk_X10_199 okX4_run (by decide) rfl rfl rfl rfl (Nat.le_of_ble_eq_true rfl) (Nat.le_of_ble_eq_true rfl) (by decide) rfl (c_run G V1 m (A.1 5) (A.1 0) hl_V1.1 (by omega) (fun i hi => by rw [hl_V1.2 i hi]; have := gA_in hA i; omega) (by omega) (by omega)) ?_
  rintro V2 eV2
  have hs_V2 : Sc Z V2 := Sc.tr hs_V1 (eV2 ▸ zrun_sc)
  have hm_V2 : FM Z V2 := FM.tr hm_V1 (eV2 ▸ zrun_fm)
  have hl_V2 : LD V2 m (gA A) := eV2 ▸ zrun_ld hl_V1
  refine nz_rv (g_d dtbX10_foresee_0 19 rfl) rfl ?_
  have q := run_sh (sp := A.1 5) (a := A.1 0) hl_V1
  rw [eV2] at q
  exact ⟨q, hs_V2, hm_V2, hl_V2⟩

set_option maxRecDepth 20000 in
set_option maxHeartbeats 4000000 in
theorem a_then (G : Wd) (Z : ZS) (A : AS) (B : Int) (hC : CS Z A) (hA : AO B A) (m w : Int) (hm : -2147483648 ≤ m ∧ m ≤ 2147483647) (hw : -2147483648 ≤ w ∧ w ≤ 2147483647) : Cn G mX10_then 0 [some (.ref 0), some (iv (m)), some (iv (w))] [] Z (qi (fun r W => (xThen A m w).1 = r ∧ CS W (xThen A m w).2 ∧ FM Z W)) := by
  have hB := hC.1
  have hb0 := hA.1
  have hO := hA.2.1
  have h6 : 0 ≤ A.1 6 ∧ A.1 6 ≤ 7 := hO.2.1
  have h28 : 0 ≤ A.1 28 ∧ A.1 28 ≤ 6 := hO.2.2.2.1
  have h59 : 0 ≤ A.1 59 ∧ A.1 59 ≤ 8 := hO.2.2.2.2.2.1
  have hf := hO.1
  unfold FO at hf
  have hct := hA.2.2.2.2.2.2
  refine cz_iload_n (pc' := 1) (g_d dtbX10_then_0 0 rfl) rfl rfl ?_
  refine nz_iconst (pc' := 2) (g_d dtbX10_then_0 1 rfl) rfl ?_
  refine nz_bipush (pc' := 4) (g_d dtbX10_then_0 2 rfl) (by decide) rfl ?_
  refine nz_cSi (M' := mX10_within) (As := [iv (m), iv 0, iv 99]) (S := []) (L := [some (.ref 0), some (iv (m)), some (iv (w))]) (pc' := 7) (g_d dtbX10_then_0 3 rfl) lk_X10_53 okX10_within rfl rfl (Nat.le_of_ble_eq_true rfl) (Nat.le_of_ble_eq_true rfl) (by decide) rfl (c_within G Z m 0 99 (by omega) (by omega) (by omega)) ?_
  rintro _ _ ⟨rfl, ⟨rfl, hw4⟩ | ⟨rfl, hw4⟩⟩
  · refine nz_if_eq_f (pc' := 10) (g_d dtbX10_then_0 4 rfl) (by omega) (by decide) rfl (by omega) ?_
    refine cz_iload_n (pc' := 11) (g_d dtbX10_then_0 5 rfl) rfl rfl ?_
    refine nz_iconst (pc' := 12) (g_d dtbX10_then_0 6 rfl) rfl ?_
    refine nz_iconst (pc' := 13) (g_d dtbX10_then_0 7 rfl) rfl ?_
    refine nz_cSi (M' := mX10_within) (As := [iv (w), iv 0, iv 1]) (S := []) (L := [some (.ref 0), some (iv (m)), some (iv (w))]) (pc' := 16) (g_d dtbX10_then_0 8 rfl) lk_X10_53 okX10_within rfl rfl (Nat.le_of_ble_eq_true rfl) (Nat.le_of_ble_eq_true rfl) (by decide) rfl (c_within G Z w 0 1 (by omega) (by omega) (by omega)) ?_
    rintro _ _ ⟨rfl, ⟨rfl, hw13⟩ | ⟨rfl, hw13⟩⟩
    · refine nz_if_ne_t (tgt := 26) (g_d dtbX10_then_0 9 rfl) (by omega) rfl (by omega) ?_
      obtain ⟨N, rfl⟩ : ∃ N : Nat, m = (N : Int) := ⟨m.toNat, by omega⟩
      refine cz_aload_n (pc' := 27) (g_d dtbX10_then_0 14 rfl) rfl rfl ?_
      refine cz_iload_n (pc' := 28) (g_d dtbX10_then_0 15 rfl) rfl rfl ?_
      refine nz_cVv (M' := mX10_foresee) (k := 0) (As := [iv ((N : Int))]) (S := []) (L := [some (.ref 0), some (iv ((N : Int))), some (iv (w))]) (pc' := 31) (g_d dtbX10_then_0 16 rfl) lk_X10_143 okX10_foresee (by decide) rfl rfl rfl rfl (Nat.le_of_ble_eq_true rfl) (Nat.le_of_ble_eq_true rfl) (by decide) rfl (c_foresee G Z A B hC hA N (by omega)) ?_
      rintro V1 ⟨⟨v3, v4, v5, v6, v7⟩, hs_V1, hm_V1, hl_V1⟩
      refine cz_iload_n (pc' := 32) (g_d dtbX10_then_0 17 rfl) rfl rfl ?_
      refine nz_if_ne (tgt := 45) (pc' := 35) (g_d dtbX10_then_0 18 rfl) (by omega) rfl rfl (fun h32 => ?_) (fun h32 => ?_)
      · refine cz_aload_n (pc' := 46) (g_d dtbX10_then_0 23 rfl) rfl rfl ?_
        refine nz_getf (v := .ref 24) (pc' := 49) (g_d dtbX10_then_0 24 rfl) gf_X10_36 (by decide) rfl rfl rfl ?_
        refine nz_getf (v := iv (rC (gA A) (A.1 5) (A.1 0) N)) (pc' := 52) (g_d dtbX10_then_0 25 rfl) gf_X10_149 (by decide) rfl (congrArg iv (v4)) rfl ?_
        refine nz_ri .int (g_d dtbX10_then_0 26 rfl) rfl rfl ?_
        rw [show xThen A (N : Int) w = (rC (gA A) (A.1 5) (A.1 0) N, A) from by unfold xThen; rw [if_pos (by omega), if_neg (by omega), Int.toNat_natCast]]
        exact ⟨rfl, hC.sc hs_V1, hm_V1⟩
      · refine cz_aload_n (pc' := 36) (g_d dtbX10_then_0 19 rfl) rfl rfl ?_
        refine nz_getf (v := .ref 24) (pc' := 39) (g_d dtbX10_then_0 20 rfl) gf_X10_36 (by decide) rfl rfl rfl ?_
        refine nz_getf (v := iv (rL (gA A) (A.1 5) (A.1 0) N)) (pc' := 42) (g_d dtbX10_then_0 21 rfl) gf_X10_146 (by decide) rfl (congrArg iv (v3)) rfl ?_
        refine cz_goto (pc' := 52) (g_d dtbX10_then_0 22 rfl) rfl ?_
        refine nz_ri .int (g_d dtbX10_then_0 26 rfl) rfl rfl ?_
        rw [show xThen A (N : Int) w = (rL (gA A) (A.1 5) (A.1 0) N, A) from by unfold xThen; rw [if_pos (by omega), if_pos (by omega), Int.toNat_natCast]]
        exact ⟨rfl, hC.sc hs_V1, hm_V1⟩
    · refine nz_if_ne_f (pc' := 19) (g_d dtbX10_then_0 9 rfl) (by omega) (by decide) rfl (by omega) ?_
      refine cz_aload_n (pc' := 20) (g_d dtbX10_then_0 10 rfl) rfl rfl ?_
      refine nz_ldc (pc' := 22) (v := -100000) (g_d dtbX10_then_0 11 rfl) kn_X10_142 rfl ?_
      refine nz_cVi (M' := mX10_refuseBad) (k := 0) (As := [iv (-100000)]) (S := []) (L := [some (.ref 0), some (iv (m)), some (iv (w))]) (pc' := 25) (g_d dtbX10_then_0 12 rfl) lk_X10_57 okX10_refuseBad (by decide) rfl rfl rfl rfl (Nat.le_of_ble_eq_true rfl) (Nat.le_of_ble_eq_true rfl) (by decide) rfl (c_refuseBad G Z (-100000)) ?_
      rintro _ _ ⟨rfl, rfl⟩
      refine nz_ri .int (g_d dtbX10_then_0 13 rfl) rfl rfl ?_
      rw [show xThen A m w = (-100000, aBad A) from if_neg (by omega)]
      exact ⟨rfl, cs_bad hC, (FM.u FM.rf (by decide))⟩
  · refine nz_if_eq_t (tgt := 19) (g_d dtbX10_then_0 4 rfl) (by omega) rfl (by omega) ?_
    refine cz_aload_n (pc' := 20) (g_d dtbX10_then_0 10 rfl) rfl rfl ?_
    refine nz_ldc (pc' := 22) (v := -100000) (g_d dtbX10_then_0 11 rfl) kn_X10_142 rfl ?_
    refine nz_cVi (M' := mX10_refuseBad) (k := 0) (As := [iv (-100000)]) (S := []) (L := [some (.ref 0), some (iv (m)), some (iv (w))]) (pc' := 25) (g_d dtbX10_then_0 12 rfl) lk_X10_57 okX10_refuseBad (by decide) rfl rfl rfl rfl (Nat.le_of_ble_eq_true rfl) (Nat.le_of_ble_eq_true rfl) (by decide) rfl (c_refuseBad G Z (-100000)) ?_
    rintro _ _ ⟨rfl, rfl⟩
    refine nz_ri .int (g_d dtbX10_then_0 13 rfl) rfl rfl ?_
    rw [show xThen A m w = (-100000, aBad A) from if_neg (by omega)]
    exact ⟨rfl, cs_bad hC, (FM.u FM.rf (by decide))⟩

set_option maxRecDepth 20000 in
set_option maxHeartbeats 4000000 in
theorem a_low (G : Wd) (Z : ZS) (A : AS) (B : Int) (hC : CS Z A) (hA : AO B A) (m w : Int) (hm : -2147483648 ≤ m ∧ m ≤ 2147483647) (hw : -2147483648 ≤ w ∧ w ≤ 2147483647) : Cn G mX10_low 0 [some (.ref 0), some (iv (m)), some (iv (w))] [] Z (qi (fun r W => (xLow A m w).1 = r ∧ CS W (xLow A m w).2 ∧ FM Z W)) := by
  have hB := hC.1
  have hb0 := hA.1
  have hO := hA.2.1
  have h6 : 0 ≤ A.1 6 ∧ A.1 6 ≤ 7 := hO.2.1
  have h28 : 0 ≤ A.1 28 ∧ A.1 28 ≤ 6 := hO.2.2.2.1
  have h59 : 0 ≤ A.1 59 ∧ A.1 59 ≤ 8 := hO.2.2.2.2.2.1
  have hf := hO.1
  unfold FO at hf
  have hct := hA.2.2.2.2.2.2
  refine cz_iload_n (pc' := 1) (g_d dtbX10_low_0 0 rfl) rfl rfl ?_
  refine nz_iconst (pc' := 2) (g_d dtbX10_low_0 1 rfl) rfl ?_
  refine nz_bipush (pc' := 4) (g_d dtbX10_low_0 2 rfl) (by decide) rfl ?_
  refine nz_cSi (M' := mX10_within) (As := [iv (m), iv 1, iv 99]) (S := []) (L := [some (.ref 0), some (iv (m)), some (iv (w))]) (pc' := 7) (g_d dtbX10_low_0 3 rfl) lk_X10_53 okX10_within rfl rfl (Nat.le_of_ble_eq_true rfl) (Nat.le_of_ble_eq_true rfl) (by decide) rfl (c_within G Z m 1 99 (by omega) (by omega) (by omega)) ?_
  rintro _ _ ⟨rfl, ⟨rfl, hw4⟩ | ⟨rfl, hw4⟩⟩
  · refine nz_if_eq_f (pc' := 10) (g_d dtbX10_low_0 4 rfl) (by omega) (by decide) rfl (by omega) ?_
    refine cz_iload_n (pc' := 11) (g_d dtbX10_low_0 5 rfl) rfl rfl ?_
    refine nz_iconst (pc' := 12) (g_d dtbX10_low_0 6 rfl) rfl ?_
    refine nz_iconst (pc' := 13) (g_d dtbX10_low_0 7 rfl) rfl ?_
    refine nz_cSi (M' := mX10_within) (As := [iv (w), iv 0, iv 1]) (S := []) (L := [some (.ref 0), some (iv (m)), some (iv (w))]) (pc' := 16) (g_d dtbX10_low_0 8 rfl) lk_X10_53 okX10_within rfl rfl (Nat.le_of_ble_eq_true rfl) (Nat.le_of_ble_eq_true rfl) (by decide) rfl (c_within G Z w 0 1 (by omega) (by omega) (by omega)) ?_
    rintro _ _ ⟨rfl, ⟨rfl, hw13⟩ | ⟨rfl, hw13⟩⟩
    · refine nz_if_ne_t (tgt := 26) (g_d dtbX10_low_0 9 rfl) (by omega) rfl (by omega) ?_
      obtain ⟨N, rfl⟩ : ∃ N : Nat, m = (N : Int) := ⟨m.toNat, by omega⟩
      refine cz_aload_n (pc' := 27) (g_d dtbX10_low_0 14 rfl) rfl rfl ?_
      refine cz_iload_n (pc' := 28) (g_d dtbX10_low_0 15 rfl) rfl rfl ?_
      refine nz_cVv (M' := mX10_foresee) (k := 0) (As := [iv ((N : Int))]) (S := []) (L := [some (.ref 0), some (iv ((N : Int))), some (iv (w))]) (pc' := 31) (g_d dtbX10_low_0 16 rfl) lk_X10_143 okX10_foresee (by decide) rfl rfl rfl rfl (Nat.le_of_ble_eq_true rfl) (Nat.le_of_ble_eq_true rfl) (by decide) rfl (c_foresee G Z A B hC hA N (by omega)) ?_
      rintro V1 ⟨⟨v3, v4, v5, v6, v7⟩, hs_V1, hm_V1, hl_V1⟩
      refine cz_iload_n (pc' := 32) (g_d dtbX10_low_0 17 rfl) rfl rfl ?_
      refine nz_if_ne (tgt := 45) (pc' := 35) (g_d dtbX10_low_0 18 rfl) (by omega) rfl rfl (fun h32 => ?_) (fun h32 => ?_)
      · refine cz_aload_n (pc' := 46) (g_d dtbX10_low_0 23 rfl) rfl rfl ?_
        refine nz_getf (v := .ref 24) (pc' := 49) (g_d dtbX10_low_0 24 rfl) gf_X10_36 (by decide) rfl rfl rfl ?_
        refine nz_getf (v := iv (rI (gA A) (A.1 5) (A.1 0) N)) (pc' := 52) (g_d dtbX10_low_0 25 rfl) gf_X10_155 (by decide) rfl (congrArg iv (v6)) rfl ?_
        refine nz_ri .int (g_d dtbX10_low_0 26 rfl) rfl rfl ?_
        rw [show xLow A (N : Int) w = (rI (gA A) (A.1 5) (A.1 0) N, A) from by unfold xLow; rw [if_pos (by omega), if_neg (by omega), Int.toNat_natCast]]
        exact ⟨rfl, hC.sc hs_V1, hm_V1⟩
      · refine cz_aload_n (pc' := 36) (g_d dtbX10_low_0 19 rfl) rfl rfl ?_
        refine nz_getf (v := .ref 24) (pc' := 39) (g_d dtbX10_low_0 20 rfl) gf_X10_36 (by decide) rfl rfl rfl ?_
        refine nz_getf (v := iv (rM (gA A) (A.1 5) (A.1 0) N)) (pc' := 42) (g_d dtbX10_low_0 21 rfl) gf_X10_152 (by decide) rfl (congrArg iv (v5)) rfl ?_
        refine cz_goto (pc' := 52) (g_d dtbX10_low_0 22 rfl) rfl ?_
        refine nz_ri .int (g_d dtbX10_low_0 26 rfl) rfl rfl ?_
        rw [show xLow A (N : Int) w = (rM (gA A) (A.1 5) (A.1 0) N, A) from by unfold xLow; rw [if_pos (by omega), if_pos (by omega), Int.toNat_natCast]]
        exact ⟨rfl, hC.sc hs_V1, hm_V1⟩
    · refine nz_if_ne_f (pc' := 19) (g_d dtbX10_low_0 9 rfl) (by omega) (by decide) rfl (by omega) ?_
      refine cz_aload_n (pc' := 20) (g_d dtbX10_low_0 10 rfl) rfl rfl ?_
      refine nz_ldc (pc' := 22) (v := -100000) (g_d dtbX10_low_0 11 rfl) kn_X10_142 rfl ?_
      refine nz_cVi (M' := mX10_refuseBad) (k := 0) (As := [iv (-100000)]) (S := []) (L := [some (.ref 0), some (iv (m)), some (iv (w))]) (pc' := 25) (g_d dtbX10_low_0 12 rfl) lk_X10_57 okX10_refuseBad (by decide) rfl rfl rfl rfl (Nat.le_of_ble_eq_true rfl) (Nat.le_of_ble_eq_true rfl) (by decide) rfl (c_refuseBad G Z (-100000)) ?_
      rintro _ _ ⟨rfl, rfl⟩
      refine nz_ri .int (g_d dtbX10_low_0 13 rfl) rfl rfl ?_
      rw [show xLow A m w = (-100000, aBad A) from if_neg (by omega)]
      exact ⟨rfl, cs_bad hC, (FM.u FM.rf (by decide))⟩
  · refine nz_if_eq_t (tgt := 19) (g_d dtbX10_low_0 4 rfl) (by omega) rfl (by omega) ?_
    refine cz_aload_n (pc' := 20) (g_d dtbX10_low_0 10 rfl) rfl rfl ?_
    refine nz_ldc (pc' := 22) (v := -100000) (g_d dtbX10_low_0 11 rfl) kn_X10_142 rfl ?_
    refine nz_cVi (M' := mX10_refuseBad) (k := 0) (As := [iv (-100000)]) (S := []) (L := [some (.ref 0), some (iv (m)), some (iv (w))]) (pc' := 25) (g_d dtbX10_low_0 12 rfl) lk_X10_57 okX10_refuseBad (by decide) rfl rfl rfl rfl (Nat.le_of_ble_eq_true rfl) (Nat.le_of_ble_eq_true rfl) (by decide) rfl (c_refuseBad G Z (-100000)) ?_
    rintro _ _ ⟨rfl, rfl⟩
    refine nz_ri .int (g_d dtbX10_low_0 13 rfl) rfl rfl ?_
    rw [show xLow A m w = (-100000, aBad A) from if_neg (by omega)]
    exact ⟨rfl, cs_bad hC, (FM.u FM.rf (by decide))⟩

set_option maxRecDepth 20000 in
set_option maxHeartbeats 4000000 in
theorem a_below (G : Wd) (Z : ZS) (A : AS) (B : Int) (hC : CS Z A) (hA : AO B A) : Cn G mX10_below 0 [some (.ref 0)] [] Z (qi (fun r W => (xBelow A).1 = r ∧ CS W (xBelow A).2 ∧ FM Z W)) := by
  have hB := hC.1
  have hb0 := hA.1
  have hO := hA.2.1
  have h6 : 0 ≤ A.1 6 ∧ A.1 6 ≤ 7 := hO.2.1
  have h28 : 0 ≤ A.1 28 ∧ A.1 28 ≤ 6 := hO.2.2.2.1
  have h59 : 0 ≤ A.1 59 ∧ A.1 59 ≤ 8 := hO.2.2.2.2.2.1
  have hf := hO.1
  unfold FO at hf
  have hct := hA.2.2.2.2.2.2
  refine cz_aload_n (pc' := 1) (g_d dtbX10_below_0 0 rfl) rfl rfl ?_
  refine nz_bipush (pc' := 3) (g_d dtbX10_below_0 1 rfl) (by decide) rfl ?_
  refine nz_cVv (M' := mX10_foresee) (k := 0) (As := [iv 99]) (S := []) (L := [some (.ref 0)]) (pc' := 6) (g_d dtbX10_below_0 2 rfl) lk_X10_143 okX10_foresee (by decide) rfl rfl rfl rfl (Nat.le_of_ble_eq_true rfl) (Nat.le_of_ble_eq_true rfl) (by decide) rfl (c_foresee G Z A B hC hA 99 (by omega)) ?_
  rintro V1 ⟨⟨v3, v4, v5, v6, v7⟩, hs_V1, hm_V1, hl_V1⟩
  refine cz_aload_n (pc' := 7) (g_d dtbX10_below_0 3 rfl) rfl rfl ?_
  refine nz_getf (v := .ref 24) (pc' := 10) (g_d dtbX10_below_0 4 rfl) gf_X10_36 (by decide) rfl rfl rfl ?_
  refine nz_getf (v := iv (rBl (gA A) (A.1 5) (A.1 0) 99)) (pc' := 13) (g_d dtbX10_below_0 5 rfl) gf_X10_158 (by decide) rfl (congrArg iv (v7)) rfl ?_
  refine nz_ri .int (g_d dtbX10_below_0 6 rfl) rfl rfl ?_
  exact ⟨rfl, hC.sc hs_V1, hm_V1⟩

set_option maxRecDepth 20000 in
set_option maxHeartbeats 4000000 in
theorem a_most (G : Wd) (Z : ZS) (A : AS) (B : Int) (hC : CS Z A) (hA : AO B A) (m : Int) (hm : -2147483648 ≤ m ∧ m ≤ 2147483647) : Cn G mX10_most 0 [some (.ref 0), some (iv (m)), none] [] Z (qi (fun r W => (xMost A m).1 = r ∧ CS W (xMost A m).2 ∧ FM Z W)) := by
  have hB := hC.1
  have hb0 := hA.1
  have hO := hA.2.1
  have h6 : 0 ≤ A.1 6 ∧ A.1 6 ≤ 7 := hO.2.1
  have h28 : 0 ≤ A.1 28 ∧ A.1 28 ≤ 6 := hO.2.2.2.1
  have h59 : 0 ≤ A.1 59 ∧ A.1 59 ≤ 8 := hO.2.2.2.2.2.1
  have hf := hO.1
  unfold FO at hf
  have hct := hA.2.2.2.2.2.2
  refine cz_iload_n (pc' := 1) (g_d dtbX10_most_0 0 rfl) rfl rfl ?_
  refine nz_iconst (pc' := 2) (g_d dtbX10_most_0 1 rfl) rfl ?_
  refine nz_bipush (pc' := 4) (g_d dtbX10_most_0 2 rfl) (by decide) rfl ?_
  refine nz_cSi (M' := mX10_within) (As := [iv (m), iv 1, iv 99]) (S := []) (L := [some (.ref 0), some (iv (m)), none]) (pc' := 7) (g_d dtbX10_most_0 3 rfl) lk_X10_53 okX10_within rfl rfl (Nat.le_of_ble_eq_true rfl) (Nat.le_of_ble_eq_true rfl) (by decide) rfl (c_within G Z m 1 99 (by omega) (by omega) (by omega)) ?_
  rintro _ _ ⟨rfl, ⟨rfl, hw4⟩ | ⟨rfl, hw4⟩⟩
  · refine nz_if_ne_t (tgt := 17) (g_d dtbX10_most_0 4 rfl) (by omega) rfl (by omega) ?_
    obtain ⟨N, rfl⟩ : ∃ N : Nat, m = (N : Int) := ⟨m.toNat, by omega⟩
    refine cz_aload_n (pc' := 18) (g_d dtbX10_most_0 9 rfl) rfl rfl ?_
    refine nz_getf (v := .ref 24) (pc' := 21) (g_d dtbX10_most_0 10 rfl) gf_X10_36 (by decide) rfl rfl rfl ?_
    refine cz_aload_n (pc' := 22) (g_d dtbX10_most_0 11 rfl) rfl rfl ?_
    refine nz_getf (v := .ref 1) (pc' := 25) (g_d dtbX10_most_0 12 rfl) gf_X10_10 (by decide) rfl rfl rfl ?_
    refine cz_iload_n (pc' := 26) (g_d dtbX10_most_0 13 rfl) rfl rfl ?_
    refine nz_cVv (M' := mX4_lay) (k := 24) (As := [.ref 1, iv ((N : Int))]) (S := []) (L := [some (.ref 0), some (iv ((N : Int))), none]) (pc' := 29) (g_d dtbX10_most_0 14 rfl) lk_X10_161 okX4_lay (by decide) rfl rfl rfl rfl (Nat.le_of_ble_eq_true rfl) (Nat.le_of_ble_eq_true rfl) (by decide) rfl (c_lay G Z N A.1 B hB hO (by omega) (by omega)) ?_
    rintro V1 e1
    have hs_V1 : Sc Z V1 := e1 ▸ zly_sc
    have hm_V1 : FM Z V1 := e1 ▸ zly_fm
    have hl_V1 : LD V1 N (gA A) := e1 ▸ zly_ld
    refine cz_aload_n (pc' := 30) (g_d dtbX10_most_0 15 rfl) rfl rfl ?_
    refine nz_getf (v := .ref 24) (pc' := 33) (g_d dtbX10_most_0 16 rfl) gf_X10_36 (by decide) rfl rfl rfl ?_
    refine cz_aload_n (pc' := 34) (g_d dtbX10_most_0 17 rfl) rfl rfl ?_
    refine nz_getf (v := .ref 1) (pc' := 37) (g_d dtbX10_most_0 18 rfl) gf_X10_10 (by decide) rfl rfl rfl ?_
    refine nz_getf (v := .ref 2) (pc' := 40) (g_d dtbX10_most_0 19 rfl) gf_X10_99 (by decide) rfl rfl rfl ?_
    refine nz_iconst (pc' := 41) (g_d dtbX10_most_0 20 rfl) rfl ?_
    refine nz_iald 0 (pc' := 42) (g_d dtbX10_most_0 21 rfl) (by decide) rfl (by omega) (by rfl) (by omega) rfl ?_
    rw [show V1 2 0 = A.1 0 from br1_fig (hC.br (hs_V1)) (by decide)]
    refine nz_cVi (M' := mX4_mostSpending) (k := 24) (As := [iv (A.1 0)]) (S := []) (L := [some (.ref 0), some (iv ((N : Int))), none]) (pc' := 45) (g_d dtbX10_most_0 22 rfl) lk_X10_165 okX4_mostSpending (by decide) rfl rfl rfl rfl (Nat.le_of_ble_eq_true rfl) (Nat.le_of_ble_eq_true rfl) (by decide) rfl (c_mostSpending G V1 N (A.1 0) hl_V1.1 (by omega) (fun i hi => by rw [hl_V1.2 i hi]; have := gA_in hA i; omega) (by omega)) ?_
    rintro _ _ ⟨rfl, rfl⟩
    rw [mS_ext hl_V1.2 N (Nat.le_refl _)]
    have hMS := mS_in (g := gA A) (a := A.1 0) (m := N) (fun i hi => by have := gA_in hA i; omega) (by omega) (by omega) N (Nat.le_refl _)
    refine cz_istore_n (L' := [some (.ref 0), some (iv ((N : Int))), some (iv (mS (gA A) (A.1 0) N))]) (pc' := 46) (g_d dtbX10_most_0 23 rfl) (by decide) rfl rfl ?_
    refine cz_iload_n (pc' := 47) (g_d dtbX10_most_0 24 rfl) rfl rfl ?_
    refine nz_if_ge (tgt := 54) (pc' := 50) (g_d dtbX10_most_0 25 rfl) (by omega) rfl rfl (fun h47 => ?_) (fun h47 => ?_)
    · refine cz_iload_n (pc' := 55) (g_d dtbX10_most_0 28 rfl) rfl rfl ?_
      refine nz_ri .int (g_d dtbX10_most_0 29 rfl) rfl rfl ?_
      rw [show xMost A (N : Int) = (mS (gA A) (A.1 0) N, A) from by unfold xMost; rw [if_pos (by omega), Int.toNat_natCast, if_neg (by omega)]]
      exact ⟨rfl, hC.sc hs_V1, hm_V1⟩
    · refine nz_iconst (pc' := 51) (g_d dtbX10_most_0 26 rfl) rfl ?_
      refine cz_goto (pc' := 55) (g_d dtbX10_most_0 27 rfl) rfl ?_
      refine nz_ri .int (g_d dtbX10_most_0 29 rfl) rfl rfl ?_
      rw [show xMost A (N : Int) = (-1, A) from by unfold xMost; rw [if_pos (by omega), Int.toNat_natCast, if_pos (by omega)]]
      exact ⟨rfl, hC.sc hs_V1, hm_V1⟩
  · refine nz_if_ne_f (pc' := 10) (g_d dtbX10_most_0 4 rfl) (by omega) (by decide) rfl (by omega) ?_
    refine cz_aload_n (pc' := 11) (g_d dtbX10_most_0 5 rfl) rfl rfl ?_
    refine nz_bipush (pc' := 13) (g_d dtbX10_most_0 6 rfl) (by decide) rfl ?_
    refine nz_cVi (M' := mX10_refuseBad) (k := 0) (As := [iv (-2)]) (S := []) (L := [some (.ref 0), some (iv (m)), none]) (pc' := 16) (g_d dtbX10_most_0 7 rfl) lk_X10_57 okX10_refuseBad (by decide) rfl rfl rfl rfl (Nat.le_of_ble_eq_true rfl) (Nat.le_of_ble_eq_true rfl) (by decide) rfl (c_refuseBad G Z (-2)) ?_
    rintro _ _ ⟨rfl, rfl⟩
    refine nz_ri .int (g_d dtbX10_most_0 8 rfl) rfl rfl ?_
    rw [show xMost A m = (-2, aBad A) from if_neg (by omega)]
    exact ⟨rfl, cs_bad hC, (FM.u FM.rf (by decide))⟩

set_option maxRecDepth 20000 in
set_option maxHeartbeats 4000000 in
theorem a_need (G : Wd) (Z : ZS) (A : AS) (B : Int) (hC : CS Z A) (hA : AO B A) (m : Int) (hm : -2147483648 ≤ m ∧ m ≤ 2147483647) : Cn G mX10_need 0 [some (.ref 0), some (iv (m)), none] [] Z (qi (fun r W => (xNeed A m).1 = r ∧ CS W (xNeed A m).2 ∧ FM Z W)) := by
  have hB := hC.1
  have hb0 := hA.1
  have hO := hA.2.1
  have h6 : 0 ≤ A.1 6 ∧ A.1 6 ≤ 7 := hO.2.1
  have h28 : 0 ≤ A.1 28 ∧ A.1 28 ≤ 6 := hO.2.2.2.1
  have h59 : 0 ≤ A.1 59 ∧ A.1 59 ≤ 8 := hO.2.2.2.2.2.1
  have hf := hO.1
  unfold FO at hf
  have hct := hA.2.2.2.2.2.2
  refine cz_iload_n (pc' := 1) (g_d dtbX10_need_0 0 rfl) rfl rfl ?_
  refine nz_iconst (pc' := 2) (g_d dtbX10_need_0 1 rfl) rfl ?_
  refine nz_bipush (pc' := 4) (g_d dtbX10_need_0 2 rfl) (by decide) rfl ?_
  refine nz_cSi (M' := mX10_within) (As := [iv (m), iv 1, iv 99]) (S := []) (L := [some (.ref 0), some (iv (m)), none]) (pc' := 7) (g_d dtbX10_need_0 3 rfl) lk_X10_53 okX10_within rfl rfl (Nat.le_of_ble_eq_true rfl) (Nat.le_of_ble_eq_true rfl) (by decide) rfl (c_within G Z m 1 99 (by omega) (by omega) (by omega)) ?_
  rintro _ _ ⟨rfl, ⟨rfl, hw4⟩ | ⟨rfl, hw4⟩⟩
  · refine nz_if_ne_t (tgt := 17) (g_d dtbX10_need_0 4 rfl) (by omega) rfl (by omega) ?_
    obtain ⟨N, rfl⟩ : ∃ N : Nat, m = (N : Int) := ⟨m.toNat, by omega⟩
    refine cz_aload_n (pc' := 18) (g_d dtbX10_need_0 9 rfl) rfl rfl ?_
    refine nz_getf (v := .ref 24) (pc' := 21) (g_d dtbX10_need_0 10 rfl) gf_X10_36 (by decide) rfl rfl rfl ?_
    refine cz_aload_n (pc' := 22) (g_d dtbX10_need_0 11 rfl) rfl rfl ?_
    refine nz_getf (v := .ref 1) (pc' := 25) (g_d dtbX10_need_0 12 rfl) gf_X10_10 (by decide) rfl rfl rfl ?_
    refine cz_iload_n (pc' := 26) (g_d dtbX10_need_0 13 rfl) rfl rfl ?_
    refine nz_cVv (M' := mX4_lay) (k := 24) (As := [.ref 1, iv ((N : Int))]) (S := []) (L := [some (.ref 0), some (iv ((N : Int))), none]) (pc' := 29) (g_d dtbX10_need_0 14 rfl) lk_X10_161 okX4_lay (by decide) rfl rfl rfl rfl (Nat.le_of_ble_eq_true rfl) (Nat.le_of_ble_eq_true rfl) (by decide) rfl (c_lay G Z N A.1 B hB hO (by omega) (by omega)) ?_
    rintro V1 e1
    have hs_V1 : Sc Z V1 := e1 ▸ zly_sc
    have hm_V1 : FM Z V1 := e1 ▸ zly_fm
    have hl_V1 : LD V1 N (gA A) := e1 ▸ zly_ld
    refine cz_aload_n (pc' := 30) (g_d dtbX10_need_0 15 rfl) rfl rfl ?_
    refine nz_getf (v := .ref 24) (pc' := 33) (g_d dtbX10_need_0 16 rfl) gf_X10_36 (by decide) rfl rfl rfl ?_
    refine cz_aload_n (pc' := 34) (g_d dtbX10_need_0 17 rfl) rfl rfl ?_
    refine nz_getf (v := .ref 1) (pc' := 37) (g_d dtbX10_need_0 18 rfl) gf_X10_10 (by decide) rfl rfl rfl ?_
    refine nz_getf (v := .ref 2) (pc' := 40) (g_d dtbX10_need_0 19 rfl) gf_X10_99 (by decide) rfl rfl rfl ?_
    refine nz_iconst (pc' := 41) (g_d dtbX10_need_0 20 rfl) rfl ?_
    refine nz_iald 0 (pc' := 42) (g_d dtbX10_need_0 21 rfl) (by decide) rfl (by omega) (by rfl) (by omega) rfl ?_
    rw [show V1 2 0 = A.1 0 from br1_fig (hC.br (hs_V1)) (by decide)]
    refine cz_aload_n (pc' := 43) (g_d dtbX10_need_0 22 rfl) rfl rfl ?_
    refine nz_getf (v := .ref 1) (pc' := 46) (g_d dtbX10_need_0 23 rfl) gf_X10_10 (by decide) rfl rfl rfl ?_
    refine nz_getf (v := .ref 2) (pc' := 49) (g_d dtbX10_need_0 24 rfl) gf_X10_99 (by decide) rfl rfl rfl ?_
    refine nz_iconst (pc' := 50) (g_d dtbX10_need_0 25 rfl) rfl ?_
    refine nz_iald 5 (pc' := 51) (g_d dtbX10_need_0 26 rfl) (by decide) rfl (by omega) (by rfl) (by omega) rfl ?_
    rw [show V1 2 5 = A.1 5 from br1_fig (hC.br (hs_V1)) (by decide)]
    refine nz_cVi (M' := mX4_leastMore) (k := 24) (As := [iv (A.1 0), iv (A.1 5)]) (S := []) (L := [some (.ref 0), some (iv ((N : Int))), none]) (pc' := 54) (g_d dtbX10_need_0 27 rfl) lk_X10_168 okX4_leastMore (by decide) rfl rfl rfl rfl (Nat.le_of_ble_eq_true rfl) (Nat.le_of_ble_eq_true rfl) (by decide) rfl (c_leastMore G V1 N (A.1 5) (A.1 0) hl_V1.1 (by omega) (fun i hi => by rw [hl_V1.2 i hi]; have := gA_in hA i; omega) (by omega) (by omega)) ?_
    rintro _ _ ⟨rfl, rfl⟩
    rw [lM_ext hl_V1.2 N (Nat.le_refl _)]
    have hMS := lM_in (g := gA A) (sp := A.1 5) (a := A.1 0) (m := N) (fun i hi => by have := gA_in hA i; omega) (by omega) (by omega) (by omega) N (Nat.le_refl _)
    refine cz_istore_n (L' := [some (.ref 0), some (iv ((N : Int))), some (iv (lM (gA A) (A.1 5) (A.1 0) N))]) (pc' := 55) (g_d dtbX10_need_0 28 rfl) (by decide) rfl rfl ?_
    refine cz_iload_n (pc' := 56) (g_d dtbX10_need_0 29 rfl) rfl rfl ?_
    refine nz_sipush (pc' := 59) (g_d dtbX10_need_0 30 rfl) (by decide) rfl ?_
    refine nz_icmp_le (tgt := 66) (pc' := 62) (g_d dtbX10_need_0 31 rfl) (by omega) (by omega) rfl rfl (fun h59 => ?_) (fun h59 => ?_)
    · refine cz_iload_n (pc' := 67) (g_d dtbX10_need_0 34 rfl) rfl rfl ?_
      refine nz_ri .int (g_d dtbX10_need_0 35 rfl) rfl rfl ?_
      rw [show xNeed A (N : Int) = (lM (gA A) (A.1 5) (A.1 0) N, A) from by unfold xNeed; rw [if_pos (by omega), Int.toNat_natCast, if_neg (by omega)]]
      exact ⟨rfl, hC.sc hs_V1, hm_V1⟩
    · refine nz_iconst (pc' := 63) (g_d dtbX10_need_0 32 rfl) rfl ?_
      refine cz_goto (pc' := 67) (g_d dtbX10_need_0 33 rfl) rfl ?_
      refine nz_ri .int (g_d dtbX10_need_0 35 rfl) rfl rfl ?_
      rw [show xNeed A (N : Int) = (-1, A) from by unfold xNeed; rw [if_pos (by omega), Int.toNat_natCast, if_pos (by omega)]]
      exact ⟨rfl, hC.sc hs_V1, hm_V1⟩
  · refine nz_if_ne_f (pc' := 10) (g_d dtbX10_need_0 4 rfl) (by omega) (by decide) rfl (by omega) ?_
    refine cz_aload_n (pc' := 11) (g_d dtbX10_need_0 5 rfl) rfl rfl ?_
    refine nz_bipush (pc' := 13) (g_d dtbX10_need_0 6 rfl) (by decide) rfl ?_
    refine nz_cVi (M' := mX10_refuseBad) (k := 0) (As := [iv (-2)]) (S := []) (L := [some (.ref 0), some (iv (m)), none]) (pc' := 16) (g_d dtbX10_need_0 7 rfl) lk_X10_57 okX10_refuseBad (by decide) rfl rfl rfl rfl (Nat.le_of_ble_eq_true rfl) (Nat.le_of_ble_eq_true rfl) (by decide) rfl (c_refuseBad G Z (-2)) ?_
    rintro _ _ ⟨rfl, rfl⟩
    refine nz_ri .int (g_d dtbX10_need_0 8 rfl) rfl rfl ?_
    rw [show xNeed A m = (-2, aBad A) from if_neg (by omega)]
    exact ⟨rfl, cs_bad hC, (FM.u FM.rf (by decide))⟩
end
section
/-! bills moved, bills left out -/
theorem LD.ext {W : ZS} {m : Nat} {g h : Row} (a : LD W m g) (e : ∀ i, i < m → h i = g i) : LD W m h := ⟨a.1, fun i hi => (a.2 i hi).trans (e i hi).symm⟩
theorem zad_ld {Z : ZS} {c g : Row} {m : Nat} (h : LD Z m g) : LD (zad Z c m m) m (fun i => g i + c i) := ⟨by rw [zad, zr_ne (by omega)]; exact h.1, fun i hi => by simp [zad, zr, hi, h.2 i hi]⟩
theorem zad_sc {Z : ZS} {c : Row} {j m : Nat} : Sc Z (zad Z c j m) := ⟨fun a ha => by rw [zad, zr_ne (by omega)], by rw [zad, zr_ne (by omega)]⟩
theorem zad_fm {Z : ZS} {c : Row} {j m : Nat} : FM Z (zad Z c j m) := fun a ha => by rw [zad, zr_ne (by omega)]
def pB (A : AS) (b : Nat) (d : Int) (i : Nat) : Int := pA A.1 (A.1 (7 + b)) d (A.1 (21 + b)) i
def gMv (A : AS) (b : Nat) (d : Int) : Row := fun i => gA A i + -1 * pB A b (A.1 (14 + b)) i + 1 * pB A b d i
def gLs (A : AS) (b : Nat) : Row := fun i => gA A i + -1 * pB A b (A.1 (14 + b)) i
def mvS (A : AS) (b : Nat) (s : Int × Int) : Nat → Int × Int
  | 0 => s
  | d + 1 => if rC (gMv A b ((d : Int) + 1)) (A.1 5) (A.1 0) 28 < (mvS A b s d).1 then (rC (gMv A b ((d : Int) + 1)) (A.1 5) (A.1 0) 28, 100 * (b : Int) + ((d : Int) + 1)) else mvS A b s d
def mvB (A : AS) : Nat → Int × Int
  | 0 => (rC (gA A) (A.1 5) (A.1 0) 28, -1)
  | b + 1 => mvS A b (mvB A b) 28
def xMove (A : AS) : Int × AS := ((mvB A (A.1 6).toNat).2, A)
def drS (A : AS) : Nat → Int × Int
  | 0 => (-1, 0)
  | b + 1 => if (drS A b).1 = -1 ∨ rC (gLs A b) (A.1 5) (A.1 0) 28 < (drS A b).2 then ((b : Int), rC (gLs A b) (A.1 5) (A.1 0) 28) else drS A b
def xDear (A : AS) : Int × AS := ((drS A (A.1 6).toNat).1, A)
theorem mvS_in {A : AS} {b : Nat} {s : Int × Int} (hs : 0 ≤ s.1 ∧ s.1 ≤ 28) : ∀ d, 0 ≤ (mvS A b s d).1 ∧ (mvS A b s d).1 ≤ 28 := by
  intro d
  induction d with
  | zero => exact hs
  | succ d ih =>
    simp only [mvS]
    split
    · have := rC_in (g := gMv A b ((d : Int) + 1)) (sp := A.1 5) (a := A.1 0) 28
      dsimp only
      omega
    · exact ih
theorem mvB_in {A : AS} : ∀ b, 0 ≤ (mvB A b).1 ∧ (mvB A b).1 ≤ 28 := by
  intro b
  induction b with
  | zero =>
    have := rC_in (g := gA A) (sp := A.1 5) (a := A.1 0) 28
    simp only [mvB]
    omega
  | succ b ih => exact mvS_in ih 28
theorem drS_in {A : AS} : ∀ b : Nat, b ≤ 7 → (-1 ≤ (drS A b).1 ∧ (drS A b).1 ≤ 7) ∧ 0 ≤ (drS A b).2 ∧ (drS A b).2 ≤ 28 := by
  intro b
  induction b with
  | zero => intro _; simp [drS]
  | succ b ih =>
    intro hb
    have h1 := ih (by omega)
    simp only [drS]
    split
    · have := rC_in (g := gLs A b) (sp := A.1 5) (a := A.1 0) 28
      simp only
      omega
    · exact h1
theorem pB_in {B : Int} {A : AS} (h : AO B A) {b : Nat} (hb : b < 7) (hb2 : (b : Int) < A.1 6) (d : Int) (i : Nat) : -99 ≤ pB A b d i ∧ pB A b d i ≤ 990 := by
  have := (h.2.1.2.2.1 b hb hb2).2.2
  exact pA_in (by omega)

set_option maxRecDepth 20000 in
set_option maxHeartbeats 4000000 in
theorem c_chAsLaid (G : Wd) (W : ZS) (A : AS) (B : Int) (m : Nat) (g : Row) (hBW : BR W 1 A.1) (hA : AO B A) (hl : LD W m g) (hm : m ≤ 99) (hg : ∀ i, i < m → -1000000 ≤ g i ∧ g i ≤ 1000000) : Cn G mX10_chargesAsLaid 0 [some (.ref 0)] [] W (qi (fun r V => rC g (A.1 5) (A.1 0) m = r ∧ Sc W V ∧ FM W V ∧ LD V m g)) := by
  have hb0 := hA.1
  have hO := hA.2.1
  have hf := hO.1
  unfold FO at hf
  refine cz_aload_n (pc' := 1) (g_d dtbX10_chargesAsLaid_0 0 rfl) rfl rfl ?_
  refine nz_getf (v := .ref 24) (pc' := 4) (g_d dtbX10_chargesAsLaid_0 1 rfl) gf_X10_36 (by decide) rfl rfl rfl ?_
  refine cz_aload_n (pc' := 5) (g_d dtbX10_chargesAsLaid_0 2 rfl) rfl rfl ?_
  refine nz_getf (v := .ref 1) (pc' := 8) (g_d dtbX10_chargesAsLaid_0 3 rfl) gf_X10_10 (by decide) rfl rfl rfl ?_
  refine nz_getf (v := .ref 2) (pc' := 11) (g_d dtbX10_chargesAsLaid_0 4 rfl) gf_X10_99 (by decide) rfl rfl rfl ?_
  refine nz_iconst (pc' := 12) (g_d dtbX10_chargesAsLaid_0 5 rfl) rfl ?_
  refine nz_iald 0 (pc' := 13) (g_d dtbX10_chargesAsLaid_0 6 rfl) (by decide) rfl (by omega) (by rfl) (by omega) rfl ?_
  rw [show W 2 0 = A.1 0 from br1_fig hBW (by decide)]
  refine cz_aload_n (pc' := 14) (g_d dtbX10_chargesAsLaid_0 7 rfl) rfl rfl ?_
  refine nz_getf (v := .ref 1) (pc' := 17) (g_d dtbX10_chargesAsLaid_0 8 rfl) gf_X10_10 (by decide) rfl rfl rfl ?_
  refine nz_getf (v := .ref 2) (pc' := 20) (g_d dtbX10_chargesAsLaid_0 9 rfl) gf_X10_99 (by decide) rfl rfl rfl ?_
  refine nz_iconst (pc' := 21) (g_d dtbX10_chargesAsLaid_0 10 rfl) rfl ?_
  refine nz_iald 5 (pc' := 22) (g_d dtbX10_chargesAsLaid_0 11 rfl) (by decide) rfl (by omega) (by rfl) (by omega) rfl ?_
  rw [show W 2 5 = A.1 5 from br1_fig hBW (by decide)]
  refine nz_cVv (M' := mX4_run) (k := 24) (As := [iv (A.1 0), iv (A.1 5)]) (S := []) (L := [some (.ref 0)]) (pc' := 25) (g_d dtbX10_chargesAsLaid_0 12 rfl) lk_X10_199 okX4_run (by decide) rfl rfl rfl rfl (Nat.le_of_ble_eq_true rfl) (Nat.le_of_ble_eq_true rfl) (by decide) rfl (c_run G W m (A.1 5) (A.1 0) hl.1 hm (fun i hi => by rw [hl.2 i hi]; exact hg i hi) (by omega) (by omega)) ?_
  rintro V eV
  have q := run_sh (sp := A.1 5) (a := A.1 0) hl
  rw [eV] at q
  refine cz_aload_n (pc' := 26) (g_d dtbX10_chargesAsLaid_0 13 rfl) rfl rfl ?_
  refine nz_getf (v := .ref 24) (pc' := 29) (g_d dtbX10_chargesAsLaid_0 14 rfl) gf_X10_36 (by decide) rfl rfl rfl ?_
  refine nz_getf (v := iv (rC g (A.1 5) (A.1 0) m)) (pc' := 32) (g_d dtbX10_chargesAsLaid_0 15 rfl) gf_X10_149 (by decide) rfl (congrArg iv (q.2.1)) rfl ?_
  refine nz_ri .int (g_d dtbX10_chargesAsLaid_0 16 rfl) rfl rfl ?_
  exact ⟨rfl, eV ▸ zrun_sc, eV ▸ zrun_fm, eV ▸ zrun_ld hl⟩

set_option maxRecDepth 20000 in
set_option maxHeartbeats 4000000 in
theorem l_move1 (G : Wd) (Z : ZS) (A : AS) (B : Int) (hC : CS Z A) (hA : AO B A) (n κ : Nat) (s0 : Int × Int) (hs0 : 0 ≤ s0.1 ∧ s0.1 ≤ 28) (hn7 : n < 7) (hn2 : (n : Int) < A.1 6) (hκ : A.1 (7 + n) = (κ : Int)) (hκ6 : κ < 6) (hk : ∀ W, Sc Z W → FM Z W → LD W 28 (gLs A n) → Cn G mX10_move 123 [some (.ref 0), some (iv (mvS A n s0 28).1), some (iv (mvS A n s0 28).2), some (iv (n : Int)), some (iv (((28 : Nat) : Int) + 1)), none] [] W (qi (fun r V => (xMove A).1 = r ∧ CS V (xMove A).2 ∧ FM Z V))) : ∀ (d : Nat) (e : Nat) (W : ZS), 28 - e = d → e ≤ 28 → Sc Z W → FM Z W → LD W 28 (gLs A n) → Cn G mX10_move 57 [some (.ref 0), some (iv ((mvS A n s0 e).1)), some (iv ((mvS A n s0 e).2)), some (iv ((n : Int))), some (iv ((e : Int) + 1)), none] [] W (qi (fun r V => (xMove A).1 = r ∧ CS V (xMove A).2 ∧ FM Z V)) := by
  intro d
  induction d using Nat.strongRecOn with
  | ind d ih =>
    intro e W hd he hs_W hm_W hl_W
    have hB := hC.1
    have hb0 := hA.1
    have hO := hA.2.1
    have h6 : 0 ≤ A.1 6 ∧ A.1 6 ≤ 7 := hO.2.1
    have h28 : 0 ≤ A.1 28 ∧ A.1 28 ≤ 6 := hO.2.2.2.1
    have h59 : 0 ≤ A.1 59 ∧ A.1 59 ≤ 8 := hO.2.2.2.2.2.1
    have hf := hO.1
    unfold FO at hf
    have hct := hA.2.2.2.2.2.2
    have hmv := mvS_in (A := A) (b := n) hs0 e
    have hch := rC_in (g := gMv A n ((e : Int) + 1)) (sp := A.1 5) (a := A.1 0) 28
    refine cz_iload (pc' := 59) (g_d dtbX10_move_0 31 rfl) rfl rfl ?_
    refine nz_bipush (pc' := 61) (g_d dtbX10_move_0 32 rfl) (by decide) rfl ?_
    refine nz_icmp_gt (tgt := 123) (pc' := 64) (g_d dtbX10_move_0 33 rfl) (by omega) (by omega) rfl rfl (fun h61 => ?_) (fun h61 => ?_)
    · have he : e = 28 := by omega
      subst he
      exact hk W hs_W hm_W hl_W
    · refine cz_aload_n (pc' := 65) (g_d dtbX10_move_0 34 rfl) rfl rfl ?_
      refine nz_getf (v := .ref 24) (pc' := 68) (g_d dtbX10_move_0 35 rfl) gf_X10_36 (by decide) rfl rfl rfl ?_
      refine cz_aload_n (pc' := 69) (g_d dtbX10_move_0 36 rfl) rfl rfl ?_
      refine nz_getf (v := .ref 1) (pc' := 72) (g_d dtbX10_move_0 37 rfl) gf_X10_10 (by decide) rfl rfl rfl ?_
      refine cz_iload_n (pc' := 73) (g_d dtbX10_move_0 38 rfl) rfl rfl ?_
      refine cz_iload (pc' := 75) (g_d dtbX10_move_0 39 rfl) rfl rfl ?_
      refine nz_iconst (pc' := 76) (g_d dtbX10_move_0 40 rfl) rfl ?_
      refine nz_cVv (M' := mX4_put) (k := 24) (As := [.ref 1, iv ((n : Int)), iv ((e : Int) + 1), iv 1]) (S := []) (L := [some (.ref 0), some (iv ((mvS A n s0 e).1)), some (iv ((mvS A n s0 e).2)), some (iv ((n : Int))), some (iv ((e : Int) + 1)), none]) (pc' := 79) (g_d dtbX10_move_0 41 rfl) lk_X10_174 okX4_put (by decide) rfl rfl rfl rfl (Nat.le_of_ble_eq_true rfl) (Nat.le_of_ble_eq_true rfl) (by decide) rfl (c_put G W n κ 28 A.1 B ((e : Int) + 1) 1 (hC.br hs_W) hO (by omega) hl_W.1 (by decide) hn7 hn2 hκ hκ6 (by omega)) ?_
      rintro W1 eW1
      rw [← hκ] at eW1
      have hs_W1 : Sc Z W1 := Sc.tr hs_W (eW1 ▸ zad_sc)
      have hm_W1 : FM Z W1 := FM.tr hm_W (eW1 ▸ zad_fm)
      have hl_W1 : LD W1 28 (gMv A n ((e : Int) + 1)) := LD.ext (eW1 ▸ zad_ld hl_W) (fun i hi => by simp only [gMv, gLs, pB])
      refine cz_aload_n (pc' := 80) (g_d dtbX10_move_0 42 rfl) rfl rfl ?_
      refine nz_cVi (M' := mX10_chargesAsLaid) (k := 0) (As := []) (S := []) (L := [some (.ref 0), some (iv ((mvS A n s0 e).1)), some (iv ((mvS A n s0 e).2)), some (iv ((n : Int))), some (iv ((e : Int) + 1)), none]) (pc' := 83) (g_d dtbX10_move_0 43 rfl) lk_X10_171 okX10_chargesAsLaid (by decide) rfl rfl rfl rfl (Nat.le_of_ble_eq_true rfl) (Nat.le_of_ble_eq_true rfl) (by decide) rfl (c_chAsLaid G W1 A B 28 (gMv A n ((e : Int) + 1)) (hC.br hs_W1) hA hl_W1 (by decide) (fun i hi => by have h1 := gA_in hA i; have p0 := pB_in hA hn7 hn2 (A.1 (14 + n)) i; have p1 := pB_in hA hn7 hn2 ((e : Int) + 1) i; (try simp only [gMv, gLs]); omega)) ?_
      rintro _ W2 ⟨rfl, c1, c2, hl_W2⟩
      have hs_W2 : Sc Z W2 := Sc.tr hs_W1 c1
      have hm_W2 : FM Z W2 := FM.tr hm_W1 c2
      refine cz_istore (L' := [some (.ref 0), some (iv ((mvS A n s0 e).1)), some (iv ((mvS A n s0 e).2)), some (iv ((n : Int))), some (iv ((e : Int) + 1)), some (iv (rC (gMv A n ((e : Int) + 1)) (A.1 5) (A.1 0) 28))]) (pc' := 85) (g_d dtbX10_move_0 44 rfl) (by decide) rfl rfl ?_
      refine cz_iload (pc' := 87) (g_d dtbX10_move_0 45 rfl) rfl rfl ?_
      refine cz_iload_n (pc' := 88) (g_d dtbX10_move_0 46 rfl) rfl rfl ?_
      refine nz_icmp_ge (tgt := 102) (pc' := 91) (g_d dtbX10_move_0 47 rfl) (by omega) (by omega) rfl rfl (fun h88 => ?_) (fun h88 => ?_)
      · refine cz_aload_n (pc' := 103) (g_d dtbX10_move_0 56 rfl) rfl rfl ?_
        refine nz_getf (v := .ref 24) (pc' := 106) (g_d dtbX10_move_0 57 rfl) gf_X10_36 (by decide) rfl rfl rfl ?_
        refine cz_aload_n (pc' := 107) (g_d dtbX10_move_0 58 rfl) rfl rfl ?_
        refine nz_getf (v := .ref 1) (pc' := 110) (g_d dtbX10_move_0 59 rfl) gf_X10_10 (by decide) rfl rfl rfl ?_
        refine cz_iload_n (pc' := 111) (g_d dtbX10_move_1 0 rfl) rfl rfl ?_
        refine cz_iload (pc' := 113) (g_d dtbX10_move_1 1 rfl) rfl rfl ?_
        refine nz_iconst (pc' := 114) (g_d dtbX10_move_1 2 rfl) rfl ?_
        refine nz_cVv (M' := mX4_put) (k := 24) (As := [.ref 1, iv ((n : Int)), iv ((e : Int) + 1), iv (-1)]) (S := []) (L := [some (.ref 0), some (iv ((mvS A n s0 e).1)), some (iv ((mvS A n s0 e).2)), some (iv ((n : Int))), some (iv ((e : Int) + 1)), some (iv (rC (gMv A n ((e : Int) + 1)) (A.1 5) (A.1 0) 28))]) (pc' := 117) (g_d dtbX10_move_1 3 rfl) lk_X10_174 okX4_put (by decide) rfl rfl rfl rfl (Nat.le_of_ble_eq_true rfl) (Nat.le_of_ble_eq_true rfl) (by decide) rfl (c_put G W2 n κ 28 A.1 B ((e : Int) + 1) (-1) (hC.br hs_W2) hO (by omega) hl_W2.1 (by decide) hn7 hn2 hκ hκ6 (by omega)) ?_
        rintro W3 eW3
        rw [← hκ] at eW3
        have hs_W3 : Sc Z W3 := Sc.tr hs_W2 (eW3 ▸ zad_sc)
        have hm_W3 : FM Z W3 := FM.tr hm_W2 (eW3 ▸ zad_fm)
        have hl_W3 : LD W3 28 (gLs A n) := LD.ext (eW3 ▸ zad_ld hl_W2) (fun i hi => by simp only [gMv, gLs, pB]; omega)
        refine nz_iinc (L' := [some (.ref 0), some (iv ((mvS A n s0 e).1)), some (iv ((mvS A n s0 e).2)), some (iv ((n : Int))), some (iv (((e : Int) + 1) + 1)), some (iv (rC (gMv A n ((e : Int) + 1)) (A.1 5) (A.1 0) 28))]) (pc' := 120) (g_d dtbX10_move_1 4 rfl) (by decide) rfl rfl rfl ?_
        refine cz_goto (pc' := 57) (g_d dtbX10_move_1 5 rfl) rfl ?_
        refine cz_le [some (.ref 0), some (iv ((mvS A n s0 e).1)), some (iv ((mvS A n s0 e).2)), some (iv ((n : Int))), some (iv (((e : Int) + 1) + 1)), none] ⟨rfl, rfl, rfl, rfl, rfl, trivial⟩ ?_
        have em : mvS A n s0 (e + 1) = mvS A n s0 e := by simp only [mvS]; rw [if_neg (by omega)]
        have q := ih (28 - (e + 1)) (by omega) (e + 1) W3 rfl (by omega) hs_W3 hm_W3 hl_W3
        rw [em] at q
        exact q
      · refine cz_iload (pc' := 93) (g_d dtbX10_move_0 48 rfl) rfl rfl ?_
        refine cz_istore_n (L' := [some (.ref 0), some (iv (rC (gMv A n ((e : Int) + 1)) (A.1 5) (A.1 0) 28)), some (iv ((mvS A n s0 e).2)), some (iv ((n : Int))), some (iv ((e : Int) + 1)), some (iv (rC (gMv A n ((e : Int) + 1)) (A.1 5) (A.1 0) 28))]) (pc' := 94) (g_d dtbX10_move_0 49 rfl) (by decide) rfl rfl ?_
        refine nz_bipush (pc' := 96) (g_d dtbX10_move_0 50 rfl) (by decide) rfl ?_
        refine cz_iload_n (pc' := 97) (g_d dtbX10_move_0 51 rfl) rfl rfl ?_
        refine nz_imul (pc' := 98) (g_d dtbX10_move_0 52 rfl) rfl ?_
        refine cz_iload (pc' := 100) (g_d dtbX10_move_0 53 rfl) rfl rfl ?_
        refine nz_iadd (pc' := 101) (g_d dtbX10_move_0 54 rfl) rfl ?_
        refine cz_istore_n (L' := [some (.ref 0), some (iv (rC (gMv A n ((e : Int) + 1)) (A.1 5) (A.1 0) 28)), some (iv ((100 * ((n : Int))) + ((e : Int) + 1))), some (iv ((n : Int))), some (iv ((e : Int) + 1)), some (iv (rC (gMv A n ((e : Int) + 1)) (A.1 5) (A.1 0) 28))]) (pc' := 102) (g_d dtbX10_move_0 55 rfl) (by decide) rfl rfl ?_
        refine cz_aload_n (pc' := 103) (g_d dtbX10_move_0 56 rfl) rfl rfl ?_
        refine nz_getf (v := .ref 24) (pc' := 106) (g_d dtbX10_move_0 57 rfl) gf_X10_36 (by decide) rfl rfl rfl ?_
        refine cz_aload_n (pc' := 107) (g_d dtbX10_move_0 58 rfl) rfl rfl ?_
        refine nz_getf (v := .ref 1) (pc' := 110) (g_d dtbX10_move_0 59 rfl) gf_X10_10 (by decide) rfl rfl rfl ?_
        refine cz_iload_n (pc' := 111) (g_d dtbX10_move_1 0 rfl) rfl rfl ?_
        refine cz_iload (pc' := 113) (g_d dtbX10_move_1 1 rfl) rfl rfl ?_
        refine nz_iconst (pc' := 114) (g_d dtbX10_move_1 2 rfl) rfl ?_
        refine nz_cVv (M' := mX4_put) (k := 24) (As := [.ref 1, iv ((n : Int)), iv ((e : Int) + 1), iv (-1)]) (S := []) (L := [some (.ref 0), some (iv (rC (gMv A n ((e : Int) + 1)) (A.1 5) (A.1 0) 28)), some (iv ((100 * ((n : Int))) + ((e : Int) + 1))), some (iv ((n : Int))), some (iv ((e : Int) + 1)), some (iv (rC (gMv A n ((e : Int) + 1)) (A.1 5) (A.1 0) 28))]) (pc' := 117) (g_d dtbX10_move_1 3 rfl) lk_X10_174 okX4_put (by decide) rfl rfl rfl rfl (Nat.le_of_ble_eq_true rfl) (Nat.le_of_ble_eq_true rfl) (by decide) rfl (c_put G W2 n κ 28 A.1 B ((e : Int) + 1) (-1) (hC.br hs_W2) hO (by omega) hl_W2.1 (by decide) hn7 hn2 hκ hκ6 (by omega)) ?_
        rintro W3 eW3
        rw [← hκ] at eW3
        have hs_W3 : Sc Z W3 := Sc.tr hs_W2 (eW3 ▸ zad_sc)
        have hm_W3 : FM Z W3 := FM.tr hm_W2 (eW3 ▸ zad_fm)
        have hl_W3 : LD W3 28 (gLs A n) := LD.ext (eW3 ▸ zad_ld hl_W2) (fun i hi => by simp only [gMv, gLs, pB]; omega)
        refine nz_iinc (L' := [some (.ref 0), some (iv (rC (gMv A n ((e : Int) + 1)) (A.1 5) (A.1 0) 28)), some (iv ((100 * ((n : Int))) + ((e : Int) + 1))), some (iv ((n : Int))), some (iv (((e : Int) + 1) + 1)), some (iv (rC (gMv A n ((e : Int) + 1)) (A.1 5) (A.1 0) 28))]) (pc' := 120) (g_d dtbX10_move_1 4 rfl) (by decide) rfl rfl rfl ?_
        refine cz_goto (pc' := 57) (g_d dtbX10_move_1 5 rfl) rfl ?_
        refine cz_le [some (.ref 0), some (iv (rC (gMv A n ((e : Int) + 1)) (A.1 5) (A.1 0) 28)), some (iv ((100 * ((n : Int))) + ((e : Int) + 1))), some (iv ((n : Int))), some (iv (((e : Int) + 1) + 1)), none] ⟨rfl, rfl, rfl, rfl, rfl, trivial⟩ ?_
        have em : mvS A n s0 (e + 1) = (rC (gMv A n ((e : Int) + 1)) (A.1 5) (A.1 0) 28, 100 * (n : Int) + ((e : Int) + 1)) := by simp only [mvS]; rw [if_pos (by omega)]
        have q := ih (28 - (e + 1)) (by omega) (e + 1) W3 rfl (by omega) hs_W3 hm_W3 hl_W3
        rw [em] at q
        exact q

set_option maxRecDepth 20000 in
set_option maxHeartbeats 4000000 in
theorem l_move (G : Wd) (Z : ZS) (A : AS) (B : Int) (hC : CS Z A) (hA : AO B A) : ∀ (d : Nat) (n : Nat) (W : ZS), (A.1 6).toNat - n = d → (n : Int) ≤ A.1 6 → Sc Z W → FM Z W → LD W 28 (gA A) → Cn G mX10_move 22 [some (.ref 0), some (iv ((mvB A n).1)), some (iv ((mvB A n).2)), some (iv ((n : Int))), none, none] [] W (qi (fun r V => (xMove A).1 = r ∧ CS V (xMove A).2 ∧ FM Z V)) := by
  intro d
  induction d using Nat.strongRecOn with
  | ind d ih =>
    intro n W hd hn hs_W hm_W hl_W
    have hB := hC.1
    have hb0 := hA.1
    have hO := hA.2.1
    have h6 : 0 ≤ A.1 6 ∧ A.1 6 ≤ 7 := hO.2.1
    have h28 : 0 ≤ A.1 28 ∧ A.1 28 ≤ 6 := hO.2.2.2.1
    have h59 : 0 ≤ A.1 59 ∧ A.1 59 ≤ 8 := hO.2.2.2.2.2.1
    have hf := hO.1
    unfold FO at hf
    have hct := hA.2.2.2.2.2.2
    refine cz_iload_n (pc' := 23) (g_d dtbX10_move_0 13 rfl) rfl rfl ?_
    refine cz_aload_n (pc' := 24) (g_d dtbX10_move_0 14 rfl) rfl rfl ?_
    refine nz_getf (v := .ref 1) (pc' := 27) (g_d dtbX10_move_0 15 rfl) gf_X10_10 (by decide) rfl rfl rfl ?_
    refine nz_getf (v := iv (A.1 6)) (pc' := 30) (g_d dtbX10_move_0 16 rfl) gf_X10_61 (by decide) rfl (congrArg iv (br1_4 (hC.br hs_W))) rfl ?_
    refine nz_icmp_ge (tgt := 150) (pc' := 33) (g_d dtbX10_move_0 17 rfl) (by omega) (by omega) rfl rfl (fun h30 => ?_) (fun h30 => ?_)
    · refine cz_iload_n (pc' := 151) (g_d dtbX10_move_1 19 rfl) rfl rfl ?_
      refine nz_ri .int (g_d dtbX10_move_1 20 rfl) rfl rfl ?_
      rw [show n = (A.1 6).toNat by omega]
      exact ⟨rfl, hC.sc hs_W, hm_W⟩
    · have hn7 : n < 7 := by omega
      have hn2 : (n : Int) < A.1 6 := by omega
      have hbo := hO.2.2.1 n hn7 hn2
      have hto : 1 ≤ A.1 (14 + n) ∧ A.1 (14 + n) ≤ 28 := hbo.2.1
      have hpo : 1 ≤ A.1 (21 + n) ∧ A.1 (21 + n) ≤ 99 := hbo.2.2
      obtain ⟨κ, hκ, hκ6⟩ : ∃ κ : Nat, A.1 (7 + n) = (κ : Int) ∧ κ < 6 := ⟨(A.1 (7 + n)).toNat, by have := hbo.1; omega, by have := hbo.1; omega⟩
      have hdI := dayB_in (κ := (κ : Int)) hto
      have hpI := pndB_in (κ := (κ : Int)) (p := A.1 (21 + n)) (m := A.1 4) (by omega)
      refine cz_aload_n (pc' := 34) (g_d dtbX10_move_0 18 rfl) rfl rfl ?_
      refine nz_getf (v := .ref 24) (pc' := 37) (g_d dtbX10_move_0 19 rfl) gf_X10_36 (by decide) rfl rfl rfl ?_
      refine cz_aload_n (pc' := 38) (g_d dtbX10_move_0 20 rfl) rfl rfl ?_
      refine nz_getf (v := .ref 1) (pc' := 41) (g_d dtbX10_move_0 21 rfl) gf_X10_10 (by decide) rfl rfl rfl ?_
      refine cz_iload_n (pc' := 42) (g_d dtbX10_move_0 22 rfl) rfl rfl ?_
      refine cz_aload_n (pc' := 43) (g_d dtbX10_move_0 23 rfl) rfl rfl ?_
      refine nz_getf (v := .ref 1) (pc' := 46) (g_d dtbX10_move_0 24 rfl) gf_X10_10 (by decide) rfl rfl rfl ?_
      refine cz_iload_n (pc' := 47) (g_d dtbX10_move_0 25 rfl) rfl rfl ?_
      refine nz_cVi (M' := mX0_dayAt) (k := 1) (As := [iv ((n : Int))]) (S := [iv ((n : Int)), .ref 1, .ref 24]) (L := [some (.ref 0), some (iv ((mvB A n).1)), some (iv ((mvB A n).2)), some (iv ((n : Int))), none, none]) (pc' := 50) (g_d dtbX10_move_0 26 rfl) lk_X10_127 okX0_dayAt (by decide) rfl rfl rfl rfl (Nat.le_of_ble_eq_true rfl) (Nat.le_of_ble_eq_true rfl) (by decide) rfl (c_dayR G W n A.1 (hC.br hs_W) hn7 hn2) ?_
      rintro _ _ ⟨rfl, rfl⟩
      refine nz_iconst (pc' := 51) (g_d dtbX10_move_0 27 rfl) rfl ?_
      refine nz_cVv (M' := mX4_put) (k := 24) (As := [.ref 1, iv ((n : Int)), iv (A.1 (14 + n)), iv (-1)]) (S := []) (L := [some (.ref 0), some (iv ((mvB A n).1)), some (iv ((mvB A n).2)), some (iv ((n : Int))), none, none]) (pc' := 54) (g_d dtbX10_move_0 28 rfl) lk_X10_174 okX4_put (by decide) rfl rfl rfl rfl (Nat.le_of_ble_eq_true rfl) (Nat.le_of_ble_eq_true rfl) (by decide) rfl (c_put G W n κ 28 A.1 B (A.1 (14 + n)) (-1) (hC.br hs_W) hO (by omega) hl_W.1 (by decide) hn7 hn2 hκ hκ6 (by omega)) ?_
      rintro W1 eW1
      rw [← hκ] at eW1
      have hs_W1 : Sc Z W1 := Sc.tr hs_W (eW1 ▸ zad_sc)
      have hm_W1 : FM Z W1 := FM.tr hm_W (eW1 ▸ zad_fm)
      have hl_W1 : LD W1 28 (gLs A n) := LD.ext (eW1 ▸ zad_ld hl_W) (fun i hi => by simp only [gLs, pB])
      refine nz_iconst (pc' := 55) (g_d dtbX10_move_0 29 rfl) rfl ?_
      refine cz_istore (L' := [some (.ref 0), some (iv ((mvB A n).1)), some (iv ((mvB A n).2)), some (iv ((n : Int))), some (iv 1), none]) (pc' := 57) (g_d dtbX10_move_0 30 rfl) (by decide) rfl rfl ?_
      refine l_move1 G Z A B hC hA n κ (mvB A n) (mvB_in n) hn7 hn2 hκ hκ6 ?_ (28 - 0) 0 W1 rfl (by omega) hs_W1 hm_W1 hl_W1
      intro V hs_V hm_V hl_V
      refine cz_aload_n (pc' := 124) (g_d dtbX10_move_1 6 rfl) rfl rfl ?_
      refine nz_getf (v := .ref 24) (pc' := 127) (g_d dtbX10_move_1 7 rfl) gf_X10_36 (by decide) rfl rfl rfl ?_
      refine cz_aload_n (pc' := 128) (g_d dtbX10_move_1 8 rfl) rfl rfl ?_
      refine nz_getf (v := .ref 1) (pc' := 131) (g_d dtbX10_move_1 9 rfl) gf_X10_10 (by decide) rfl rfl rfl ?_
      refine cz_iload_n (pc' := 132) (g_d dtbX10_move_1 10 rfl) rfl rfl ?_
      refine cz_aload_n (pc' := 133) (g_d dtbX10_move_1 11 rfl) rfl rfl ?_
      refine nz_getf (v := .ref 1) (pc' := 136) (g_d dtbX10_move_1 12 rfl) gf_X10_10 (by decide) rfl rfl rfl ?_
      refine cz_iload_n (pc' := 137) (g_d dtbX10_move_1 13 rfl) rfl rfl ?_
      refine nz_cVi (M' := mX0_dayAt) (k := 1) (As := [iv ((n : Int))]) (S := [iv ((n : Int)), .ref 1, .ref 24]) (L := [some (.ref 0), some (iv ((mvS A n (mvB A n) 28).1)), some (iv ((mvS A n (mvB A n) 28).2)), some (iv ((n : Int))), some (iv (((28 : Nat) : Int) + 1)), none]) (pc' := 140) (g_d dtbX10_move_1 14 rfl) lk_X10_127 okX0_dayAt (by decide) rfl rfl rfl rfl (Nat.le_of_ble_eq_true rfl) (Nat.le_of_ble_eq_true rfl) (by decide) rfl (c_dayR G V n A.1 (hC.br hs_V) hn7 hn2) ?_
      rintro _ _ ⟨rfl, rfl⟩
      refine nz_iconst (pc' := 141) (g_d dtbX10_move_1 15 rfl) rfl ?_
      refine nz_cVv (M' := mX4_put) (k := 24) (As := [.ref 1, iv ((n : Int)), iv (A.1 (14 + n)), iv 1]) (S := []) (L := [some (.ref 0), some (iv ((mvS A n (mvB A n) 28).1)), some (iv ((mvS A n (mvB A n) 28).2)), some (iv ((n : Int))), some (iv (((28 : Nat) : Int) + 1)), none]) (pc' := 144) (g_d dtbX10_move_1 16 rfl) lk_X10_174 okX4_put (by decide) rfl rfl rfl rfl (Nat.le_of_ble_eq_true rfl) (Nat.le_of_ble_eq_true rfl) (by decide) rfl (c_put G V n κ 28 A.1 B (A.1 (14 + n)) 1 (hC.br hs_V) hO (by omega) hl_V.1 (by decide) hn7 hn2 hκ hκ6 (by omega)) ?_
      rintro V1 eV1
      rw [← hκ] at eV1
      have hs_V1 : Sc Z V1 := Sc.tr hs_V (eV1 ▸ zad_sc)
      have hm_V1 : FM Z V1 := FM.tr hm_V (eV1 ▸ zad_fm)
      have hl_V1 : LD V1 28 (gA A) := LD.ext (eV1 ▸ zad_ld hl_V) (fun i hi => by simp only [gLs, pB]; omega)
      refine nz_iinc (L' := [some (.ref 0), some (iv ((mvS A n (mvB A n) 28).1)), some (iv ((mvS A n (mvB A n) 28).2)), some (iv (((n : Int)) + 1)), some (iv (((28 : Nat) : Int) + 1)), none]) (pc' := 147) (g_d dtbX10_move_1 17 rfl) (by decide) rfl rfl rfl ?_
      refine cz_goto (pc' := 22) (g_d dtbX10_move_1 18 rfl) rfl ?_
      refine cz_le [some (.ref 0), some (iv ((mvS A n (mvB A n) 28).1)), some (iv ((mvS A n (mvB A n) 28).2)), some (iv (((n : Int)) + 1)), none, none] ⟨rfl, rfl, rfl, rfl, trivial⟩ ?_
      exact ih ((A.1 6).toNat - (n + 1)) (by omega) (n + 1) V1 rfl (by omega) hs_V1 hm_V1 hl_V1

set_option maxRecDepth 20000 in
set_option maxHeartbeats 4000000 in
theorem a_move (G : Wd) (Z : ZS) (A : AS) (B : Int) (hC : CS Z A) (hA : AO B A) : Cn G mX10_move 0 [some (.ref 0), none, none, none, none, none] [] Z (qi (fun r V => (xMove A).1 = r ∧ CS V (xMove A).2 ∧ FM Z V)) := by
  have hB := hC.1
  have hb0 := hA.1
  have hO := hA.2.1
  have h6 : 0 ≤ A.1 6 ∧ A.1 6 ≤ 7 := hO.2.1
  have h28 : 0 ≤ A.1 28 ∧ A.1 28 ≤ 6 := hO.2.2.2.1
  have h59 : 0 ≤ A.1 59 ∧ A.1 59 ≤ 8 := hO.2.2.2.2.2.1
  have hf := hO.1
  unfold FO at hf
  have hct := hA.2.2.2.2.2.2
  refine cz_aload_n (pc' := 1) (g_d dtbX10_move_0 0 rfl) rfl rfl ?_
  refine nz_getf (v := .ref 24) (pc' := 4) (g_d dtbX10_move_0 1 rfl) gf_X10_36 (by decide) rfl rfl rfl ?_
  refine cz_aload_n (pc' := 5) (g_d dtbX10_move_0 2 rfl) rfl rfl ?_
  refine nz_getf (v := .ref 1) (pc' := 8) (g_d dtbX10_move_0 3 rfl) gf_X10_10 (by decide) rfl rfl rfl ?_
  refine nz_bipush (pc' := 10) (g_d dtbX10_move_0 4 rfl) (by decide) rfl ?_
  refine nz_cVv (M' := mX4_lay) (k := 24) (As := [.ref 1, iv 28]) (S := []) (L := [some (.ref 0), none, none, none, none, none]) (pc' := 13) (g_d dtbX10_move_0 5 rfl) lk_X10_161 okX4_lay (by decide) rfl rfl rfl rfl (Nat.le_of_ble_eq_true rfl) (Nat.le_of_ble_eq_true rfl) (by decide) rfl (c_lay G Z 28 A.1 B hB hO (by omega) (by omega)) ?_
  rintro V1 e1
  have hs_V1 : Sc Z V1 := e1 ▸ zly_sc
  have hm_V1 : FM Z V1 := e1 ▸ zly_fm
  have hl_V1 : LD V1 28 (gA A) := e1 ▸ zly_ld
  refine cz_aload_n (pc' := 14) (g_d dtbX10_move_0 6 rfl) rfl rfl ?_
  refine nz_cVi (M' := mX10_chargesAsLaid) (k := 0) (As := []) (S := []) (L := [some (.ref 0), none, none, none, none, none]) (pc' := 17) (g_d dtbX10_move_0 7 rfl) lk_X10_171 okX10_chargesAsLaid (by decide) rfl rfl rfl rfl (Nat.le_of_ble_eq_true rfl) (Nat.le_of_ble_eq_true rfl) (by decide) rfl (c_chAsLaid G V1 A B 28 (gA A) (hC.br hs_V1) hA hl_V1 (by decide) (fun i hi => by have h1 := gA_in hA i; omega)) ?_
  rintro _ V2 ⟨rfl, c1, c2, hl_V2⟩
  have hs_V2 : Sc Z V2 := Sc.tr hs_V1 c1
  have hm_V2 : FM Z V2 := FM.tr hm_V1 c2
  refine cz_istore_n (L' := [some (.ref 0), some (iv (rC (gA A) (A.1 5) (A.1 0) 28)), none, none, none, none]) (pc' := 18) (g_d dtbX10_move_0 8 rfl) (by decide) rfl rfl ?_
  refine nz_iconst (pc' := 19) (g_d dtbX10_move_0 9 rfl) rfl ?_
  refine cz_istore_n (L' := [some (.ref 0), some (iv (rC (gA A) (A.1 5) (A.1 0) 28)), some (iv (-1)), none, none, none]) (pc' := 20) (g_d dtbX10_move_0 10 rfl) (by decide) rfl rfl ?_
  refine nz_iconst (pc' := 21) (g_d dtbX10_move_0 11 rfl) rfl ?_
  refine cz_istore_n (L' := [some (.ref 0), some (iv (rC (gA A) (A.1 5) (A.1 0) 28)), some (iv (-1)), some (iv 0), none, none]) (pc' := 22) (g_d dtbX10_move_0 12 rfl) (by decide) rfl rfl ?_
  exact l_move G Z A B hC hA ((A.1 6).toNat - 0) 0 V2 rfl (by omega) hs_V2 hm_V2 hl_V2

set_option maxRecDepth 20000 in
set_option maxHeartbeats 4000000 in
theorem l_dear (G : Wd) (Z : ZS) (A : AS) (B : Int) (hC : CS Z A) (hA : AO B A) : ∀ (d : Nat) (n : Nat) (W : ZS), (A.1 6).toNat - n = d → (n : Int) ≤ A.1 6 → Sc Z W → FM Z W → LD W 28 (gA A) → Cn G mX10_dear 19 [some (.ref 0), some (iv ((drS A n).1)), some (iv ((drS A n).2)), some (iv ((n : Int))), none] [] W (qi (fun r V => (xDear A).1 = r ∧ CS V (xDear A).2 ∧ FM Z V)) := by
  intro d
  induction d using Nat.strongRecOn with
  | ind d ih =>
    intro n W hd hn hs_W hm_W hl_W
    have hB := hC.1
    have hb0 := hA.1
    have hO := hA.2.1
    have h6 : 0 ≤ A.1 6 ∧ A.1 6 ≤ 7 := hO.2.1
    have h28 : 0 ≤ A.1 28 ∧ A.1 28 ≤ 6 := hO.2.2.2.1
    have h59 : 0 ≤ A.1 59 ∧ A.1 59 ≤ 8 := hO.2.2.2.2.2.1
    have hf := hO.1
    unfold FO at hf
    have hct := hA.2.2.2.2.2.2
    have hds := drS_in (A := A) n (by omega)
    refine cz_iload_n (pc' := 20) (g_d dtbX10_dear_0 12 rfl) rfl rfl ?_
    refine cz_aload_n (pc' := 21) (g_d dtbX10_dear_0 13 rfl) rfl rfl ?_
    refine nz_getf (v := .ref 1) (pc' := 24) (g_d dtbX10_dear_0 14 rfl) gf_X10_10 (by decide) rfl rfl rfl ?_
    refine nz_getf (v := iv (A.1 6)) (pc' := 27) (g_d dtbX10_dear_0 15 rfl) gf_X10_61 (by decide) rfl (congrArg iv (br1_4 (hC.br hs_W))) rfl ?_
    refine nz_icmp_ge (tgt := 100) (pc' := 30) (g_d dtbX10_dear_0 16 rfl) (by omega) (by omega) rfl rfl (fun h27 => ?_) (fun h27 => ?_)
    · refine cz_iload_n (pc' := 101) (g_d dtbX10_dear_0 54 rfl) rfl rfl ?_
      refine nz_ri .int (g_d dtbX10_dear_0 55 rfl) rfl rfl ?_
      rw [show n = (A.1 6).toNat by omega]
      exact ⟨rfl, hC.sc hs_W, hm_W⟩
    · have hn7 : n < 7 := by omega
      have hn2 : (n : Int) < A.1 6 := by omega
      have hbo := hO.2.2.1 n hn7 hn2
      have hto : 1 ≤ A.1 (14 + n) ∧ A.1 (14 + n) ≤ 28 := hbo.2.1
      have hpo : 1 ≤ A.1 (21 + n) ∧ A.1 (21 + n) ≤ 99 := hbo.2.2
      obtain ⟨κ, hκ, hκ6⟩ : ∃ κ : Nat, A.1 (7 + n) = (κ : Int) ∧ κ < 6 := ⟨(A.1 (7 + n)).toNat, by have := hbo.1; omega, by have := hbo.1; omega⟩
      have hdI := dayB_in (κ := (κ : Int)) hto
      have hpI := pndB_in (κ := (κ : Int)) (p := A.1 (21 + n)) (m := A.1 4) (by omega)
      have hch := rC_in (g := gLs A n) (sp := A.1 5) (a := A.1 0) 28
      refine cz_aload_n (pc' := 31) (g_d dtbX10_dear_0 17 rfl) rfl rfl ?_
      refine nz_getf (v := .ref 24) (pc' := 34) (g_d dtbX10_dear_0 18 rfl) gf_X10_36 (by decide) rfl rfl rfl ?_
      refine cz_aload_n (pc' := 35) (g_d dtbX10_dear_0 19 rfl) rfl rfl ?_
      refine nz_getf (v := .ref 1) (pc' := 38) (g_d dtbX10_dear_0 20 rfl) gf_X10_10 (by decide) rfl rfl rfl ?_
      refine cz_iload_n (pc' := 39) (g_d dtbX10_dear_0 21 rfl) rfl rfl ?_
      refine cz_aload_n (pc' := 40) (g_d dtbX10_dear_0 22 rfl) rfl rfl ?_
      refine nz_getf (v := .ref 1) (pc' := 43) (g_d dtbX10_dear_0 23 rfl) gf_X10_10 (by decide) rfl rfl rfl ?_
      refine cz_iload_n (pc' := 44) (g_d dtbX10_dear_0 24 rfl) rfl rfl ?_
      refine nz_cVi (M' := mX0_dayAt) (k := 1) (As := [iv ((n : Int))]) (S := [iv ((n : Int)), .ref 1, .ref 24]) (L := [some (.ref 0), some (iv ((drS A n).1)), some (iv ((drS A n).2)), some (iv ((n : Int))), none]) (pc' := 47) (g_d dtbX10_dear_0 25 rfl) lk_X10_127 okX0_dayAt (by decide) rfl rfl rfl rfl (Nat.le_of_ble_eq_true rfl) (Nat.le_of_ble_eq_true rfl) (by decide) rfl (c_dayR G W n A.1 (hC.br hs_W) hn7 hn2) ?_
      rintro _ _ ⟨rfl, rfl⟩
      refine nz_iconst (pc' := 48) (g_d dtbX10_dear_0 26 rfl) rfl ?_
      refine nz_cVv (M' := mX4_put) (k := 24) (As := [.ref 1, iv ((n : Int)), iv (A.1 (14 + n)), iv (-1)]) (S := []) (L := [some (.ref 0), some (iv ((drS A n).1)), some (iv ((drS A n).2)), some (iv ((n : Int))), none]) (pc' := 51) (g_d dtbX10_dear_0 27 rfl) lk_X10_174 okX4_put (by decide) rfl rfl rfl rfl (Nat.le_of_ble_eq_true rfl) (Nat.le_of_ble_eq_true rfl) (by decide) rfl (c_put G W n κ 28 A.1 B (A.1 (14 + n)) (-1) (hC.br hs_W) hO (by omega) hl_W.1 (by decide) hn7 hn2 hκ hκ6 (by omega)) ?_
      rintro W1 eW1
      rw [← hκ] at eW1
      have hs_W1 : Sc Z W1 := Sc.tr hs_W (eW1 ▸ zad_sc)
      have hm_W1 : FM Z W1 := FM.tr hm_W (eW1 ▸ zad_fm)
      have hl_W1 : LD W1 28 (gLs A n) := LD.ext (eW1 ▸ zad_ld hl_W) (fun i hi => by simp only [gLs, pB])
      refine cz_aload_n (pc' := 52) (g_d dtbX10_dear_0 28 rfl) rfl rfl ?_
      refine nz_cVi (M' := mX10_chargesAsLaid) (k := 0) (As := []) (S := []) (L := [some (.ref 0), some (iv ((drS A n).1)), some (iv ((drS A n).2)), some (iv ((n : Int))), none]) (pc' := 55) (g_d dtbX10_dear_0 29 rfl) lk_X10_171 okX10_chargesAsLaid (by decide) rfl rfl rfl rfl (Nat.le_of_ble_eq_true rfl) (Nat.le_of_ble_eq_true rfl) (by decide) rfl (c_chAsLaid G W1 A B 28 (gLs A n) (hC.br hs_W1) hA hl_W1 (by decide) (fun i hi => by have h1 := gA_in hA i; have p0 := pB_in hA hn7 hn2 (A.1 (14 + n)) i; (try simp only [gMv, gLs]); omega)) ?_
      rintro _ W2 ⟨rfl, c1, c2, hl_W2⟩
      have hs_W2 : Sc Z W2 := Sc.tr hs_W1 c1
      have hm_W2 : FM Z W2 := FM.tr hm_W1 c2
      refine cz_istore (L' := [some (.ref 0), some (iv ((drS A n).1)), some (iv ((drS A n).2)), some (iv ((n : Int))), some (iv (rC (gLs A n) (A.1 5) (A.1 0) 28))]) (pc' := 57) (g_d dtbX10_dear_0 30 rfl) (by decide) rfl rfl ?_
      refine cz_iload_n (pc' := 58) (g_d dtbX10_dear_0 31 rfl) rfl rfl ?_
      refine nz_iconst (pc' := 59) (g_d dtbX10_dear_0 32 rfl) rfl ?_
      refine nz_icmp_eq (tgt := 68) (pc' := 62) (g_d dtbX10_dear_0 33 rfl) (by omega) (by omega) rfl rfl (fun h59 => ?_) (fun h59 => ?_)
      · refine cz_iload (pc' := 70) (g_d dtbX10_dear_0 37 rfl) rfl rfl ?_
        refine cz_istore_n (L' := [some (.ref 0), some (iv ((drS A n).1)), some (iv (rC (gLs A n) (A.1 5) (A.1 0) 28)), some (iv ((n : Int))), some (iv (rC (gLs A n) (A.1 5) (A.1 0) 28))]) (pc' := 71) (g_d dtbX10_dear_0 38 rfl) (by decide) rfl rfl ?_
        refine cz_iload_n (pc' := 72) (g_d dtbX10_dear_0 39 rfl) rfl rfl ?_
        refine cz_istore_n (L' := [some (.ref 0), some (iv ((n : Int))), some (iv (rC (gLs A n) (A.1 5) (A.1 0) 28)), some (iv ((n : Int))), some (iv (rC (gLs A n) (A.1 5) (A.1 0) 28))]) (pc' := 73) (g_d dtbX10_dear_0 40 rfl) (by decide) rfl rfl ?_
        refine cz_aload_n (pc' := 74) (g_d dtbX10_dear_0 41 rfl) rfl rfl ?_
        refine nz_getf (v := .ref 24) (pc' := 77) (g_d dtbX10_dear_0 42 rfl) gf_X10_36 (by decide) rfl rfl rfl ?_
        refine cz_aload_n (pc' := 78) (g_d dtbX10_dear_0 43 rfl) rfl rfl ?_
        refine nz_getf (v := .ref 1) (pc' := 81) (g_d dtbX10_dear_0 44 rfl) gf_X10_10 (by decide) rfl rfl rfl ?_
        refine cz_iload_n (pc' := 82) (g_d dtbX10_dear_0 45 rfl) rfl rfl ?_
        refine cz_aload_n (pc' := 83) (g_d dtbX10_dear_0 46 rfl) rfl rfl ?_
        refine nz_getf (v := .ref 1) (pc' := 86) (g_d dtbX10_dear_0 47 rfl) gf_X10_10 (by decide) rfl rfl rfl ?_
        refine cz_iload_n (pc' := 87) (g_d dtbX10_dear_0 48 rfl) rfl rfl ?_
        refine nz_cVi (M' := mX0_dayAt) (k := 1) (As := [iv ((n : Int))]) (S := [iv ((n : Int)), .ref 1, .ref 24]) (L := [some (.ref 0), some (iv ((n : Int))), some (iv (rC (gLs A n) (A.1 5) (A.1 0) 28)), some (iv ((n : Int))), some (iv (rC (gLs A n) (A.1 5) (A.1 0) 28))]) (pc' := 90) (g_d dtbX10_dear_0 49 rfl) lk_X10_127 okX0_dayAt (by decide) rfl rfl rfl rfl (Nat.le_of_ble_eq_true rfl) (Nat.le_of_ble_eq_true rfl) (by decide) rfl (c_dayR G W2 n A.1 (hC.br hs_W2) hn7 hn2) ?_
        rintro _ _ ⟨rfl, rfl⟩
        refine nz_iconst (pc' := 91) (g_d dtbX10_dear_0 50 rfl) rfl ?_
        refine nz_cVv (M' := mX4_put) (k := 24) (As := [.ref 1, iv ((n : Int)), iv (A.1 (14 + n)), iv 1]) (S := []) (L := [some (.ref 0), some (iv ((n : Int))), some (iv (rC (gLs A n) (A.1 5) (A.1 0) 28)), some (iv ((n : Int))), some (iv (rC (gLs A n) (A.1 5) (A.1 0) 28))]) (pc' := 94) (g_d dtbX10_dear_0 51 rfl) lk_X10_174 okX4_put (by decide) rfl rfl rfl rfl (Nat.le_of_ble_eq_true rfl) (Nat.le_of_ble_eq_true rfl) (by decide) rfl (c_put G W2 n κ 28 A.1 B (A.1 (14 + n)) 1 (hC.br hs_W2) hO (by omega) hl_W2.1 (by decide) hn7 hn2 hκ hκ6 (by omega)) ?_
        rintro W3 eW3
        rw [← hκ] at eW3
        have hs_W3 : Sc Z W3 := Sc.tr hs_W2 (eW3 ▸ zad_sc)
        have hm_W3 : FM Z W3 := FM.tr hm_W2 (eW3 ▸ zad_fm)
        have hl_W3 : LD W3 28 (gA A) := LD.ext (eW3 ▸ zad_ld hl_W2) (fun i hi => by simp only [gLs, pB]; omega)
        refine nz_iinc (L' := [some (.ref 0), some (iv ((n : Int))), some (iv (rC (gLs A n) (A.1 5) (A.1 0) 28)), some (iv (((n : Int)) + 1)), some (iv (rC (gLs A n) (A.1 5) (A.1 0) 28))]) (pc' := 97) (g_d dtbX10_dear_0 52 rfl) (by decide) rfl rfl rfl ?_
        refine cz_goto (pc' := 19) (g_d dtbX10_dear_0 53 rfl) rfl ?_
        refine cz_le [some (.ref 0), some (iv ((n : Int))), some (iv (rC (gLs A n) (A.1 5) (A.1 0) 28)), some (iv (((n : Int)) + 1)), none] ⟨rfl, rfl, rfl, rfl, trivial⟩ ?_
        have em : drS A (n + 1) = ((n : Int), rC (gLs A n) (A.1 5) (A.1 0) 28) := by simp only [drS]; rw [if_pos (by omega)]
        have q := ih ((A.1 6).toNat - (n + 1)) (by omega) (n + 1) W3 rfl (by omega) hs_W3 hm_W3 hl_W3
        rw [em] at q
        exact q
      · refine cz_iload (pc' := 64) (g_d dtbX10_dear_0 34 rfl) rfl rfl ?_
        refine cz_iload_n (pc' := 65) (g_d dtbX10_dear_0 35 rfl) rfl rfl ?_
        refine nz_icmp_ge (tgt := 73) (pc' := 68) (g_d dtbX10_dear_0 36 rfl) (by omega) (by omega) rfl rfl (fun h65 => ?_) (fun h65 => ?_)
        · refine cz_aload_n (pc' := 74) (g_d dtbX10_dear_0 41 rfl) rfl rfl ?_
          refine nz_getf (v := .ref 24) (pc' := 77) (g_d dtbX10_dear_0 42 rfl) gf_X10_36 (by decide) rfl rfl rfl ?_
          refine cz_aload_n (pc' := 78) (g_d dtbX10_dear_0 43 rfl) rfl rfl ?_
          refine nz_getf (v := .ref 1) (pc' := 81) (g_d dtbX10_dear_0 44 rfl) gf_X10_10 (by decide) rfl rfl rfl ?_
          refine cz_iload_n (pc' := 82) (g_d dtbX10_dear_0 45 rfl) rfl rfl ?_
          refine cz_aload_n (pc' := 83) (g_d dtbX10_dear_0 46 rfl) rfl rfl ?_
          refine nz_getf (v := .ref 1) (pc' := 86) (g_d dtbX10_dear_0 47 rfl) gf_X10_10 (by decide) rfl rfl rfl ?_
          refine cz_iload_n (pc' := 87) (g_d dtbX10_dear_0 48 rfl) rfl rfl ?_
          refine nz_cVi (M' := mX0_dayAt) (k := 1) (As := [iv ((n : Int))]) (S := [iv ((n : Int)), .ref 1, .ref 24]) (L := [some (.ref 0), some (iv ((drS A n).1)), some (iv ((drS A n).2)), some (iv ((n : Int))), some (iv (rC (gLs A n) (A.1 5) (A.1 0) 28))]) (pc' := 90) (g_d dtbX10_dear_0 49 rfl) lk_X10_127 okX0_dayAt (by decide) rfl rfl rfl rfl (Nat.le_of_ble_eq_true rfl) (Nat.le_of_ble_eq_true rfl) (by decide) rfl (c_dayR G W2 n A.1 (hC.br hs_W2) hn7 hn2) ?_
          rintro _ _ ⟨rfl, rfl⟩
          refine nz_iconst (pc' := 91) (g_d dtbX10_dear_0 50 rfl) rfl ?_
          refine nz_cVv (M' := mX4_put) (k := 24) (As := [.ref 1, iv ((n : Int)), iv (A.1 (14 + n)), iv 1]) (S := []) (L := [some (.ref 0), some (iv ((drS A n).1)), some (iv ((drS A n).2)), some (iv ((n : Int))), some (iv (rC (gLs A n) (A.1 5) (A.1 0) 28))]) (pc' := 94) (g_d dtbX10_dear_0 51 rfl) lk_X10_174 okX4_put (by decide) rfl rfl rfl rfl (Nat.le_of_ble_eq_true rfl) (Nat.le_of_ble_eq_true rfl) (by decide) rfl (c_put G W2 n κ 28 A.1 B (A.1 (14 + n)) 1 (hC.br hs_W2) hO (by omega) hl_W2.1 (by decide) hn7 hn2 hκ hκ6 (by omega)) ?_
          rintro W3 eW3
          rw [← hκ] at eW3
          have hs_W3 : Sc Z W3 := Sc.tr hs_W2 (eW3 ▸ zad_sc)
          have hm_W3 : FM Z W3 := FM.tr hm_W2 (eW3 ▸ zad_fm)
          have hl_W3 : LD W3 28 (gA A) := LD.ext (eW3 ▸ zad_ld hl_W2) (fun i hi => by simp only [gLs, pB]; omega)
          refine nz_iinc (L' := [some (.ref 0), some (iv ((drS A n).1)), some (iv ((drS A n).2)), some (iv (((n : Int)) + 1)), some (iv (rC (gLs A n) (A.1 5) (A.1 0) 28))]) (pc' := 97) (g_d dtbX10_dear_0 52 rfl) (by decide) rfl rfl rfl ?_
          refine cz_goto (pc' := 19) (g_d dtbX10_dear_0 53 rfl) rfl ?_
          refine cz_le [some (.ref 0), some (iv ((drS A n).1)), some (iv ((drS A n).2)), some (iv (((n : Int)) + 1)), none] ⟨rfl, rfl, rfl, rfl, trivial⟩ ?_
          have em : drS A (n + 1) = drS A n := by simp only [drS]; rw [if_neg (by omega)]
          have q := ih ((A.1 6).toNat - (n + 1)) (by omega) (n + 1) W3 rfl (by omega) hs_W3 hm_W3 hl_W3
          rw [em] at q
          exact q
        · refine cz_iload (pc' := 70) (g_d dtbX10_dear_0 37 rfl) rfl rfl ?_
          refine cz_istore_n (L' := [some (.ref 0), some (iv ((drS A n).1)), some (iv (rC (gLs A n) (A.1 5) (A.1 0) 28)), some (iv ((n : Int))), some (iv (rC (gLs A n) (A.1 5) (A.1 0) 28))]) (pc' := 71) (g_d dtbX10_dear_0 38 rfl) (by decide) rfl rfl ?_
          refine cz_iload_n (pc' := 72) (g_d dtbX10_dear_0 39 rfl) rfl rfl ?_
          refine cz_istore_n (L' := [some (.ref 0), some (iv ((n : Int))), some (iv (rC (gLs A n) (A.1 5) (A.1 0) 28)), some (iv ((n : Int))), some (iv (rC (gLs A n) (A.1 5) (A.1 0) 28))]) (pc' := 73) (g_d dtbX10_dear_0 40 rfl) (by decide) rfl rfl ?_
          refine cz_aload_n (pc' := 74) (g_d dtbX10_dear_0 41 rfl) rfl rfl ?_
          refine nz_getf (v := .ref 24) (pc' := 77) (g_d dtbX10_dear_0 42 rfl) gf_X10_36 (by decide) rfl rfl rfl ?_
          refine cz_aload_n (pc' := 78) (g_d dtbX10_dear_0 43 rfl) rfl rfl ?_
          refine nz_getf (v := .ref 1) (pc' := 81) (g_d dtbX10_dear_0 44 rfl) gf_X10_10 (by decide) rfl rfl rfl ?_
          refine cz_iload_n (pc' := 82) (g_d dtbX10_dear_0 45 rfl) rfl rfl ?_
          refine cz_aload_n (pc' := 83) (g_d dtbX10_dear_0 46 rfl) rfl rfl ?_
          refine nz_getf (v := .ref 1) (pc' := 86) (g_d dtbX10_dear_0 47 rfl) gf_X10_10 (by decide) rfl rfl rfl ?_
          refine cz_iload_n (pc' := 87) (g_d dtbX10_dear_0 48 rfl) rfl rfl ?_
          refine nz_cVi (M' := mX0_dayAt) (k := 1) (As := [iv ((n : Int))]) (S := [iv ((n : Int)), .ref 1, .ref 24]) (L := [some (.ref 0), some (iv ((n : Int))), some (iv (rC (gLs A n) (A.1 5) (A.1 0) 28)), some (iv ((n : Int))), some (iv (rC (gLs A n) (A.1 5) (A.1 0) 28))]) (pc' := 90) (g_d dtbX10_dear_0 49 rfl) lk_X10_127 okX0_dayAt (by decide) rfl rfl rfl rfl (Nat.le_of_ble_eq_true rfl) (Nat.le_of_ble_eq_true rfl) (by decide) rfl (c_dayR G W2 n A.1 (hC.br hs_W2) hn7 hn2) ?_
          rintro _ _ ⟨rfl, rfl⟩
          refine nz_iconst (pc' := 91) (g_d dtbX10_dear_0 50 rfl) rfl ?_
          refine nz_cVv (M' := mX4_put) (k := 24) (As := [.ref 1, iv ((n : Int)), iv (A.1 (14 + n)), iv 1]) (S := []) (L := [some (.ref 0), some (iv ((n : Int))), some (iv (rC (gLs A n) (A.1 5) (A.1 0) 28)), some (iv ((n : Int))), some (iv (rC (gLs A n) (A.1 5) (A.1 0) 28))]) (pc' := 94) (g_d dtbX10_dear_0 51 rfl) lk_X10_174 okX4_put (by decide) rfl rfl rfl rfl (Nat.le_of_ble_eq_true rfl) (Nat.le_of_ble_eq_true rfl) (by decide) rfl (c_put G W2 n κ 28 A.1 B (A.1 (14 + n)) 1 (hC.br hs_W2) hO (by omega) hl_W2.1 (by decide) hn7 hn2 hκ hκ6 (by omega)) ?_
          rintro W3 eW3
          rw [← hκ] at eW3
          have hs_W3 : Sc Z W3 := Sc.tr hs_W2 (eW3 ▸ zad_sc)
          have hm_W3 : FM Z W3 := FM.tr hm_W2 (eW3 ▸ zad_fm)
          have hl_W3 : LD W3 28 (gA A) := LD.ext (eW3 ▸ zad_ld hl_W2) (fun i hi => by simp only [gLs, pB]; omega)
          refine nz_iinc (L' := [some (.ref 0), some (iv ((n : Int))), some (iv (rC (gLs A n) (A.1 5) (A.1 0) 28)), some (iv (((n : Int)) + 1)), some (iv (rC (gLs A n) (A.1 5) (A.1 0) 28))]) (pc' := 97) (g_d dtbX10_dear_0 52 rfl) (by decide) rfl rfl rfl ?_
          refine cz_goto (pc' := 19) (g_d dtbX10_dear_0 53 rfl) rfl ?_
          refine cz_le [some (.ref 0), some (iv ((n : Int))), some (iv (rC (gLs A n) (A.1 5) (A.1 0) 28)), some (iv (((n : Int)) + 1)), none] ⟨rfl, rfl, rfl, rfl, trivial⟩ ?_
          have em : drS A (n + 1) = ((n : Int), rC (gLs A n) (A.1 5) (A.1 0) 28) := by simp only [drS]; rw [if_pos (by omega)]
          have q := ih ((A.1 6).toNat - (n + 1)) (by omega) (n + 1) W3 rfl (by omega) hs_W3 hm_W3 hl_W3
          rw [em] at q
          exact q

set_option maxRecDepth 20000 in
set_option maxHeartbeats 4000000 in
theorem a_dear (G : Wd) (Z : ZS) (A : AS) (B : Int) (hC : CS Z A) (hA : AO B A) : Cn G mX10_dear 0 [some (.ref 0), none, none, none, none] [] Z (qi (fun r V => (xDear A).1 = r ∧ CS V (xDear A).2 ∧ FM Z V)) := by
  have hB := hC.1
  have hb0 := hA.1
  have hO := hA.2.1
  have h6 : 0 ≤ A.1 6 ∧ A.1 6 ≤ 7 := hO.2.1
  have h28 : 0 ≤ A.1 28 ∧ A.1 28 ≤ 6 := hO.2.2.2.1
  have h59 : 0 ≤ A.1 59 ∧ A.1 59 ≤ 8 := hO.2.2.2.2.2.1
  have hf := hO.1
  unfold FO at hf
  have hct := hA.2.2.2.2.2.2
  refine cz_aload_n (pc' := 1) (g_d dtbX10_dear_0 0 rfl) rfl rfl ?_
  refine nz_getf (v := .ref 24) (pc' := 4) (g_d dtbX10_dear_0 1 rfl) gf_X10_36 (by decide) rfl rfl rfl ?_
  refine cz_aload_n (pc' := 5) (g_d dtbX10_dear_0 2 rfl) rfl rfl ?_
  refine nz_getf (v := .ref 1) (pc' := 8) (g_d dtbX10_dear_0 3 rfl) gf_X10_10 (by decide) rfl rfl rfl ?_
  refine nz_bipush (pc' := 10) (g_d dtbX10_dear_0 4 rfl) (by decide) rfl ?_
  refine nz_cVv (M' := mX4_lay) (k := 24) (As := [.ref 1, iv 28]) (S := []) (L := [some (.ref 0), none, none, none, none]) (pc' := 13) (g_d dtbX10_dear_0 5 rfl) lk_X10_161 okX4_lay (by decide) rfl rfl rfl rfl (Nat.le_of_ble_eq_true rfl) (Nat.le_of_ble_eq_true rfl) (by decide) rfl (c_lay G Z 28 A.1 B hB hO (by omega) (by omega)) ?_
  rintro V1 e1
  have hs_V1 : Sc Z V1 := e1 ▸ zly_sc
  have hm_V1 : FM Z V1 := e1 ▸ zly_fm
  have hl_V1 : LD V1 28 (gA A) := e1 ▸ zly_ld
  refine nz_iconst (pc' := 14) (g_d dtbX10_dear_0 6 rfl) rfl ?_
  refine cz_istore_n (L' := [some (.ref 0), some (iv (-1)), none, none, none]) (pc' := 15) (g_d dtbX10_dear_0 7 rfl) (by decide) rfl rfl ?_
  refine nz_iconst (pc' := 16) (g_d dtbX10_dear_0 8 rfl) rfl ?_
  refine cz_istore_n (L' := [some (.ref 0), some (iv (-1)), some (iv 0), none, none]) (pc' := 17) (g_d dtbX10_dear_0 9 rfl) (by decide) rfl rfl ?_
  refine nz_iconst (pc' := 18) (g_d dtbX10_dear_0 10 rfl) rfl ?_
  refine cz_istore_n (L' := [some (.ref 0), some (iv (-1)), some (iv 0), some (iv 0), none]) (pc' := 19) (g_d dtbX10_dear_0 11 rfl) (by decide) rfl rfl ?_
  exact l_dear G Z A B hC hA ((A.1 6).toNat - 0) 0 V1 rfl (by omega) hs_V1 hm_V1 hl_V1
end
