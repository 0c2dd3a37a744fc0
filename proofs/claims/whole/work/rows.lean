section
-- ===== PART A: goes FIRST, ahead of the names: the tables' words, and 'selects' of the private methods out of them =====
/-- a private method of a class that the tables say can be made, by its rows of tables_1 -/
def lw_okq (q : MethodName × Nat) : Prop := (q.1.cls ≠ "java/lang/invoke/MethodHandle" ∧ q.1.cls ≠ "java/lang/invoke/VarHandle") ∧ Cond.instantiable q.1.cls q.2 ∈ tables_1 ∧ Cond.privateMethod q.1 ∈ tables_1 ∧ Cond.instanceMethod q.1 ∈ tables_1
theorem lw_p0 : lw_okq (⟨"BeforeThird", "refuseBad", "(I)I"⟩, 13) := ⟨⟨by decide +kernel, by decide +kernel⟩, List.mem_of_getElem? (i := 21) (by decide +kernel), List.mem_of_getElem? (i := 253) (by decide +kernel), List.mem_of_getElem? (i := 254) (by decide +kernel)⟩
theorem lw_p1 : lw_okq (⟨"BeforeThird", "refuseFull", "()I"⟩, 13) := ⟨⟨by decide +kernel, by decide +kernel⟩, List.mem_of_getElem? (i := 21) (by decide +kernel), List.mem_of_getElem? (i := 271) (by decide +kernel), List.mem_of_getElem? (i := 272) (by decide +kernel)⟩
theorem lw_p2 : lw_okq (⟨"BeforeThird$Reader", "takeToken", "()V"⟩, 7) := ⟨⟨by decide +kernel, by decide +kernel⟩, List.mem_of_getElem? (i := 68) (by decide +kernel), List.mem_of_getElem? (i := 300) (by decide +kernel), List.mem_of_getElem? (i := 301) (by decide +kernel)⟩
theorem lw_p3 : lw_okq (⟨"BeforeThird$Reader", "skipRun", "(II)V"⟩, 7) := ⟨⟨by decide +kernel, by decide +kernel⟩, List.mem_of_getElem? (i := 68) (by decide +kernel), List.mem_of_getElem? (i := 304) (by decide +kernel), List.mem_of_getElem? (i := 305) (by decide +kernel)⟩
theorem lw_p4 : lw_okq (⟨"BeforeThird$Reader", "byteAt", "(I)I"⟩, 7) := ⟨⟨by decide +kernel, by decide +kernel⟩, List.mem_of_getElem? (i := 68) (by decide +kernel), List.mem_of_getElem? (i := 308) (by decide +kernel), List.mem_of_getElem? (i := 309) (by decide +kernel)⟩
theorem lw_p5 : lw_okq (⟨"BeforeThird$Reader", "takeItem", "(Z)Z"⟩, 7) := ⟨⟨by decide +kernel, by decide +kernel⟩, List.mem_of_getElem? (i := 68) (by decide +kernel), List.mem_of_getElem? (i := 313) (by decide +kernel), List.mem_of_getElem? (i := 314) (by decide +kernel)⟩
theorem lw_p6 : lw_okq (⟨"BeforeThird$Reader", "spells", "(Ljava/lang/String;)Z"⟩, 7) := ⟨⟨by decide +kernel, by decide +kernel⟩, List.mem_of_getElem? (i := 68) (by decide +kernel), List.mem_of_getElem? (i := 318) (by decide +kernel), List.mem_of_getElem? (i := 319) (by decide +kernel)⟩
theorem lw_p7 : lw_okq (⟨"BeforeThird$Reader", "takeAccount", "()Z"⟩, 7) := ⟨⟨by decide +kernel, by decide +kernel⟩, List.mem_of_getElem? (i := 68) (by decide +kernel), List.mem_of_getElem? (i := 370) (by decide +kernel), List.mem_of_getElem? (i := 371) (by decide +kernel)⟩
theorem lw_p8 : lw_okq (⟨"BeforeThird$Reader", "takeNumber", "(II)Z"⟩, 7) := ⟨⟨by decide +kernel, by decide +kernel⟩, List.mem_of_getElem? (i := 68) (by decide +kernel), List.mem_of_getElem? (i := 374) (by decide +kernel), List.mem_of_getElem? (i := 375) (by decide +kernel)⟩
theorem lw_p9 : lw_okq (⟨"BeforeThird$Reader", "takeStop", "()Z"⟩, 7) := ⟨⟨by decide +kernel, by decide +kernel⟩, List.mem_of_getElem? (i := 68) (by decide +kernel), List.mem_of_getElem? (i := 378) (by decide +kernel), List.mem_of_getElem? (i := 379) (by decide +kernel)⟩
theorem lw_p10 : lw_okq (⟨"BeforeThird$Reader", "takeBill", "()Z"⟩, 7) := ⟨⟨by decide +kernel, by decide +kernel⟩, List.mem_of_getElem? (i := 68) (by decide +kernel), List.mem_of_getElem? (i := 383) (by decide +kernel), List.mem_of_getElem? (i := 384) (by decide +kernel)⟩
theorem lw_p11 : lw_okq (⟨"BeforeThird$Reader", "takeFigure", "(II)Z"⟩, 7) := ⟨⟨by decide +kernel, by decide +kernel⟩, List.mem_of_getElem? (i := 68) (by decide +kernel), List.mem_of_getElem? (i := 389) (by decide +kernel), List.mem_of_getElem? (i := 390) (by decide +kernel)⟩
theorem lw_p12 : lw_okq (⟨"BeforeThird", "passDay", "()V"⟩, 13) := ⟨⟨by decide +kernel, by decide +kernel⟩, List.mem_of_getElem? (i := 21) (by decide +kernel), List.mem_of_getElem? (i := 409) (by decide +kernel), List.mem_of_getElem? (i := 410) (by decide +kernel)⟩
theorem lw_p13 : lw_okq (⟨"BeforeThird", "drawnToday", "()I"⟩, 13) := ⟨⟨by decide +kernel, by decide +kernel⟩, List.mem_of_getElem? (i := 21) (by decide +kernel), List.mem_of_getElem? (i := 413) (by decide +kernel), List.mem_of_getElem? (i := 414) (by decide +kernel)⟩
theorem lw_p14 : lw_okq (⟨"BeforeThird$Book", "billPart", "(II)I"⟩, 7) := ⟨⟨by decide +kernel, by decide +kernel⟩, List.mem_of_getElem? (i := 29) (by decide +kernel), List.mem_of_getElem? (i := 421) (by decide +kernel), List.mem_of_getElem? (i := 422) (by decide +kernel)⟩
theorem lw_p15 : lw_okq (⟨"BeforeThird", "refuseNo", "()I"⟩, 13) := ⟨⟨by decide +kernel, by decide +kernel⟩, List.mem_of_getElem? (i := 21) (by decide +kernel), List.mem_of_getElem? (i := 482) (by decide +kernel), List.mem_of_getElem? (i := 483) (by decide +kernel)⟩
def lw_privs_1 : List (MethodName × Nat) := [(⟨"BeforeThird", "refuseBad", "(I)I"⟩, 13), (⟨"BeforeThird", "refuseFull", "()I"⟩, 13), (⟨"BeforeThird$Reader", "takeToken", "()V"⟩, 7), (⟨"BeforeThird$Reader", "skipRun", "(II)V"⟩, 7), (⟨"BeforeThird$Reader", "byteAt", "(I)I"⟩, 7), (⟨"BeforeThird$Reader", "takeItem", "(Z)Z"⟩, 7), (⟨"BeforeThird$Reader", "spells", "(Ljava/lang/String;)Z"⟩, 7), (⟨"BeforeThird$Reader", "takeAccount", "()Z"⟩, 7), (⟨"BeforeThird$Reader", "takeNumber", "(II)Z"⟩, 7), (⟨"BeforeThird$Reader", "takeStop", "()Z"⟩, 7), (⟨"BeforeThird$Reader", "takeBill", "()Z"⟩, 7), (⟨"BeforeThird$Reader", "takeFigure", "(II)Z"⟩, 7), (⟨"BeforeThird", "passDay", "()V"⟩, 13), (⟨"BeforeThird", "drawnToday", "()I"⟩, 13), (⟨"BeforeThird$Book", "billPart", "(II)I"⟩, 7), (⟨"BeforeThird", "refuseNo", "()I"⟩, 13)]
theorem lw_r1 : ∀ q ∈ lw_privs_1, lw_okq q := List.forall_mem_cons.mpr ⟨lw_p0, List.forall_mem_cons.mpr ⟨lw_p1, List.forall_mem_cons.mpr ⟨lw_p2, List.forall_mem_cons.mpr ⟨lw_p3, List.forall_mem_cons.mpr ⟨lw_p4, List.forall_mem_cons.mpr ⟨lw_p5, List.forall_mem_cons.mpr ⟨lw_p6, List.forall_mem_cons.mpr ⟨lw_p7, List.forall_mem_cons.mpr ⟨lw_p8, List.forall_mem_cons.mpr ⟨lw_p9, List.forall_mem_cons.mpr ⟨lw_p10, List.forall_mem_cons.mpr ⟨lw_p11, List.forall_mem_cons.mpr ⟨lw_p12, List.forall_mem_cons.mpr ⟨lw_p13, List.forall_mem_cons.mpr ⟨lw_p14, List.forall_mem_cons.mpr ⟨lw_p15, fun _ h => absurd h List.not_mem_nil⟩⟩⟩⟩⟩⟩⟩⟩⟩⟩⟩⟩⟩⟩⟩⟩
theorem lw_p16 : lw_okq (⟨"BeforeThird", "isBillNumber", "(I)Z"⟩, 13) := ⟨⟨by decide +kernel, by decide +kernel⟩, List.mem_of_getElem? (i := 21) (by decide +kernel), List.mem_of_getElem? (i := 498) (by decide +kernel), List.mem_of_getElem? (i := 499) (by decide +kernel)⟩
theorem lw_p17 : lw_okq (⟨"BeforeThird", "foresee", "(I)V"⟩, 13) := ⟨⟨by decide +kernel, by decide +kernel⟩, List.mem_of_getElem? (i := 21) (by decide +kernel), List.mem_of_getElem? (i := 515) (by decide +kernel), List.mem_of_getElem? (i := 516) (by decide +kernel)⟩
theorem lw_p18 : lw_okq (⟨"BeforeThird", "chargesAsLaid", "()I"⟩, 13) := ⟨⟨by decide +kernel, by decide +kernel⟩, List.mem_of_getElem? (i := 21) (by decide +kernel), List.mem_of_getElem? (i := 578) (by decide +kernel), List.mem_of_getElem? (i := 579) (by decide +kernel)⟩
theorem lw_p19 : lw_okq (⟨"BeforeThird", "kindsThatFit", "(I)I"⟩, 13) := ⟨⟨by decide +kernel, by decide +kernel⟩, List.mem_of_getElem? (i := 21) (by decide +kernel), List.mem_of_getElem? (i := 607) (by decide +kernel), List.mem_of_getElem? (i := 608) (by decide +kernel)⟩
theorem lw_p20 : lw_okq (⟨"BeforeThird", "fitsNotes", "(LBeforeThird$Plain;I)Z"⟩, 13) := ⟨⟨by decide +kernel, by decide +kernel⟩, List.mem_of_getElem? (i := 21) (by decide +kernel), List.mem_of_getElem? (i := 611) (by decide +kernel), List.mem_of_getElem? (i := 612) (by decide +kernel)⟩
theorem lw_p21 : lw_okq (⟨"BeforeThird", "fitsNote", "(LBeforeThird$Plain;II)Z"⟩, 13) := ⟨⟨by decide +kernel, by decide +kernel⟩, List.mem_of_getElem? (i := 21) (by decide +kernel), List.mem_of_getElem? (i := 619) (by decide +kernel), List.mem_of_getElem? (i := 620) (by decide +kernel)⟩
theorem lw_p22 : lw_okq (⟨"BeforeThird", "mostAlike", "(III)I"⟩, 13) := ⟨⟨by decide +kernel, by decide +kernel⟩, List.mem_of_getElem? (i := 21) (by decide +kernel), List.mem_of_getElem? (i := 627) (by decide +kernel), List.mem_of_getElem? (i := 628) (by decide +kernel)⟩
theorem lw_p23 : lw_okq (⟨"BeforeThird", "alikeTo", "(LBeforeThird$Plain;III)I"⟩, 13) := ⟨⟨by decide +kernel, by decide +kernel⟩, List.mem_of_getElem? (i := 21) (by decide +kernel), List.mem_of_getElem? (i := 634) (by decide +kernel), List.mem_of_getElem? (i := 635) (by decide +kernel)⟩
theorem lw_p24 : lw_okq (⟨"BeforeThird", "layChargesByExtra", "(I)V"⟩, 13) := ⟨⟨by decide +kernel, by decide +kernel⟩, List.mem_of_getElem? (i := 21) (by decide +kernel), List.mem_of_getElem? (i := 643) (by decide +kernel), List.mem_of_getElem? (i := 644) (by decide +kernel)⟩
theorem lw_p25 : lw_okq (⟨"BeforeThird", "isBestAgainst", "(II)Z"⟩, 13) := ⟨⟨by decide +kernel, by decide +kernel⟩, List.mem_of_getElem? (i := 21) (by decide +kernel), List.mem_of_getElem? (i := 647) (by decide +kernel), List.mem_of_getElem? (i := 648) (by decide +kernel)⟩
theorem lw_p26 : lw_okq (⟨"BeforeThird", "gainOf", "(II)I"⟩, 13) := ⟨⟨by decide +kernel, by decide +kernel⟩, List.mem_of_getElem? (i := 21) (by decide +kernel), List.mem_of_getElem? (i := 651) (by decide +kernel), List.mem_of_getElem? (i := 652) (by decide +kernel)⟩
theorem lw_p27 : lw_okq (⟨"BeforeThird", "setTenths", "(I)V"⟩, 13) := ⟨⟨by decide +kernel, by decide +kernel⟩, List.mem_of_getElem? (i := 21) (by decide +kernel), List.mem_of_getElem? (i := 659) (by decide +kernel), List.mem_of_getElem? (i := 660) (by decide +kernel)⟩
theorem lw_p28 : lw_okq (⟨"BeforeThird", "imageAt", "(I)LBeforeThird$Book;"⟩, 13) := ⟨⟨by decide +kernel, by decide +kernel⟩, List.mem_of_getElem? (i := 21) (by decide +kernel), List.mem_of_getElem? (i := 685) (by decide +kernel), List.mem_of_getElem? (i := 686) (by decide +kernel)⟩
theorem lw_p29 : lw_okq (⟨"BeforeThirdModel", "bad", "()I"⟩, 16) := ⟨⟨by decide +kernel, by decide +kernel⟩, List.mem_of_getElem? (i := 709) (by decide +kernel), List.mem_of_getElem? (i := 774) (by decide +kernel), List.mem_of_getElem? (i := 775) (by decide +kernel)⟩
theorem lw_p30 : lw_okq (⟨"BeforeThirdModel", "full", "()I"⟩, 16) := ⟨⟨by decide +kernel, by decide +kernel⟩, List.mem_of_getElem? (i := 709) (by decide +kernel), List.mem_of_getElem? (i := 782) (by decide +kernel), List.mem_of_getElem? (i := 783) (by decide +kernel)⟩
theorem lw_p31 : lw_okq (⟨"BeforeThirdModel", "isRead", "()Z"⟩, 16) := ⟨⟨by decide +kernel, by decide +kernel⟩, List.mem_of_getElem? (i := 709) (by decide +kernel), List.mem_of_getElem? (i := 801) (by decide +kernel), List.mem_of_getElem? (i := 802) (by decide +kernel)⟩
def lw_privs_2 : List (MethodName × Nat) := [(⟨"BeforeThird", "isBillNumber", "(I)Z"⟩, 13), (⟨"BeforeThird", "foresee", "(I)V"⟩, 13), (⟨"BeforeThird", "chargesAsLaid", "()I"⟩, 13), (⟨"BeforeThird", "kindsThatFit", "(I)I"⟩, 13), (⟨"BeforeThird", "fitsNotes", "(LBeforeThird$Plain;I)Z"⟩, 13), (⟨"BeforeThird", "fitsNote", "(LBeforeThird$Plain;II)Z"⟩, 13), (⟨"BeforeThird", "mostAlike", "(III)I"⟩, 13), (⟨"BeforeThird", "alikeTo", "(LBeforeThird$Plain;III)I"⟩, 13), (⟨"BeforeThird", "layChargesByExtra", "(I)V"⟩, 13), (⟨"BeforeThird", "isBestAgainst", "(II)Z"⟩, 13), (⟨"BeforeThird", "gainOf", "(II)I"⟩, 13), (⟨"BeforeThird", "setTenths", "(I)V"⟩, 13), (⟨"BeforeThird", "imageAt", "(I)LBeforeThird$Book;"⟩, 13), (⟨"BeforeThirdModel", "bad", "()I"⟩, 16), (⟨"BeforeThirdModel", "full", "()I"⟩, 16), (⟨"BeforeThirdModel", "isRead", "()Z"⟩, 16)]
theorem lw_r2 : ∀ q ∈ lw_privs_2, lw_okq q := List.forall_mem_cons.mpr ⟨lw_p16, List.forall_mem_cons.mpr ⟨lw_p17, List.forall_mem_cons.mpr ⟨lw_p18, List.forall_mem_cons.mpr ⟨lw_p19, List.forall_mem_cons.mpr ⟨lw_p20, List.forall_mem_cons.mpr ⟨lw_p21, List.forall_mem_cons.mpr ⟨lw_p22, List.forall_mem_cons.mpr ⟨lw_p23, List.forall_mem_cons.mpr ⟨lw_p24, List.forall_mem_cons.mpr ⟨lw_p25, List.forall_mem_cons.mpr ⟨lw_p26, List.forall_mem_cons.mpr ⟨lw_p27, List.forall_mem_cons.mpr ⟨lw_p28, List.forall_mem_cons.mpr ⟨lw_p29, List.forall_mem_cons.mpr ⟨lw_p30, List.forall_mem_cons.mpr ⟨lw_p31, fun _ h => absurd h List.not_mem_nil⟩⟩⟩⟩⟩⟩⟩⟩⟩⟩⟩⟩⟩⟩⟩⟩
theorem lw_p32 : lw_okq (⟨"BeforeThirdModel", "nextToken", "()V"⟩, 16) := ⟨⟨by decide +kernel, by decide +kernel⟩, List.mem_of_getElem? (i := 709) (by decide +kernel), List.mem_of_getElem? (i := 805) (by decide +kernel), List.mem_of_getElem? (i := 806) (by decide +kernel)⟩
theorem lw_p33 : lw_okq (⟨"BeforeThirdModel", "kindAt", "(I)I"⟩, 16) := ⟨⟨by decide +kernel, by decide +kernel⟩, List.mem_of_getElem? (i := 709) (by decide +kernel), List.mem_of_getElem? (i := 809) (by decide +kernel), List.mem_of_getElem? (i := 810) (by decide +kernel)⟩
theorem lw_p34 : lw_okq (⟨"BeforeThirdModel", "isItem", "()Z"⟩, 16) := ⟨⟨by decide +kernel, by decide +kernel⟩, List.mem_of_getElem? (i := 709) (by decide +kernel), List.mem_of_getElem? (i := 815) (by decide +kernel), List.mem_of_getElem? (i := 816) (by decide +kernel)⟩
theorem lw_p35 : lw_okq (⟨"BeforeThirdModel", "isOne", "(III)Z"⟩, 16) := ⟨⟨by decide +kernel, by decide +kernel⟩, List.mem_of_getElem? (i := 709) (by decide +kernel), List.mem_of_getElem? (i := 820) (by decide +kernel), List.mem_of_getElem? (i := 821) (by decide +kernel)⟩
theorem lw_p36 : lw_okq (⟨"BeforeThirdModel", "isNumber", "(II)Z"⟩, 16) := ⟨⟨by decide +kernel, by decide +kernel⟩, List.mem_of_getElem? (i := 709) (by decide +kernel), List.mem_of_getElem? (i := 824) (by decide +kernel), List.mem_of_getElem? (i := 825) (by decide +kernel)⟩
theorem lw_p37 : lw_okq (⟨"BeforeThirdModel", "isBillItem", "()Z"⟩, 16) := ⟨⟨by decide +kernel, by decide +kernel⟩, List.mem_of_getElem? (i := 709) (by decide +kernel), List.mem_of_getElem? (i := 829) (by decide +kernel), List.mem_of_getElem? (i := 830) (by decide +kernel)⟩
theorem lw_p38 : lw_okq (⟨"BeforeThirdModel", "keepBack", "()V"⟩, 16) := ⟨⟨by decide +kernel, by decide +kernel⟩, List.mem_of_getElem? (i := 709) (by decide +kernel), List.mem_of_getElem? (i := 842) (by decide +kernel), List.mem_of_getElem? (i := 843) (by decide +kernel)⟩
theorem lw_p39 : lw_okq (⟨"BeforeThirdModel", "no", "()I"⟩, 16) := ⟨⟨by decide +kernel, by decide +kernel⟩, List.mem_of_getElem? (i := 709) (by decide +kernel), List.mem_of_getElem? (i := 866) (by decide +kernel), List.mem_of_getElem? (i := 867) (by decide +kernel)⟩
theorem lw_p40 : lw_okq (⟨"BeforeThirdModel", "isBill", "(I)Z"⟩, 16) := ⟨⟨by decide +kernel, by decide +kernel⟩, List.mem_of_getElem? (i := 709) (by decide +kernel), List.mem_of_getElem? (i := 878) (by decide +kernel), List.mem_of_getElem? (i := 879) (by decide +kernel)⟩
theorem lw_p41 : lw_okq (⟨"BeforeThirdModel", "badBy", "(I)I"⟩, 16) := ⟨⟨by decide +kernel, by decide +kernel⟩, List.mem_of_getElem? (i := 709) (by decide +kernel), List.mem_of_getElem? (i := 882) (by decide +kernel), List.mem_of_getElem? (i := 883) (by decide +kernel)⟩
theorem lw_p42 : lw_okq (⟨"BeforeThirdModel", "copyNow", "()V"⟩, 16) := ⟨⟨by decide +kernel, by decide +kernel⟩, List.mem_of_getElem? (i := 709) (by decide +kernel), List.mem_of_getElem? (i := 899) (by decide +kernel), List.mem_of_getElem? (i := 900) (by decide +kernel)⟩
theorem lw_p43 : lw_okq (⟨"BeforeThirdModel", "chargesOn", "(II)I"⟩, 16) := ⟨⟨by decide +kernel, by decide +kernel⟩, List.mem_of_getElem? (i := 709) (by decide +kernel), List.mem_of_getElem? (i := 903) (by decide +kernel), List.mem_of_getElem? (i := 904) (by decide +kernel)⟩
theorem lw_p44 : lw_okq (⟨"BeforeThirdModel", "belowIn", "(II)I"⟩, 16) := ⟨⟨by decide +kernel, by decide +kernel⟩, List.mem_of_getElem? (i := 709) (by decide +kernel), List.mem_of_getElem? (i := 915) (by decide +kernel), List.mem_of_getElem? (i := 916) (by decide +kernel)⟩
theorem lw_p45 : lw_okq (⟨"BeforeThirdModel", "kindsOf", "(I)I"⟩, 16) := ⟨⟨by decide +kernel, by decide +kernel⟩, List.mem_of_getElem? (i := 709) (by decide +kernel), List.mem_of_getElem? (i := 951) (by decide +kernel), List.mem_of_getElem? (i := 952) (by decide +kernel)⟩
theorem lw_p46 : lw_okq (⟨"BeforeThirdModel", "alikeBy", "(IIII)I"⟩, 16) := ⟨⟨by decide +kernel, by decide +kernel⟩, List.mem_of_getElem? (i := 709) (by decide +kernel), List.mem_of_getElem? (i := 959) (by decide +kernel), List.mem_of_getElem? (i := 960) (by decide +kernel)⟩
theorem lw_p47 : lw_okq (⟨"BeforeThirdModel", "rests", "(III)Z"⟩, 16) := ⟨⟨by decide +kernel, by decide +kernel⟩, List.mem_of_getElem? (i := 709) (by decide +kernel), List.mem_of_getElem? (i := 967) (by decide +kernel), List.mem_of_getElem? (i := 968) (by decide +kernel)⟩
def lw_privs_3 : List (MethodName × Nat) := [(⟨"BeforeThirdModel", "nextToken", "()V"⟩, 16), (⟨"BeforeThirdModel", "kindAt", "(I)I"⟩, 16), (⟨"BeforeThirdModel", "isItem", "()Z"⟩, 16), (⟨"BeforeThirdModel", "isOne", "(III)Z"⟩, 16), (⟨"BeforeThirdModel", "isNumber", "(II)Z"⟩, 16), (⟨"BeforeThirdModel", "isBillItem", "()Z"⟩, 16), (⟨"BeforeThirdModel", "keepBack", "()V"⟩, 16), (⟨"BeforeThirdModel", "no", "()I"⟩, 16), (⟨"BeforeThirdModel", "isBill", "(I)Z"⟩, 16), (⟨"BeforeThirdModel", "badBy", "(I)I"⟩, 16), (⟨"BeforeThirdModel", "copyNow", "()V"⟩, 16), (⟨"BeforeThirdModel", "chargesOn", "(II)I"⟩, 16), (⟨"BeforeThirdModel", "belowIn", "(II)I"⟩, 16), (⟨"BeforeThirdModel", "kindsOf", "(I)I"⟩, 16), (⟨"BeforeThirdModel", "alikeBy", "(IIII)I"⟩, 16), (⟨"BeforeThirdModel", "rests", "(III)Z"⟩, 16)]
theorem lw_r3 : ∀ q ∈ lw_privs_3, lw_okq q := List.forall_mem_cons.mpr ⟨lw_p32, List.forall_mem_cons.mpr ⟨lw_p33, List.forall_mem_cons.mpr ⟨lw_p34, List.forall_mem_cons.mpr ⟨lw_p35, List.forall_mem_cons.mpr ⟨lw_p36, List.forall_mem_cons.mpr ⟨lw_p37, List.forall_mem_cons.mpr ⟨lw_p38, List.forall_mem_cons.mpr ⟨lw_p39, List.forall_mem_cons.mpr ⟨lw_p40, List.forall_mem_cons.mpr ⟨lw_p41, List.forall_mem_cons.mpr ⟨lw_p42, List.forall_mem_cons.mpr ⟨lw_p43, List.forall_mem_cons.mpr ⟨lw_p44, List.forall_mem_cons.mpr ⟨lw_p45, List.forall_mem_cons.mpr ⟨lw_p46, List.forall_mem_cons.mpr ⟨lw_p47, fun _ h => absurd h List.not_mem_nil⟩⟩⟩⟩⟩⟩⟩⟩⟩⟩⟩⟩⟩⟩⟩⟩
theorem lw_p48 : lw_okq (⟨"BeforeThirdModel", "gets", "(III)I"⟩, 16) := ⟨⟨by decide +kernel, by decide +kernel⟩, List.mem_of_getElem? (i := 709) (by decide +kernel), List.mem_of_getElem? (i := 971) (by decide +kernel), List.mem_of_getElem? (i := 972) (by decide +kernel)⟩
theorem lw_p49 : lw_okq (⟨"BeforeThirdModel", "counted", "(I)I"⟩, 16) := ⟨⟨by decide +kernel, by decide +kernel⟩, List.mem_of_getElem? (i := 709) (by decide +kernel), List.mem_of_getElem? (i := 1010) (by decide +kernel), List.mem_of_getElem? (i := 1011) (by decide +kernel)⟩
def lw_privs_4 : List (MethodName × Nat) := [(⟨"BeforeThirdModel", "gets", "(III)I"⟩, 16), (⟨"BeforeThirdModel", "counted", "(I)I"⟩, 16)]
theorem lw_r4 : ∀ q ∈ lw_privs_4, lw_okq q := List.forall_mem_cons.mpr ⟨lw_p48, List.forall_mem_cons.mpr ⟨lw_p49, fun _ h => absurd h List.not_mem_nil⟩⟩
def lw_privs : List (MethodName × Nat) := lw_privs_1 ++ (lw_privs_2 ++ (lw_privs_3 ++ (lw_privs_4)))
def lw_tbl : List Cond := k2_sels lw_privs ++ tables_1
theorem lw_privs_ok : ∀ q ∈ lw_privs, lw_okq q := by
  show ∀ q ∈ lw_privs_1 ++ (lw_privs_2 ++ (lw_privs_3 ++ (lw_privs_4))), lw_okq q
  exact List.forall_mem_append.mpr ⟨lw_r1, List.forall_mem_append.mpr ⟨lw_r2, List.forall_mem_append.mpr ⟨lw_r3, lw_r4⟩⟩⟩
def RX0 : String := "BeforeThird$Book"
def TX0 : u_T := fun k => match k with
  | 0 => ("BeforeThird$Book", "figures", "[I", true)
  | 1 => ("BeforeThird$Book", "bills", "[I", true)
  | 2 => ("BeforeThird$Book", "notes", "[I", true)
  | 3 => ("BeforeThird$Book", "past", "[I", true)
  | 4 => ("BeforeThird$Book", "billCount", "I", false)
  | 5 => ("BeforeThird$Book", "noteCount", "I", false)
  | _ => ("BeforeThird$Book", "pastCount", "I", false)
def tyX0 : Nat → FieldType := fun k => match k with
  | 0 => .array .int
  | 1 => .array .int
  | 2 => .array .int
  | 3 => .array .int
  | 4 => .int
  | 5 => .int
  | _ => .int
abbrev wsX00 : List Cond := u_ws RX0 TX0 7
theorem nmX0 : ∀ a, a < 7 → ∀ b, b < 7 → a ≠ b → (TX0 a).2.1 ≠ (TX0 b).2.1 := by decide +kernel
theorem tyX0_ok : ∀ k, k < 7 → parseFieldDescriptor (TX0 k).2.2.1 = some (tyX0 k) := by decide +kernel
abbrev cX0_init : ByteArray := prog_2_method_1_code
def yX0_init : MethodName := ⟨RX0, "<init>", "()V"⟩
abbrev cX0_beginWith : ByteArray := prog_2_method_2_code
def yX0_beginWith : MethodName := ⟨RX0, "beginWith", "(I)V"⟩
abbrev cX0_addBill : ByteArray := prog_2_method_3_code
def yX0_addBill : MethodName := ⟨RX0, "addBill", "(III)V"⟩
abbrev cX0_kindAt : ByteArray := prog_2_method_4_code
def yX0_kindAt : MethodName := ⟨RX0, "kindAt", "(I)I"⟩
abbrev cX0_dayAt : ByteArray := prog_2_method_5_code
def yX0_dayAt : MethodName := ⟨RX0, "dayAt", "(I)I"⟩
abbrev cX0_poundsAt : ByteArray := prog_2_method_6_code
def yX0_poundsAt : MethodName := ⟨RX0, "poundsAt", "(I)I"⟩
abbrev cX0_billPart : ByteArray := prog_2_method_7_code
def yX0_billPart : MethodName := ⟨RX0, "billPart", "(II)I"⟩
abbrev cX0_addNote : ByteArray := prog_2_method_8_code
def yX0_addNote : MethodName := ⟨RX0, "addNote", "(IIIII)V"⟩
abbrev cX0_notePart : ByteArray := prog_2_method_9_code
def yX0_notePart : MethodName := ⟨RX0, "notePart", "(II)I"⟩
abbrev cX0_keepPast : ByteArray := prog_2_method_10_code
def yX0_keepPast : MethodName := ⟨RX0, "keepPast", "()V"⟩
abbrev cX0_stepBack : ByteArray := prog_2_method_11_code
def yX0_stepBack : MethodName := ⟨RX0, "stepBack", "()V"⟩
abbrev cX0_copyFrom : ByteArray := prog_2_method_12_code
def yX0_copyFrom : MethodName := ⟨RX0, "copyFrom", "(LBeforeThird$Book;)V"⟩
def RX1 : String := "BeforeThird$Card"
def TX1 : u_T := fun k => match k with
  | _ => ("", "", "", false)
def tyX1 : Nat → FieldType := fun k => match k with
  | _ => .int
abbrev wsX10 : List Cond := u_ws RX1 TX1 0
theorem nmX1 : ∀ a, a < 0 → ∀ b, b < 0 → a ≠ b → (TX1 a).2.1 ≠ (TX1 b).2.1 := by decide +kernel
theorem tyX1_ok : ∀ k, k < 0 → parseFieldDescriptor (TX1 k).2.2.1 = some (tyX1 k) := by decide +kernel
abbrev cX1_init : ByteArray := prog_3_method_1_code
def yX1_init : MethodName := ⟨RX1, "<init>", "()V"⟩
abbrev cX1_drawnOn : ByteArray := prog_3_method_2_code
def yX1_drawnOn : MethodName := ⟨RX1, "drawnOn", "(I)I"⟩
def RX2 : String := "BeforeThird$Kinds"
def TX2 : u_T := fun k => match k with
  | 0 => ("BeforeThird$Kinds", "plain", "LBeforeThird$Plain;", true)
  | 1 => ("BeforeThird$Kinds", "moved", "LBeforeThird$Moved;", true)
  | 2 => ("BeforeThird$Kinds", "quarter", "LBeforeThird$Quarter;", true)
  | 3 => ("BeforeThird$Kinds", "card", "LBeforeThird$Card;", true)
  | 4 => ("BeforeThird$Kinds", "yearly", "LBeforeThird$Yearly;", true)
  | _ => ("BeforeThird$Kinds", "pay", "LBeforeThird$Pay;", true)
def tyX2 : Nat → FieldType := fun k => match k with
  | 0 => .object "BeforeThird$Plain"
  | 1 => .object "BeforeThird$Moved"
  | 2 => .object "BeforeThird$Quarter"
  | 3 => .object "BeforeThird$Card"
  | 4 => .object "BeforeThird$Yearly"
  | _ => .object "BeforeThird$Pay"
abbrev wsX20 : List Cond := u_ws RX2 TX2 6
theorem nmX2 : ∀ a, a < 6 → ∀ b, b < 6 → a ≠ b → (TX2 a).2.1 ≠ (TX2 b).2.1 := by decide +kernel
theorem tyX2_ok : ∀ k, k < 6 → parseFieldDescriptor (TX2 k).2.2.1 = some (tyX2 k) := by decide +kernel
abbrev cX2_init : ByteArray := prog_4_method_1_code
def yX2_init : MethodName := ⟨RX2, "<init>", "()V"⟩
abbrev cX2_numbered : ByteArray := prog_4_method_2_code
def yX2_numbered : MethodName := ⟨RX2, "numbered", "(I)LBeforeThird$Plain;"⟩
def RX3 : String := "BeforeThird$Moved"
def TX3 : u_T := fun k => match k with
  | _ => ("", "", "", false)
def tyX3 : Nat → FieldType := fun k => match k with
  | _ => .int
abbrev wsX30 : List Cond := u_ws RX3 TX3 0
theorem nmX3 : ∀ a, a < 0 → ∀ b, b < 0 → a ≠ b → (TX3 a).2.1 ≠ (TX3 b).2.1 := by decide +kernel
theorem tyX3_ok : ∀ k, k < 0 → parseFieldDescriptor (TX3 k).2.2.1 = some (tyX3 k) := by decide +kernel
abbrev cX3_init : ByteArray := prog_5_method_1_code
def yX3_init : MethodName := ⟨RX3, "<init>", "()V"⟩
abbrev cX3_drawnOn : ByteArray := prog_5_method_2_code
def yX3_drawnOn : MethodName := ⟨RX3, "drawnOn", "(I)I"⟩
def RX4 : String := "BeforeThird$Outlook"
def TX4 : u_T := fun k => match k with
  | 0 => ("BeforeThird$Outlook", "kinds", "LBeforeThird$Kinds;", true)
  | 1 => ("BeforeThird$Outlook", "draws", "[I", true)
  | 2 => ("BeforeThird$Outlook", "length", "I", false)
  | 3 => ("BeforeThird$Outlook", "left", "I", false)
  | 4 => ("BeforeThird$Outlook", "charges", "I", false)
  | 5 => ("BeforeThird$Outlook", "least", "I", false)
  | 6 => ("BeforeThird$Outlook", "leastIn", "I", false)
  | _ => ("BeforeThird$Outlook", "belowIn", "I", false)
def tyX4 : Nat → FieldType := fun k => match k with
  | 0 => .object "BeforeThird$Kinds"
  | 1 => .array .int
  | 2 => .int
  | 3 => .int
  | 4 => .int
  | 5 => .int
  | 6 => .int
  | _ => .int
abbrev wsX40 : List Cond := u_ws RX4 TX4 8
theorem nmX4 : ∀ a, a < 8 → ∀ b, b < 8 → a ≠ b → (TX4 a).2.1 ≠ (TX4 b).2.1 := by decide +kernel
theorem tyX4_ok : ∀ k, k < 8 → parseFieldDescriptor (TX4 k).2.2.1 = some (tyX4 k) := by decide +kernel
abbrev cX4_init : ByteArray := prog_6_method_1_code
def yX4_init : MethodName := ⟨RX4, "<init>", "()V"⟩
abbrev cX4_lay : ByteArray := prog_6_method_2_code
def yX4_lay : MethodName := ⟨RX4, "lay", "(LBeforeThird$Book;I)V"⟩
abbrev cX4_put : ByteArray := prog_6_method_3_code
def yX4_put : MethodName := ⟨RX4, "put", "(LBeforeThird$Book;III)V"⟩
abbrev cX4_drawMore : ByteArray := prog_6_method_4_code
def yX4_drawMore : MethodName := ⟨RX4, "drawMore", "(II)V"⟩
abbrev cX4_run : ByteArray := prog_6_method_5_code
def yX4_run : MethodName := ⟨RX4, "run", "(II)V"⟩
abbrev cX4_mostSpending : ByteArray := prog_6_method_6_code
def yX4_mostSpending : MethodName := ⟨RX4, "mostSpending", "(I)I"⟩
abbrev cX4_leastMore : ByteArray := prog_6_method_7_code
def yX4_leastMore : MethodName := ⟨RX4, "leastMore", "(II)I"⟩
def RX5 : String := "BeforeThird$Pay"
def TX5 : u_T := fun k => match k with
  | _ => ("", "", "", false)
def tyX5 : Nat → FieldType := fun k => match k with
  | _ => .int
abbrev wsX50 : List Cond := u_ws RX5 TX5 0
theorem nmX5 : ∀ a, a < 0 → ∀ b, b < 0 → a ≠ b → (TX5 a).2.1 ≠ (TX5 b).2.1 := by decide +kernel
theorem tyX5_ok : ∀ k, k < 0 → parseFieldDescriptor (TX5 k).2.2.1 = some (tyX5 k) := by decide +kernel
abbrev cX5_init : ByteArray := prog_7_method_1_code
def yX5_init : MethodName := ⟨RX5, "<init>", "()V"⟩
abbrev cX5_poundsIn : ByteArray := prog_7_method_2_code
def yX5_poundsIn : MethodName := ⟨RX5, "poundsIn", "(II)I"⟩
def RX6 : String := "BeforeThird$Plain"
def TX6 : u_T := fun k => match k with
  | _ => ("", "", "", false)
def tyX6 : Nat → FieldType := fun k => match k with
  | _ => .int
abbrev wsX60 : List Cond := u_ws RX6 TX6 0
theorem nmX6 : ∀ a, a < 0 → ∀ b, b < 0 → a ≠ b → (TX6 a).2.1 ≠ (TX6 b).2.1 := by decide +kernel
theorem tyX6_ok : ∀ k, k < 0 → parseFieldDescriptor (TX6 k).2.2.1 = some (tyX6 k) := by decide +kernel
abbrev cX6_init : ByteArray := prog_8_method_1_code
def yX6_init : MethodName := ⟨RX6, "<init>", "()V"⟩
abbrev cX6_drawnOn : ByteArray := prog_8_method_2_code
def yX6_drawnOn : MethodName := ⟨RX6, "drawnOn", "(I)I"⟩
abbrev cX6_poundsIn : ByteArray := prog_8_method_3_code
def yX6_poundsIn : MethodName := ⟨RX6, "poundsIn", "(II)I"⟩
def RX7 : String := "BeforeThird$Quarter"
def TX7 : u_T := fun k => match k with
  | _ => ("", "", "", false)
def tyX7 : Nat → FieldType := fun k => match k with
  | _ => .int
abbrev wsX70 : List Cond := u_ws RX7 TX7 0
theorem nmX7 : ∀ a, a < 0 → ∀ b, b < 0 → a ≠ b → (TX7 a).2.1 ≠ (TX7 b).2.1 := by decide +kernel
theorem tyX7_ok : ∀ k, k < 0 → parseFieldDescriptor (TX7 k).2.2.1 = some (tyX7 k) := by decide +kernel
abbrev cX7_init : ByteArray := prog_9_method_1_code
def yX7_init : MethodName := ⟨RX7, "<init>", "()V"⟩
abbrev cX7_poundsIn : ByteArray := prog_9_method_2_code
def yX7_poundsIn : MethodName := ⟨RX7, "poundsIn", "(II)I"⟩
def RX8 : String := "BeforeThird$Reader"
def TX8 : u_T := fun k => match k with
  | 0 => ("BeforeThird$Reader", "text", "[B", true)
  | 1 => ("BeforeThird$Reader", "draft", "LBeforeThird$Book;", true)
  | 2 => ("BeforeThird$Reader", "length", "I", false)
  | 3 => ("BeforeThird$Reader", "start", "I", false)
  | 4 => ("BeforeThird$Reader", "next", "I", false)
  | 5 => ("BeforeThird$Reader", "sort", "I", false)
  | _ => ("BeforeThird$Reader", "value", "I", false)
def tyX8 : Nat → FieldType := fun k => match k with
  | 0 => .array .byte
  | 1 => .object "BeforeThird$Book"
  | 2 => .int
  | 3 => .int
  | 4 => .int
  | 5 => .int
  | _ => .int
abbrev wsX80 : List Cond := u_ws RX8 TX8 7
theorem nmX8 : ∀ a, a < 7 → ∀ b, b < 7 → a ≠ b → (TX8 a).2.1 ≠ (TX8 b).2.1 := by decide +kernel
theorem tyX8_ok : ∀ k, k < 7 → parseFieldDescriptor (TX8 k).2.2.1 = some (tyX8 k) := by decide +kernel
abbrev cX8_init : ByteArray := prog_10_method_1_code
def yX8_init : MethodName := ⟨RX8, "<init>", "()V"⟩
abbrev cX8_addByte : ByteArray := prog_10_method_2_code
def yX8_addByte : MethodName := ⟨RX8, "addByte", "(I)V"⟩
abbrev cX8_itemsOrFault : ByteArray := prog_10_method_3_code
def yX8_itemsOrFault : MethodName := ⟨RX8, "itemsOrFault", "()I"⟩
abbrev cX8_takeItem : ByteArray := prog_10_method_4_code
def yX8_takeItem : MethodName := ⟨RX8, "takeItem", "(Z)Z"⟩
abbrev cX8_takeAccount : ByteArray := prog_10_method_5_code
def yX8_takeAccount : MethodName := ⟨RX8, "takeAccount", "()Z"⟩
abbrev cX8_takeBill : ByteArray := prog_10_method_6_code
def yX8_takeBill : MethodName := ⟨RX8, "takeBill", "()Z"⟩
abbrev cX8_takeFigure : ByteArray := prog_10_method_7_code
def yX8_takeFigure : MethodName := ⟨RX8, "takeFigure", "(II)Z"⟩
abbrev cX8_takeNumber : ByteArray := prog_10_method_8_code
def yX8_takeNumber : MethodName := ⟨RX8, "takeNumber", "(II)Z"⟩
abbrev cX8_takeStop : ByteArray := prog_10_method_9_code
def yX8_takeStop : MethodName := ⟨RX8, "takeStop", "()Z"⟩
abbrev cX8_spells : ByteArray := prog_10_method_10_code
def yX8_spells : MethodName := ⟨RX8, "spells", "(Ljava/lang/String;)Z"⟩
abbrev cX8_takeToken : ByteArray := prog_10_method_11_code
def yX8_takeToken : MethodName := ⟨RX8, "takeToken", "()V"⟩
abbrev cX8_skipRun : ByteArray := prog_10_method_12_code
def yX8_skipRun : MethodName := ⟨RX8, "skipRun", "(II)V"⟩
abbrev cX8_byteAt : ByteArray := prog_10_method_13_code
def yX8_byteAt : MethodName := ⟨RX8, "byteAt", "(I)I"⟩
def RX9 : String := "BeforeThird$Yearly"
def TX9 : u_T := fun k => match k with
  | _ => ("", "", "", false)
def tyX9 : Nat → FieldType := fun k => match k with
  | _ => .int
abbrev wsX90 : List Cond := u_ws RX9 TX9 0
theorem nmX9 : ∀ a, a < 0 → ∀ b, b < 0 → a ≠ b → (TX9 a).2.1 ≠ (TX9 b).2.1 := by decide +kernel
theorem tyX9_ok : ∀ k, k < 0 → parseFieldDescriptor (TX9 k).2.2.1 = some (tyX9 k) := by decide +kernel
abbrev cX9_init : ByteArray := prog_11_method_1_code
def yX9_init : MethodName := ⟨RX9, "<init>", "()V"⟩
abbrev cX9_poundsIn : ByteArray := prog_11_method_2_code
def yX9_poundsIn : MethodName := ⟨RX9, "poundsIn", "(II)I"⟩
def RX10 : String := "BeforeThird"
def TX10 : u_T := fun k => match k with
  | 0 => ("BeforeThird", "book", "LBeforeThird$Book;", true)
  | 1 => ("BeforeThird", "imageZero", "LBeforeThird$Book;", true)
  | 2 => ("BeforeThird", "imageOne", "LBeforeThird$Book;", true)
  | 3 => ("BeforeThird", "kept", "[Z", true)
  | 4 => ("BeforeThird", "reader", "LBeforeThird$Reader;", true)
  | 5 => ("BeforeThird", "outlook", "LBeforeThird$Outlook;", true)
  | 6 => ("BeforeThird", "kinds", "LBeforeThird$Kinds;", true)
  | 7 => ("BeforeThird", "chargesByExtra", "[I", true)
  | 8 => ("BeforeThird", "fractionAbove", "J", false)
  | 9 => ("BeforeThird", "fractionBelow", "J", false)
  | 10 => ("BeforeThird", "badCalls", "I", false)
  | 11 => ("BeforeThird", "noCalls", "I", false)
  | _ => ("BeforeThird", "fullCalls", "I", false)
def tyX10 : Nat → FieldType := fun k => match k with
  | 0 => .object "BeforeThird$Book"
  | 1 => .object "BeforeThird$Book"
  | 2 => .object "BeforeThird$Book"
  | 3 => .array .boolean
  | 4 => .object "BeforeThird$Reader"
  | 5 => .object "BeforeThird$Outlook"
  | 6 => .object "BeforeThird$Kinds"
  | 7 => .array .int
  | 8 => .long
  | 9 => .long
  | 10 => .int
  | 11 => .int
  | _ => .int
abbrev wsX100 : List Cond := u_ws RX10 TX10 13
theorem nmX10 : ∀ a, a < 13 → ∀ b, b < 13 → a ≠ b → (TX10 a).2.1 ≠ (TX10 b).2.1 := by decide +kernel
theorem tyX10_ok : ∀ k, k < 13 → parseFieldDescriptor (TX10 k).2.2.1 = some (tyX10 k) := by decide +kernel
abbrev cX10_init : ByteArray := prog_1_method_1_code
def yX10_init : MethodName := ⟨RX10, "<init>", "()V"⟩
abbrev cX10_account : ByteArray := prog_1_method_2_code
def yX10_account : MethodName := ⟨RX10, "account", "(I)I"⟩
abbrev cX10_bill : ByteArray := prog_1_method_3_code
def yX10_bill : MethodName := ⟨RX10, "bill", "(III)I"⟩
abbrev cX10_type : ByteArray := prog_1_method_4_code
def yX10_type : MethodName := ⟨RX10, "type", "(I)I"⟩
abbrev cX10_clear : ByteArray := prog_1_method_5_code
def yX10_clear : MethodName := ⟨RX10, "clear", "()I"⟩
abbrev cX10_read : ByteArray := prog_1_method_6_code
def yX10_read : MethodName := ⟨RX10, "read", "()I"⟩
abbrev cX10_days : ByteArray := prog_1_method_7_code
def yX10_days : MethodName := ⟨RX10, "days", "(I)I"⟩
abbrev cX10_spend : ByteArray := prog_1_method_8_code
def yX10_spend : MethodName := ⟨RX10, "spend", "(I)I"⟩
abbrev cX10_jar : ByteArray := prog_1_method_9_code
def yX10_jar : MethodName := ⟨RX10, "jar", "(I)I"⟩
abbrev cX10_undo : ByteArray := prog_1_method_10_code
def yX10_undo : MethodName := ⟨RX10, "undo", "()I"⟩
abbrev cX10_of : ByteArray := prog_1_method_11_code
def yX10_of : MethodName := ⟨RX10, "of", "(II)I"⟩
abbrev cX10_now : ByteArray := prog_1_method_12_code
def yX10_now : MethodName := ⟨RX10, "now", "(I)I"⟩
abbrev cX10_truly : ByteArray := prog_1_method_13_code
def yX10_truly : MethodName := ⟨RX10, "truly", "()I"⟩
abbrev cX10_then : ByteArray := prog_1_method_14_code
def yX10_then : MethodName := ⟨RX10, "then", "(II)I"⟩
abbrev cX10_low : ByteArray := prog_1_method_15_code
def yX10_low : MethodName := ⟨RX10, "low", "(II)I"⟩
abbrev cX10_below : ByteArray := prog_1_method_16_code
def yX10_below : MethodName := ⟨RX10, "below", "()I"⟩
abbrev cX10_most : ByteArray := prog_1_method_17_code
def yX10_most : MethodName := ⟨RX10, "most", "(I)I"⟩
abbrev cX10_need : ByteArray := prog_1_method_18_code
def yX10_need : MethodName := ⟨RX10, "need", "(I)I"⟩
abbrev cX10_move : ByteArray := prog_1_method_19_code
def yX10_move : MethodName := ⟨RX10, "move", "()I"⟩
abbrev cX10_monthly : ByteArray := prog_1_method_20_code
def yX10_monthly : MethodName := ⟨RX10, "monthly", "(I)I"⟩
abbrev cX10_dear : ByteArray := prog_1_method_21_code
def yX10_dear : MethodName := ⟨RX10, "dear", "()I"⟩
abbrev cX10_note : ByteArray := prog_1_method_22_code
def yX10_note : MethodName := ⟨RX10, "note", "(IIIII)I"⟩
abbrev cX10_forget : ByteArray := prog_1_method_23_code
def yX10_forget : MethodName := ⟨RX10, "forget", "()I"⟩
abbrev cX10_is : ByteArray := prog_1_method_24_code
def yX10_is : MethodName := ⟨RX10, "is", "(I)I"⟩
abbrev cX10_look : ByteArray := prog_1_method_25_code
def yX10_look : MethodName := ⟨RX10, "look", "(I)I"⟩
abbrev cX10_two : ByteArray := prog_1_method_26_code
def yX10_two : MethodName := ⟨RX10, "two", "(II)I"⟩
abbrev cX10_boiler : ByteArray := prog_1_method_27_code
def yX10_boiler : MethodName := ⟨RX10, "boiler", "(III)I"⟩
abbrev cX10_years : ByteArray := prog_1_method_28_code
def yX10_years : MethodName := ⟨RX10, "years", "(II)I"⟩
abbrev cX10_part : ByteArray := prog_1_method_29_code
def yX10_part : MethodName := ⟨RX10, "part", "(I)J"⟩
abbrev cX10_image : ByteArray := prog_1_method_30_code
def yX10_image : MethodName := ⟨RX10, "image", "(I)I"⟩
abbrev cX10_from : ByteArray := prog_1_method_31_code
def yX10_from : MethodName := ⟨RX10, "from", "(I)I"⟩
abbrev cX10_status : ByteArray := prog_1_method_32_code
def yX10_status : MethodName := ⟨RX10, "status", "(I)I"⟩
abbrev cX10_count : ByteArray := prog_1_method_33_code
def yX10_count : MethodName := ⟨RX10, "count", "(I)I"⟩
abbrev cX10_digest : ByteArray := prog_1_method_34_code
def yX10_digest : MethodName := ⟨RX10, "digest", "()J"⟩
abbrev cX10_digestOf : ByteArray := prog_1_method_35_code
def yX10_digestOf : MethodName := ⟨RX10, "digestOf", "(J[II)J"⟩
abbrev cX10_within : ByteArray := prog_1_method_36_code
def yX10_within : MethodName := ⟨RX10, "within", "(III)Z"⟩
abbrev cX10_isBill : ByteArray := prog_1_method_37_code
def yX10_isBill : MethodName := ⟨RX10, "isBill", "(III)Z"⟩
abbrev cX10_isBillNumber : ByteArray := prog_1_method_38_code
def yX10_isBillNumber : MethodName := ⟨RX10, "isBillNumber", "(I)Z"⟩
abbrev cX10_refuseBad : ByteArray := prog_1_method_39_code
def yX10_refuseBad : MethodName := ⟨RX10, "refuseBad", "(I)I"⟩
abbrev cX10_refuseNo : ByteArray := prog_1_method_40_code
def yX10_refuseNo : MethodName := ⟨RX10, "refuseNo", "()I"⟩
abbrev cX10_refuseFull : ByteArray := prog_1_method_41_code
def yX10_refuseFull : MethodName := ⟨RX10, "refuseFull", "()I"⟩
abbrev cX10_imageAt : ByteArray := prog_1_method_42_code
def yX10_imageAt : MethodName := ⟨RX10, "imageAt", "(I)LBeforeThird$Book;"⟩
abbrev cX10_passDay : ByteArray := prog_1_method_43_code
def yX10_passDay : MethodName := ⟨RX10, "passDay", "()V"⟩
abbrev cX10_drawnToday : ByteArray := prog_1_method_44_code
def yX10_drawnToday : MethodName := ⟨RX10, "drawnToday", "()I"⟩
abbrev cX10_foresee : ByteArray := prog_1_method_45_code
def yX10_foresee : MethodName := ⟨RX10, "foresee", "(I)V"⟩
abbrev cX10_chargesAsLaid : ByteArray := prog_1_method_46_code
def yX10_chargesAsLaid : MethodName := ⟨RX10, "chargesAsLaid", "()I"⟩
abbrev cX10_kindsThatFit : ByteArray := prog_1_method_47_code
def yX10_kindsThatFit : MethodName := ⟨RX10, "kindsThatFit", "(I)I"⟩
abbrev cX10_fitsNotes : ByteArray := prog_1_method_48_code
def yX10_fitsNotes : MethodName := ⟨RX10, "fitsNotes", "(LBeforeThird$Plain;I)Z"⟩
abbrev cX10_fitsNote : ByteArray := prog_1_method_49_code
def yX10_fitsNote : MethodName := ⟨RX10, "fitsNote", "(LBeforeThird$Plain;II)Z"⟩
abbrev cX10_mostAlike : ByteArray := prog_1_method_50_code
def yX10_mostAlike : MethodName := ⟨RX10, "mostAlike", "(III)I"⟩
abbrev cX10_alikeTo : ByteArray := prog_1_method_51_code
def yX10_alikeTo : MethodName := ⟨RX10, "alikeTo", "(LBeforeThird$Plain;III)I"⟩
abbrev cX10_hasBit : ByteArray := prog_1_method_52_code
def yX10_hasBit : MethodName := ⟨RX10, "hasBit", "(II)Z"⟩
abbrev cX10_layChargesByExtra : ByteArray := prog_1_method_53_code
def yX10_layChargesByExtra : MethodName := ⟨RX10, "layChargesByExtra", "(I)V"⟩
abbrev cX10_isBestAgainst : ByteArray := prog_1_method_54_code
def yX10_isBestAgainst : MethodName := ⟨RX10, "isBestAgainst", "(II)Z"⟩
abbrev cX10_gainOf : ByteArray := prog_1_method_55_code
def yX10_gainOf : MethodName := ⟨RX10, "gainOf", "(II)I"⟩
abbrev cX10_setTenths : ByteArray := prog_1_method_56_code
def yX10_setTenths : MethodName := ⟨RX10, "setTenths", "(I)V"⟩
def RX11 : String := "BeforeThirdModel"
def TX11 : u_T := fun k => match k with
  | 0 => ("BeforeThirdModel", "now", "[I", true)
  | 1 => ("BeforeThirdModel", "tried", "[I", true)
  | 2 => ("BeforeThirdModel", "read", "[I", true)
  | 3 => ("BeforeThirdModel", "image", "[I", true)
  | 4 => ("BeforeThirdModel", "isKept", "[Z", true)
  | 5 => ("BeforeThirdModel", "refused", "[I", true)
  | 6 => ("BeforeThirdModel", "upper", "J", false)
  | 7 => ("BeforeThirdModel", "lower", "J", false)
  | 8 => ("BeforeThirdModel", "letters", "I", false)
  | 9 => ("BeforeThirdModel", "text", "[I", true)
  | 10 => ("BeforeThirdModel", "position", "I", false)
  | 11 => ("BeforeThirdModel", "tokenAt", "I", false)
  | 12 => ("BeforeThirdModel", "token", "I", false)
  | 13 => ("BeforeThirdModel", "number", "I", false)
  | 14 => ("BeforeThirdModel", "word", "J", false)
  | _ => ("BeforeThirdModel", "items", "I", false)
def tyX11 : Nat → FieldType := fun k => match k with
  | 0 => .array .int
  | 1 => .array .int
  | 2 => .array .int
  | 3 => .array .int
  | 4 => .array .boolean
  | 5 => .array .int
  | 6 => .long
  | 7 => .long
  | 8 => .int
  | 9 => .array .int
  | 10 => .int
  | 11 => .int
  | 12 => .int
  | 13 => .int
  | 14 => .long
  | _ => .int
abbrev wsX110 : List Cond := u_ws RX11 TX11 16
theorem nmX11 : ∀ a, a < 16 → ∀ b, b < 16 → a ≠ b → (TX11 a).2.1 ≠ (TX11 b).2.1 := by decide +kernel
theorem tyX11_ok : ∀ k, k < 16 → parseFieldDescriptor (TX11 k).2.2.1 = some (tyX11 k) := by decide +kernel
abbrev cX11_init : ByteArray := prog_13_method_1_code
def yX11_init : MethodName := ⟨RX11, "<init>", "()V"⟩
abbrev cX11_begin : ByteArray := prog_13_method_2_code
def yX11_begin : MethodName := ⟨RX11, "begin", "([I)V"⟩
abbrev cX11_in : ByteArray := prog_13_method_3_code
def yX11_in : MethodName := ⟨RX11, "in", "(III)Z"⟩
abbrev cX11_bad : ByteArray := prog_13_method_5_code
def yX11_bad : MethodName := ⟨RX11, "bad", "()I"⟩
abbrev cX11_badBy : ByteArray := prog_13_method_6_code
def yX11_badBy : MethodName := ⟨RX11, "badBy", "(I)I"⟩
abbrev cX11_no : ByteArray := prog_13_method_7_code
def yX11_no : MethodName := ⟨RX11, "no", "()I"⟩
abbrev cX11_full : ByteArray := prog_13_method_8_code
def yX11_full : MethodName := ⟨RX11, "full", "()I"⟩
abbrev cX11_isBill : ByteArray := prog_13_method_9_code
def yX11_isBill : MethodName := ⟨RX11, "isBill", "(I)Z"⟩
abbrev cX11_bring : ByteArray := prog_13_method_10_code
def yX11_bring : MethodName := ⟨RX11, "bring", "([II[III)V"⟩
abbrev cX11_account : ByteArray := prog_13_method_11_code
def yX11_account : MethodName := ⟨RX11, "account", "(I)I"⟩
abbrev cX11_addBill : ByteArray := prog_13_method_12_code
def yX11_addBill : MethodName := ⟨RX11, "addBill", "([IIII)I"⟩
abbrev cX11_bill : ByteArray := prog_13_method_13_code
def yX11_bill : MethodName := ⟨RX11, "bill", "(III)I"⟩
abbrev cX11_type : ByteArray := prog_13_method_14_code
def yX11_type : MethodName := ⟨RX11, "type", "(I)I"⟩
abbrev cX11_clear : ByteArray := prog_13_method_15_code
def yX11_clear : MethodName := ⟨RX11, "clear", "()I"⟩
abbrev cX11_kindAt : ByteArray := prog_13_method_16_code
def yX11_kindAt : MethodName := ⟨RX11, "kindAt", "(I)I"⟩
abbrev cX11_nextToken : ByteArray := prog_13_method_17_code
def yX11_nextToken : MethodName := ⟨RX11, "nextToken", "()V"⟩
abbrev cX11_isNumber : ByteArray := prog_13_method_18_code
def yX11_isNumber : MethodName := ⟨RX11, "isNumber", "(II)Z"⟩
abbrev cX11_isBillItem : ByteArray := prog_13_method_19_code
def yX11_isBillItem : MethodName := ⟨RX11, "isBillItem", "()Z"⟩
abbrev cX11_isOne : ByteArray := prog_13_method_20_code
def yX11_isOne : MethodName := ⟨RX11, "isOne", "(III)Z"⟩
abbrev cX11_isItem : ByteArray := prog_13_method_21_code
def yX11_isItem : MethodName := ⟨RX11, "isItem", "()Z"⟩
abbrev cX11_isRead : ByteArray := prog_13_method_22_code
def yX11_isRead : MethodName := ⟨RX11, "isRead", "()Z"⟩
abbrev cX11_read : ByteArray := prog_13_method_23_code
def yX11_read : MethodName := ⟨RX11, "read", "()I"⟩
abbrev cX11_dayBy : ByteArray := prog_13_method_24_code
def yX11_dayBy : MethodName := ⟨RX11, "dayBy", "(II)I"⟩
abbrev cX11_poundsBy : ByteArray := prog_13_method_25_code
def yX11_poundsBy : MethodName := ⟨RX11, "poundsBy", "(III)I"⟩
abbrev cX11_drawn : ByteArray := prog_13_method_26_code
def yX11_drawn : MethodName := ⟨RX11, "drawn", "([II)I"⟩
abbrev cX11_goBy : ByteArray := prog_13_method_27_code
def yX11_goBy : MethodName := ⟨RX11, "goBy", "([II)V"⟩
abbrev cX11_keepBack : ByteArray := prog_13_method_28_code
def yX11_keepBack : MethodName := ⟨RX11, "keepBack", "()V"⟩
abbrev cX11_days : ByteArray := prog_13_method_29_code
def yX11_days : MethodName := ⟨RX11, "days", "(I)I"⟩
abbrev cX11_spend : ByteArray := prog_13_method_30_code
def yX11_spend : MethodName := ⟨RX11, "spend", "(I)I"⟩
abbrev cX11_jar : ByteArray := prog_13_method_31_code
def yX11_jar : MethodName := ⟨RX11, "jar", "(I)I"⟩
abbrev cX11_undo : ByteArray := prog_13_method_32_code
def yX11_undo : MethodName := ⟨RX11, "undo", "()I"⟩
abbrev cX11_of : ByteArray := prog_13_method_33_code
def yX11_of : MethodName := ⟨RX11, "of", "(II)I"⟩
abbrev cX11_now : ByteArray := prog_13_method_34_code
def yX11_now : MethodName := ⟨RX11, "now", "(I)I"⟩
abbrev cX11_truly : ByteArray := prog_13_method_35_code
def yX11_truly : MethodName := ⟨RX11, "truly", "()I"⟩
abbrev cX11_copyNow : ByteArray := prog_13_method_36_code
def yX11_copyNow : MethodName := ⟨RX11, "copyNow", "()V"⟩
abbrev cX11_chargesOn : ByteArray := prog_13_method_37_code
def yX11_chargesOn : MethodName := ⟨RX11, "chargesOn", "(II)I"⟩
abbrev cX11_then : ByteArray := prog_13_method_38_code
def yX11_then : MethodName := ⟨RX11, "then", "(II)I"⟩
abbrev cX11_low : ByteArray := prog_13_method_39_code
def yX11_low : MethodName := ⟨RX11, "low", "(II)I"⟩
abbrev cX11_belowIn : ByteArray := prog_13_method_40_code
def yX11_belowIn : MethodName := ⟨RX11, "belowIn", "(II)I"⟩
abbrev cX11_below : ByteArray := prog_13_method_41_code
def yX11_below : MethodName := ⟨RX11, "below", "()I"⟩
abbrev cX11_most : ByteArray := prog_13_method_42_code
def yX11_most : MethodName := ⟨RX11, "most", "(I)I"⟩
abbrev cX11_need : ByteArray := prog_13_method_43_code
def yX11_need : MethodName := ⟨RX11, "need", "(I)I"⟩
abbrev cX11_move : ByteArray := prog_13_method_44_code
def yX11_move : MethodName := ⟨RX11, "move", "()I"⟩
abbrev cX11_monthly : ByteArray := prog_13_method_45_code
def yX11_monthly : MethodName := ⟨RX11, "monthly", "(I)I"⟩
abbrev cX11_dear : ByteArray := prog_13_method_46_code
def yX11_dear : MethodName := ⟨RX11, "dear", "()I"⟩
abbrev cX11_note : ByteArray := prog_13_method_47_code
def yX11_note : MethodName := ⟨RX11, "note", "(IIIII)I"⟩
abbrev cX11_forget : ByteArray := prog_13_method_48_code
def yX11_forget : MethodName := ⟨RX11, "forget", "()I"⟩
abbrev cX11_kindsOf : ByteArray := prog_13_method_49_code
def yX11_kindsOf : MethodName := ⟨RX11, "kindsOf", "(I)I"⟩
abbrev cX11_is : ByteArray := prog_13_method_50_code
def yX11_is : MethodName := ⟨RX11, "is", "(I)I"⟩
abbrev cX11_alikeBy : ByteArray := prog_13_method_51_code
def yX11_alikeBy : MethodName := ⟨RX11, "alikeBy", "(IIII)I"⟩
abbrev cX11_look : ByteArray := prog_13_method_52_code
def yX11_look : MethodName := ⟨RX11, "look", "(I)I"⟩
abbrev cX11_gets : ByteArray := prog_13_method_53_code
def yX11_gets : MethodName := ⟨RX11, "gets", "(III)I"⟩
abbrev cX11_rests : ByteArray := prog_13_method_54_code
def yX11_rests : MethodName := ⟨RX11, "rests", "(III)Z"⟩
abbrev cX11_two : ByteArray := prog_13_method_55_code
def yX11_two : MethodName := ⟨RX11, "two", "(II)I"⟩
abbrev cX11_boiler : ByteArray := prog_13_method_56_code
def yX11_boiler : MethodName := ⟨RX11, "boiler", "(III)I"⟩
abbrev cX11_years : ByteArray := prog_13_method_57_code
def yX11_years : MethodName := ⟨RX11, "years", "(II)I"⟩
abbrev cX11_part : ByteArray := prog_13_method_58_code
def yX11_part : MethodName := ⟨RX11, "part", "(I)J"⟩
abbrev cX11_image : ByteArray := prog_13_method_59_code
def yX11_image : MethodName := ⟨RX11, "image", "(I)I"⟩
abbrev cX11_from : ByteArray := prog_13_method_60_code
def yX11_from : MethodName := ⟨RX11, "from", "(I)I"⟩
abbrev cX11_status : ByteArray := prog_13_method_61_code
def yX11_status : MethodName := ⟨RX11, "status", "(I)I"⟩
abbrev cX11_counted : ByteArray := prog_13_method_62_code
def yX11_counted : MethodName := ⟨RX11, "counted", "(I)I"⟩
abbrev cX11_count : ByteArray := prog_13_method_63_code
def yX11_count : MethodName := ⟨RX11, "count", "(I)I"⟩
abbrev cX11_digest : ByteArray := prog_13_method_64_code
def yX11_digest : MethodName := ⟨RX11, "digest", "()J"⟩
def RJ9 : String := "java/lang/Math"
abbrev cJ9_floorDiv_7cf53 : ByteArray := prog_14_method_47_code
def yJ9_floorDiv_7cf53 : MethodName := ⟨RJ9, "floorDiv", "(II)I"⟩
abbrev cJ9_floorMod_7cf53 : ByteArray := prog_14_method_50_code
def yJ9_floorMod_7cf53 : MethodName := ⟨RJ9, "floorMod", "(II)I"⟩
abbrev cJ9_max_7cf53 : ByteArray := prog_14_method_65_code
def yJ9_max_7cf53 : MethodName := ⟨RJ9, "max", "(II)I"⟩
abbrev cJ9_min_7cf53 : ByteArray := prog_14_method_69_code
def yJ9_min_7cf53 : MethodName := ⟨RJ9, "min", "(II)I"⟩
def RJ0 : String := "java/lang/String"
abbrev cJ0_length_8abf5 : ByteArray := prog_15_method_54_code
def yJ0_length_8abf5 : MethodName := ⟨RJ0, "length", "()I"⟩
abbrev cJ0_charAt_5068e : ByteArray := prog_15_method_56_code
def yJ0_charAt_5068e : MethodName := ⟨RJ0, "charAt", "(I)C"⟩
abbrev cJ0_coder_7d493 : ByteArray := prog_15_method_152_code
def yJ0_coder_7d493 : MethodName := ⟨RJ0, "coder", "()B"⟩
abbrev cJ0_isLatin1_aae02 : ByteArray := prog_15_method_154_code
def yJ0_isLatin1_aae02 : MethodName := ⟨RJ0, "isLatin1", "()Z"⟩
abbrev cJ0_checkIndex_df160 : ByteArray := prog_15_method_155_code
def yJ0_checkIndex_df160 : MethodName := ⟨RJ0, "checkIndex", "(II)V"⟩
def RJ1 : String := "java/lang/StringLatin1"
abbrev cJ1_charAt_3b067 : ByteArray := prog_16_method_2_code
def yJ1_charAt_3b067 : MethodName := ⟨RJ1, "charAt", "([BI)C"⟩
def RJ2 : String := "java/lang/StringUTF16"
abbrev cJ2_getChar_3b067 : ByteArray := prog_17_method_5_code
def yJ2_getChar_3b067 : MethodName := ⟨RJ2, "getChar", "([BI)C"⟩
abbrev cJ2_length_9d52b : ByteArray := prog_17_method_6_code
def yJ2_length_9d52b : MethodName := ⟨RJ2, "length", "([B)I"⟩
abbrev cJ2_charAt_3b067 : ByteArray := prog_17_method_83_code
def yJ2_charAt_3b067 : MethodName := ⟨RJ2, "charAt", "([BI)C"⟩
abbrev cJ2_checkIndex_2214a : ByteArray := prog_17_method_91_code
def yJ2_checkIndex_2214a : MethodName := ⟨RJ2, "checkIndex", "(I[B)V"⟩
def RJ10 : String := "java/lang/System"
def RJ7 : String := "java/util/Arrays"
abbrev cJ7_fill_53178 : ByteArray := prog_19_method_103_code
def yJ7_fill_53178 : MethodName := ⟨RJ7, "fill", "([II)V"⟩
def RJ3 : String := "jdk/internal/util/Preconditions"
abbrev cJ3_checkIndex_8e157 : ByteArray := prog_20_method_11_code
def yJ3_checkIndex_8e157 : MethodName := ⟨RJ3, "checkIndex", "(IILjava/util/function/BiFunction;)I"⟩
def RL : String := "BeforeThirdLaw"
abbrev cL_law : ByteArray := code
abbrev classes : List vw_C := [(RX0, TX0, 7), (RX1, TX1, 0), (RX2, TX2, 6), (RX3, TX3, 0), (RX4, TX4, 8), (RX5, TX5, 0), (RX6, TX6, 0), (RX7, TX7, 0), (RX8, TX8, 7), (RX9, TX9, 0), (RX10, TX10, 13), (RX11, TX11, 16)]
def yL_law : MethodName := ⟨RL, "law", "([I)Z"⟩
end
section
def tbX0_init_0 : List (Nat × Instr × Nat) := [(0, .aload_n 0, 1), (1, .invokespecial 3, 3), (4, .aload_n 0, 1), (5, .bipush 6, 2), (7, .newarray .int, 2), (9, .putfield 9, 3), (12, .aload_n 0, 1), (13, .bipush 21, 2), (15, .newarray .int, 2), (17, .putfield 15, 3), (20, .aload_n 0, 1), (21, .bipush 30, 2), (23, .newarray .int, 2), (25, .putfield 18, 3), (28, .aload_n 0, 1), (29, .bipush 48, 2), (31, .newarray .int, 2), (33, .putfield 21, 3), (36, .aload_n 0, 1), (37, .getfield 9, 3), (40, .iconst 3, 1), (41, .iconst 1, 1), (42, .iastore, 1), (43, .return_, 1)]
theorem dtbX0_init_0 : ∀ q ∈ tbX0_init_0, decode cX0_init q.1 = .ok q.2 := by decide +kernel
def tbX0_beginWith_0 : List (Nat × Instr × Nat) := [(0, .aload_n 0, 1), (1, .getfield 9, 3), (4, .iconst 0, 1), (5, .invokestatic 24, 3), (8, .aload_n 0, 1), (9, .getfield 9, 3), (12, .iconst 0, 1), (13, .iload_n 1, 1), (14, .iastore, 1), (15, .aload_n 0, 1), (16, .getfield 9, 3), (19, .iconst 3, 1), (20, .iconst 1, 1), (21, .iastore, 1), (22, .aload_n 0, 1), (23, .iconst 0, 1), (24, .putfield 30, 3), (27, .aload_n 0, 1), (28, .iconst 0, 1), (29, .putfield 34, 3), (32, .aload_n 0, 1), (33, .iconst 0, 1), (34, .putfield 37, 3), (37, .return_, 1)]
theorem dtbX0_beginWith_0 : ∀ q ∈ tbX0_beginWith_0, decode cX0_beginWith q.1 = .ok q.2 := by decide +kernel
def tbX0_addBill_0 : List (Nat × Instr × Nat) := [(0, .aload_n 0, 1), (1, .getfield 30, 3), (4, .bipush 7, 2), (6, .if_icmp .lt 4, 3), (9, .return_, 1), (10, .aload_n 0, 1), (11, .getfield 30, 3), (14, .iconst 3, 1), (15, .imul, 1), (16, .istore 4, 2), (18, .aload_n 0, 1), (19, .getfield 15, 3), (22, .iload 4, 2), (24, .iload_n 1, 1), (25, .iastore, 1), (26, .aload_n 0, 1), (27, .getfield 15, 3), (30, .iload 4, 2), (32, .iconst 1, 1), (33, .iadd, 1), (34, .iload_n 2, 1), (35, .iastore, 1), (36, .aload_n 0, 1), (37, .getfield 15, 3), (40, .iload 4, 2), (42, .iconst 2, 1), (43, .iadd, 1), (44, .iload_n 3, 1), (45, .iastore, 1), (46, .aload_n 0, 1), (47, .dup, 1), (48, .getfield 30, 3), (51, .iconst 1, 1), (52, .iadd, 1), (53, .putfield 30, 3), (56, .aload_n 0, 1), (57, .iconst 0, 1), (58, .putfield 37, 3), (61, .return_, 1)]
theorem dtbX0_addBill_0 : ∀ q ∈ tbX0_addBill_0, decode cX0_addBill q.1 = .ok q.2 := by decide +kernel
def tbX0_kindAt_0 : List (Nat × Instr × Nat) := [(0, .aload_n 0, 1), (1, .iload_n 1, 1), (2, .iconst 0, 1), (3, .invokevirtual 40, 3), (6, .ireturn, 1)]
theorem dtbX0_kindAt_0 : ∀ q ∈ tbX0_kindAt_0, decode cX0_kindAt q.1 = .ok q.2 := by decide +kernel
def tbX0_dayAt_0 : List (Nat × Instr × Nat) := [(0, .aload_n 0, 1), (1, .iload_n 1, 1), (2, .iconst 1, 1), (3, .invokevirtual 40, 3), (6, .ireturn, 1)]
theorem dtbX0_dayAt_0 : ∀ q ∈ tbX0_dayAt_0, decode cX0_dayAt q.1 = .ok q.2 := by decide +kernel
def tbX0_poundsAt_0 : List (Nat × Instr × Nat) := [(0, .aload_n 0, 1), (1, .iload_n 1, 1), (2, .iconst 2, 1), (3, .invokevirtual 40, 3), (6, .ireturn, 1)]
theorem dtbX0_poundsAt_0 : ∀ q ∈ tbX0_poundsAt_0, decode cX0_poundsAt q.1 = .ok q.2 := by decide +kernel
def tbX0_billPart_0 : List (Nat × Instr × Nat) := [(0, .iload_n 1, 1), (1, .ifCond .lt 22, 3), (4, .iload_n 1, 1), (5, .bipush 7, 2), (7, .if_icmp .ge 16, 3), (10, .aload_n 0, 1), (11, .getfield 15, 3), (14, .iload_n 1, 1), (15, .iconst 3, 1), (16, .imul, 1), (17, .iload_n 2, 1), (18, .iadd, 1), (19, .iaload, 1), (20, .goto 4, 3), (23, .iconst 0, 1), (24, .ireturn, 1)]
theorem dtbX0_billPart_0 : ∀ q ∈ tbX0_billPart_0, decode cX0_billPart q.1 = .ok q.2 := by decide +kernel
def tbX0_addNote_0 : List (Nat × Instr × Nat) := [(0, .aload_n 0, 1), (1, .getfield 34, 3), (4, .bipush 6, 2), (6, .if_icmp .lt 4, 3), (9, .return_, 1), (10, .aload_n 0, 1), (11, .getfield 34, 3), (14, .iconst 5, 1), (15, .imul, 1), (16, .istore 6, 2), (18, .aload_n 0, 1), (19, .getfield 18, 3), (22, .iload 6, 2), (24, .iload_n 1, 1), (25, .iastore, 1), (26, .aload_n 0, 1), (27, .getfield 18, 3), (30, .iload 6, 2), (32, .iconst 1, 1), (33, .iadd, 1), (34, .iload_n 2, 1), (35, .iastore, 1), (36, .aload_n 0, 1), (37, .getfield 18, 3), (40, .iload 6, 2), (42, .iconst 2, 1), (43, .iadd, 1), (44, .iload_n 3, 1), (45, .iastore, 1), (46, .aload_n 0, 1), (47, .getfield 18, 3), (50, .iload 6, 2), (52, .iconst 3, 1), (53, .iadd, 1), (54, .iload 4, 2), (56, .iastore, 1), (57, .aload_n 0, 1), (58, .getfield 18, 3), (61, .iload 6, 2), (63, .iconst 4, 1), (64, .iadd, 1), (65, .iload 5, 2), (67, .iastore, 1), (68, .aload_n 0, 1), (69, .dup, 1), (70, .getfield 34, 3), (73, .iconst 1, 1), (74, .iadd, 1), (75, .putfield 34, 3), (78, .return_, 1)]
theorem dtbX0_addNote_0 : ∀ q ∈ tbX0_addNote_0, decode cX0_addNote q.1 = .ok q.2 := by decide +kernel
def tbX0_notePart_0 : List (Nat × Instr × Nat) := [(0, .iload_n 1, 1), (1, .ifCond .lt 22, 3), (4, .iload_n 1, 1), (5, .bipush 6, 2), (7, .if_icmp .ge 16, 3), (10, .aload_n 0, 1), (11, .getfield 18, 3), (14, .iload_n 1, 1), (15, .iconst 5, 1), (16, .imul, 1), (17, .iload_n 2, 1), (18, .iadd, 1), (19, .iaload, 1), (20, .goto 4, 3), (23, .iconst 0, 1), (24, .ireturn, 1)]
theorem dtbX0_notePart_0 : ∀ q ∈ tbX0_notePart_0, decode cX0_notePart q.1 = .ok q.2 := by decide +kernel
def tbX0_keepPast_0 : List (Nat × Instr × Nat) := [(0, .aload_n 0, 1), (1, .getfield 37, 3), (4, .bipush 8, 2), (6, .if_icmp .lt 25, 3), (9, .aload_n 0, 1), (10, .getfield 21, 3), (13, .bipush 6, 2), (15, .aload_n 0, 1), (16, .getfield 21, 3), (19, .iconst 0, 1), (20, .bipush 42, 2), (22, .invokestatic 44, 3), (25, .aload_n 0, 1), (26, .bipush 7, 2), (28, .putfield 37, 3), (31, .aload_n 0, 1), (32, .getfield 9, 3), (35, .iconst 0, 1), (36, .aload_n 0, 1), (37, .getfield 21, 3), (40, .aload_n 0, 1), (41, .getfield 37, 3), (44, .bipush 6, 2), (46, .imul, 1), (47, .bipush 6, 2), (49, .invokestatic 44, 3), (52, .aload_n 0, 1), (53, .dup, 1), (54, .getfield 37, 3), (57, .iconst 1, 1), (58, .iadd, 1), (59, .putfield 37, 3), (62, .return_, 1)]
theorem dtbX0_keepPast_0 : ∀ q ∈ tbX0_keepPast_0, decode cX0_keepPast q.1 = .ok q.2 := by decide +kernel
def tbX0_stepBack_0 : List (Nat × Instr × Nat) := [(0, .aload_n 0, 1), (1, .getfield 37, 3), (4, .ifCond .gt 4, 3), (7, .return_, 1), (8, .aload_n 0, 1), (9, .dup, 1), (10, .getfield 37, 3), (13, .iconst 1, 1), (14, .isub, 1), (15, .putfield 37, 3), (18, .aload_n 0, 1), (19, .getfield 21, 3), (22, .aload_n 0, 1), (23, .getfield 37, 3), (26, .bipush 6, 2), (28, .imul, 1), (29, .aload_n 0, 1), (30, .getfield 9, 3), (33, .iconst 0, 1), (34, .bipush 6, 2), (36, .invokestatic 44, 3), (39, .return_, 1)]
theorem dtbX0_stepBack_0 : ∀ q ∈ tbX0_stepBack_0, decode cX0_stepBack q.1 = .ok q.2 := by decide +kernel
def tbX0_copyFrom_0 : List (Nat × Instr × Nat) := [(0, .aload_n 1, 1), (1, .getfield 9, 3), (4, .iconst 0, 1), (5, .aload_n 0, 1), (6, .getfield 9, 3), (9, .iconst 0, 1), (10, .bipush 6, 2), (12, .invokestatic 44, 3), (15, .aload_n 1, 1), (16, .getfield 15, 3), (19, .iconst 0, 1), (20, .aload_n 0, 1), (21, .getfield 15, 3), (24, .iconst 0, 1), (25, .bipush 21, 2), (27, .invokestatic 44, 3), (30, .aload_n 1, 1), (31, .getfield 18, 3), (34, .iconst 0, 1), (35, .aload_n 0, 1), (36, .getfield 18, 3), (39, .iconst 0, 1), (40, .bipush 30, 2), (42, .invokestatic 44, 3), (45, .aload_n 1, 1), (46, .getfield 21, 3), (49, .iconst 0, 1), (50, .aload_n 0, 1), (51, .getfield 21, 3), (54, .iconst 0, 1), (55, .bipush 48, 2), (57, .invokestatic 44, 3), (60, .aload_n 0, 1), (61, .aload_n 1, 1), (62, .getfield 30, 3), (65, .putfield 30, 3), (68, .aload_n 0, 1), (69, .aload_n 1, 1), (70, .getfield 34, 3), (73, .putfield 34, 3), (76, .aload_n 0, 1), (77, .aload_n 1, 1), (78, .getfield 37, 3), (81, .putfield 37, 3), (84, .return_, 1)]
theorem dtbX0_copyFrom_0 : ∀ q ∈ tbX0_copyFrom_0, decode cX0_copyFrom q.1 = .ok q.2 := by decide +kernel
def tbX1_init_0 : List (Nat × Instr × Nat) := [(0, .aload_n 0, 1), (1, .invokespecial 3, 3), (4, .return_, 1)]
theorem dtbX1_init_0 : ∀ q ∈ tbX1_init_0, decode cX1_init q.1 = .ok q.2 := by decide +kernel
def tbX1_drawnOn_0 : List (Nat × Instr × Nat) := [(0, .aload_n 0, 1), (1, .iload_n 1, 1), (2, .invokespecial 9, 3), (5, .bipush 14, 2), (7, .iadd, 1), (8, .istore_n 2, 1), (9, .iload_n 2, 1), (10, .bipush 28, 2), (12, .if_icmp .le 10, 3), (15, .iload_n 2, 1), (16, .bipush 28, 2), (18, .isub, 1), (19, .goto 4, 3), (22, .iload_n 2, 1), (23, .ireturn, 1)]
theorem dtbX1_drawnOn_0 : ∀ q ∈ tbX1_drawnOn_0, decode cX1_drawnOn q.1 = .ok q.2 := by decide +kernel
def tbX2_init_0 : List (Nat × Instr × Nat) := [(0, .aload_n 0, 1), (1, .invokespecial 1, 3), (4, .aload_n 0, 1), (5, .new 7, 3), (8, .dup, 1), (9, .invokespecial 9, 3), (12, .putfield 10, 3), (15, .aload_n 0, 1), (16, .new 16, 3), (19, .dup, 1), (20, .invokespecial 18, 3), (23, .putfield 19, 3), (26, .aload_n 0, 1), (27, .new 23, 3), (30, .dup, 1), (31, .invokespecial 25, 3), (34, .putfield 26, 3), (37, .aload_n 0, 1), (38, .new 30, 3), (41, .dup, 1), (42, .invokespecial 32, 3), (45, .putfield 33, 3), (48, .aload_n 0, 1), (49, .new 37, 3), (52, .dup, 1), (53, .invokespecial 39, 3), (56, .putfield 40, 3), (59, .aload_n 0, 1), (60, .new 44, 3), (63, .dup, 1), (64, .invokespecial 46, 3), (67, .putfield 47, 3), (70, .return_, 1)]
theorem dtbX2_init_0 : ∀ q ∈ tbX2_init_0, decode cX2_init q.1 = .ok q.2 := by decide +kernel
def tbX2_numbered_0 : List (Nat × Instr × Nat) := [(0, .iload_n 1, 1), (1, .tableswitch 60 1 5 #[35, 40, 45, 50, 55], 35), (36, .aload_n 0, 1), (37, .getfield 19, 3), (40, .areturn, 1), (41, .aload_n 0, 1), (42, .getfield 26, 3), (45, .areturn, 1), (46, .aload_n 0, 1), (47, .getfield 33, 3), (50, .areturn, 1), (51, .aload_n 0, 1), (52, .getfield 40, 3), (55, .areturn, 1), (56, .aload_n 0, 1), (57, .getfield 47, 3), (60, .areturn, 1), (61, .aload_n 0, 1), (62, .getfield 10, 3), (65, .areturn, 1)]
theorem dtbX2_numbered_0 : ∀ q ∈ tbX2_numbered_0, decode cX2_numbered q.1 = .ok q.2 := by decide +kernel
def tbX3_init_0 : List (Nat × Instr × Nat) := [(0, .aload_n 0, 1), (1, .invokespecial 3, 3), (4, .return_, 1)]
theorem dtbX3_init_0 : ∀ q ∈ tbX3_init_0, decode cX3_init q.1 = .ok q.2 := by decide +kernel
def tbX3_drawnOn_0 : List (Nat × Instr × Nat) := [(0, .aload_n 0, 1), (1, .iload_n 1, 1), (2, .invokespecial 9, 3), (5, .istore_n 2, 1), (6, .iload_n 2, 1), (7, .bipush 7, 2), (9, .irem, 1), (10, .ifCond .eq 5, 3), (13, .iload_n 2, 1), (14, .ireturn, 1), (15, .iload_n 2, 1), (16, .bipush 28, 2), (18, .if_icmp .ne 9, 3), (21, .iload_n 2, 1), (22, .iconst 1, 1), (23, .isub, 1), (24, .goto 6, 3), (27, .iload_n 2, 1), (28, .iconst 1, 1), (29, .iadd, 1), (30, .ireturn, 1)]
theorem dtbX3_drawnOn_0 : ∀ q ∈ tbX3_drawnOn_0, decode cX3_drawnOn q.1 = .ok q.2 := by decide +kernel
def tbX4_init_0 : List (Nat × Instr × Nat) := [(0, .aload_n 0, 1), (1, .invokespecial 3, 3), (4, .aload_n 0, 1), (5, .new 9, 3), (8, .dup, 1), (9, .invokespecial 11, 3), (12, .putfield 12, 3), (15, .aload_n 0, 1), (16, .bipush 99, 2), (18, .newarray .int, 2), (20, .putfield 18, 3), (23, .return_, 1)]
theorem dtbX4_init_0 : ∀ q ∈ tbX4_init_0, decode cX4_init q.1 = .ok q.2 := by decide +kernel
def tbX4_lay_0 : List (Nat × Instr × Nat) := [(0, .aload_n 0, 1), (1, .iconst 0, 1), (2, .iload_n 2, 1), (3, .bipush 99, 2), (5, .invokestatic 22, 3), (8, .invokestatic 28, 3), (11, .putfield 31, 3), (14, .aload_n 0, 1), (15, .getfield 18, 3), (18, .iconst 0, 1), (19, .invokestatic 35, 3), (22, .iconst 0, 1), (23, .istore_n 3, 1), (24, .iload_n 3, 1), (25, .aload_n 1, 1), (26, .getfield 41, 3), (29, .if_icmp .ge 21, 3), (32, .aload_n 0, 1), (33, .aload_n 1, 1), (34, .iload_n 3, 1), (35, .aload_n 1, 1), (36, .iload_n 3, 1), (37, .invokevirtual 46, 3), (40, .iconst 1, 1), (41, .invokevirtual 50, 3), (44, .iinc 3 1, 3), (47, .goto (-23), 3), (50, .return_, 1)]
theorem dtbX4_lay_0 : ∀ q ∈ tbX4_lay_0, decode cX4_lay q.1 = .ok q.2 := by decide +kernel
def tbX4_put_0 : List (Nat × Instr × Nat) := [(0, .aload_n 0, 1), (1, .getfield 12, 3), (4, .aload_n 1, 1), (5, .iload_n 2, 1), (6, .invokevirtual 54, 3), (9, .invokevirtual 57, 3), (12, .astore 5, 2), (14, .aload 5, 2), (16, .iload_n 3, 1), (17, .invokevirtual 61, 3), (20, .aload_n 1, 1), (21, .getfield 66, 3), (24, .iconst 3, 1), (25, .iaload, 1), (26, .isub, 1), (27, .bipush 28, 2), (29, .invokestatic 69, 3), (32, .istore 6, 2), (34, .aload_n 1, 1), (35, .getfield 66, 3), (38, .iconst 4, 1), (39, .iaload, 1), (40, .istore 7, 2), (42, .aload_n 1, 1), (43, .getfield 66, 3), (46, .iconst 3, 1), (47, .iaload, 1), (48, .iload 6, 2), (50, .iadd, 1), (51, .bipush 28, 2), (53, .if_icmp .le 6, 3), (56, .iinc 7 1, 3), (59, .iload 6, 2), (61, .istore 8, 2), (63, .iload 8, 2), (65, .aload_n 0, 1), (66, .getfield 31, 3), (69, .if_icmp .ge 37, 3), (72, .aload_n 0, 1), (73, .getfield 18, 3), (76, .iload 8, 2), (78, .dup2, 1), (79, .iaload, 1), (80, .iload 4, 2), (82, .aload 5, 2), (84, .iload 7, 2), (86, .aload_n 1, 1), (87, .iload_n 2, 1), (88, .invokevirtual 72, 3), (91, .invokevirtual 75, 3), (94, .imul, 1), (95, .iadd, 1), (96, .iastore, 1), (97, .iinc 7 1, 3), (100, .iinc 8 28, 3), (103, .goto (-40), 3), (106, .return_, 1)]
theorem dtbX4_put_0 : ∀ q ∈ tbX4_put_0, decode cX4_put q.1 = .ok q.2 := by decide +kernel
def tbX4_drawMore_0 : List (Nat × Instr × Nat) := [(0, .iload_n 1, 1), (1, .ifCond .lt 21, 3), (4, .iload_n 1, 1), (5, .aload_n 0, 1), (6, .getfield 31, 3), (9, .if_icmp .ge 13, 3), (12, .aload_n 0, 1), (13, .getfield 18, 3), (16, .iload_n 1, 1), (17, .dup2, 1), (18, .iaload, 1), (19, .iload_n 2, 1), (20, .iadd, 1), (21, .iastore, 1), (22, .return_, 1)]
theorem dtbX4_drawMore_0 : ∀ q ∈ tbX4_drawMore_0, decode cX4_drawMore q.1 = .ok q.2 := by decide +kernel
def tbX4_run_0 : List (Nat × Instr × Nat) := [(0, .aload_n 0, 1), (1, .iload_n 1, 1), (2, .putfield 78, 3), (5, .aload_n 0, 1), (6, .iconst 0, 1), (7, .putfield 81, 3), (10, .aload_n 0, 1), (11, .iload_n 1, 1), (12, .putfield 84, 3), (15, .aload_n 0, 1), (16, .iconst 0, 1), (17, .putfield 87, 3), (20, .aload_n 0, 1), (21, .iconst (-1), 1), (22, .putfield 90, 3), (25, .iconst 0, 1), (26, .istore_n 3, 1), (27, .iload_n 3, 1), (28, .aload_n 0, 1), (29, .getfield 31, 3), (32, .if_icmp .ge 105, 3), (35, .aload_n 0, 1), (36, .dup, 1), (37, .getfield 78, 3), (40, .aload_n 0, 1), (41, .getfield 18, 3), (44, .iload_n 3, 1), (45, .iaload, 1), (46, .iload_n 2, 1), (47, .iadd, 1), (48, .isub, 1), (49, .putfield 78, 3), (52, .aload_n 0, 1), (53, .getfield 78, 3), (56, .ifCond .ge 45, 3), (59, .aload_n 0, 1), (60, .dup, 1), (61, .getfield 78, 3), (64, .iconst 1, 1), (65, .isub, 1), (66, .putfield 78, 3), (69, .aload_n 0, 1), (70, .dup, 1), (71, .getfield 81, 3), (74, .iconst 1, 1), (75, .iadd, 1), (76, .putfield 81, 3), (79, .aload_n 0, 1), (80, .aload_n 0, 1), (81, .getfield 90, 3), (84, .iconst (-1), 1), (85, .if_icmp .ne 9, 3), (88, .iload_n 3, 1), (89, .iconst 1, 1), (90, .iadd, 1), (91, .goto 7, 3), (94, .aload_n 0, 1), (95, .getfield 90, 3), (98, .putfield 90, 3), (101, .iload_n 3, 1)]
theorem dtbX4_run_0 : ∀ q ∈ tbX4_run_0, decode cX4_run q.1 = .ok q.2 := by decide +kernel
def tbX4_run_1 : List (Nat × Instr × Nat) := [(102, .ifCond .eq 14, 3), (105, .aload_n 0, 1), (106, .getfield 78, 3), (109, .aload_n 0, 1), (110, .getfield 84, 3), (113, .if_icmp .ge 18, 3), (116, .aload_n 0, 1), (117, .aload_n 0, 1), (118, .getfield 78, 3), (121, .putfield 84, 3), (124, .aload_n 0, 1), (125, .iload_n 3, 1), (126, .iconst 1, 1), (127, .iadd, 1), (128, .putfield 87, 3), (131, .iinc 3 1, 3), (134, .goto (-107), 3), (137, .return_, 1)]
theorem dtbX4_run_1 : ∀ q ∈ tbX4_run_1, decode cX4_run q.1 = .ok q.2 := by decide +kernel
def tbX4_mostSpending_0 : List (Nat × Instr × Nat) := [(0, .bipush 30, 2), (2, .istore_n 2, 1), (3, .iload_n 1, 1), (4, .istore_n 3, 1), (5, .iconst 0, 1), (6, .istore 4, 2), (8, .iload 4, 2), (10, .aload_n 0, 1), (11, .getfield 31, 3), (14, .if_icmp .ge 32, 3), (17, .iload_n 3, 1), (18, .aload_n 0, 1), (19, .getfield 18, 3), (22, .iload 4, 2), (24, .iaload, 1), (25, .isub, 1), (26, .istore_n 3, 1), (27, .iload_n 2, 1), (28, .iload_n 3, 1), (29, .iload 4, 2), (31, .iconst 1, 1), (32, .iadd, 1), (33, .invokestatic 93, 3), (36, .invokestatic 22, 3), (39, .istore_n 2, 1), (40, .iinc 4 1, 3), (43, .goto (-35), 3), (46, .iload_n 2, 1), (47, .ireturn, 1)]
theorem dtbX4_mostSpending_0 : ∀ q ∈ tbX4_mostSpending_0, decode cX4_mostSpending q.1 = .ok q.2 := by decide +kernel
def tbX4_leastMore_0 : List (Nat × Instr × Nat) := [(0, .iconst 0, 1), (1, .istore_n 3, 1), (2, .iload_n 1, 1), (3, .istore 4, 2), (5, .iconst 0, 1), (6, .istore 5, 2), (8, .iload 5, 2), (10, .aload_n 0, 1), (11, .getfield 31, 3), (14, .if_icmp .ge 31, 3), (17, .iload 4, 2), (19, .aload_n 0, 1), (20, .getfield 18, 3), (23, .iload 5, 2), (25, .iaload, 1), (26, .iload_n 2, 1), (27, .iadd, 1), (28, .isub, 1), (29, .istore 4, 2), (31, .iload_n 3, 1), (32, .iload 4, 2), (34, .ineg, 1), (35, .invokestatic 28, 3), (38, .istore_n 3, 1), (39, .iinc 5 1, 3), (42, .goto (-34), 3), (45, .iload_n 3, 1), (46, .ireturn, 1)]
theorem dtbX4_leastMore_0 : ∀ q ∈ tbX4_leastMore_0, decode cX4_leastMore q.1 = .ok q.2 := by decide +kernel
def tbX5_init_0 : List (Nat × Instr × Nat) := [(0, .aload_n 0, 1), (1, .invokespecial 1, 3), (4, .return_, 1)]
theorem dtbX5_init_0 : ∀ q ∈ tbX5_init_0, decode cX5_init q.1 = .ok q.2 := by decide +kernel
def tbX5_poundsIn_0 : List (Nat × Instr × Nat) := [(0, .aload_n 0, 1), (1, .iload_n 1, 1), (2, .iload_n 2, 1), (3, .invokespecial 7, 3), (6, .ineg, 1), (7, .ireturn, 1)]
theorem dtbX5_poundsIn_0 : ∀ q ∈ tbX5_poundsIn_0, decode cX5_poundsIn q.1 = .ok q.2 := by decide +kernel
def tbX6_init_0 : List (Nat × Instr × Nat) := [(0, .aload_n 0, 1), (1, .invokespecial 1, 3), (4, .return_, 1)]
theorem dtbX6_init_0 : ∀ q ∈ tbX6_init_0, decode cX6_init q.1 = .ok q.2 := by decide +kernel
def tbX6_drawnOn_0 : List (Nat × Instr × Nat) := [(0, .iload_n 1, 1), (1, .ireturn, 1)]
theorem dtbX6_drawnOn_0 : ∀ q ∈ tbX6_drawnOn_0, decode cX6_drawnOn q.1 = .ok q.2 := by decide +kernel
def tbX6_poundsIn_0 : List (Nat × Instr × Nat) := [(0, .iload_n 2, 1), (1, .ireturn, 1)]
theorem dtbX6_poundsIn_0 : ∀ q ∈ tbX6_poundsIn_0, decode cX6_poundsIn q.1 = .ok q.2 := by decide +kernel
def tbX7_init_0 : List (Nat × Instr × Nat) := [(0, .aload_n 0, 1), (1, .invokespecial 1, 3), (4, .return_, 1)]
theorem dtbX7_init_0 : ∀ q ∈ tbX7_init_0, decode cX7_init q.1 = .ok q.2 := by decide +kernel
def tbX7_poundsIn_0 : List (Nat × Instr × Nat) := [(0, .iload_n 1, 1), (1, .iconst 3, 1), (2, .irem, 1), (3, .ifCond .ne 12, 3), (6, .aload_n 0, 1), (7, .iload_n 1, 1), (8, .iload_n 2, 1), (9, .invokespecial 7, 3), (12, .goto 4, 3), (15, .iconst 0, 1), (16, .ireturn, 1)]
theorem dtbX7_poundsIn_0 : ∀ q ∈ tbX7_poundsIn_0, decode cX7_poundsIn q.1 = .ok q.2 := by decide +kernel
def tbX8_init_0 : List (Nat × Instr × Nat) := [(0, .aload_n 0, 1), (1, .invokespecial 3, 3), (4, .aload_n 0, 1), (5, .sipush 150, 3), (8, .newarray .byte, 2), (10, .putfield 9, 3), (13, .aload_n 0, 1), (14, .new 15, 3), (17, .dup, 1), (18, .invokespecial 17, 3), (21, .putfield 18, 3), (24, .return_, 1)]
theorem dtbX8_init_0 : ∀ q ∈ tbX8_init_0, decode cX8_init q.1 = .ok q.2 := by decide +kernel
def tbX8_addByte_0 : List (Nat × Instr × Nat) := [(0, .aload_n 0, 1), (1, .getfield 22, 3), (4, .sipush 150, 3), (7, .if_icmp .ge 24, 3), (10, .aload_n 0, 1), (11, .getfield 9, 3), (14, .aload_n 0, 1), (15, .getfield 22, 3), (18, .iload_n 1, 1), (19, .i2b, 1), (20, .bastore, 1), (21, .aload_n 0, 1), (22, .dup, 1), (23, .getfield 22, 3), (26, .iconst 1, 1), (27, .iadd, 1), (28, .putfield 22, 3), (31, .return_, 1)]
theorem dtbX8_addByte_0 : ∀ q ∈ tbX8_addByte_0, decode cX8_addByte q.1 = .ok q.2 := by decide +kernel
def tbX8_itemsOrFault_0 : List (Nat × Instr × Nat) := [(0, .aload_n 0, 1), (1, .iconst 0, 1), (2, .putfield 26, 3), (5, .aload_n 0, 1), (6, .getfield 18, 3), (9, .iconst 0, 1), (10, .invokevirtual 29, 3), (13, .iconst 0, 1), (14, .istore_n 1, 1), (15, .aload_n 0, 1), (16, .invokevirtual 33, 3), (19, .iload_n 1, 1), (20, .sipush 150, 3), (23, .if_icmp .ge 44, 3), (26, .aload_n 0, 1), (27, .getfield 36, 3), (30, .ifCond .eq 37, 3), (33, .aload_n 0, 1), (34, .iload_n 1, 1), (35, .ifCond .ne 7, 3), (38, .iconst 1, 1), (39, .goto 4, 3), (42, .iconst 0, 1), (43, .invokevirtual 39, 3), (46, .ifCond .ne 11, 3), (49, .bipush (-10), 2), (51, .aload_n 0, 1), (52, .getfield 43, 3), (55, .isub, 1), (56, .ireturn, 1), (57, .iinc 1 1, 3), (60, .aload_n 0, 1), (61, .invokevirtual 33, 3), (64, .goto (-45), 3), (67, .iload_n 1, 1), (68, .ifCond .ne 13, 3), (71, .bipush (-10), 2), (73, .aload_n 0, 1), (74, .getfield 43, 3), (77, .isub, 1), (78, .goto 4, 3), (81, .iload_n 1, 1), (82, .ireturn, 1)]
theorem dtbX8_itemsOrFault_0 : ∀ q ∈ tbX8_itemsOrFault_0, decode cX8_itemsOrFault q.1 = .ok q.2 := by decide +kernel
def tbX8_takeItem_0 : List (Nat × Instr × Nat) := [(0, .aload_n 0, 1), (1, .ldc 46, 2), (3, .invokevirtual 48, 3), (6, .ifCond .eq 20, 3), (9, .iload_n 1, 1), (10, .ifCond .eq 14, 3), (13, .aload_n 0, 1), (14, .invokevirtual 52, 3), (17, .ifCond .eq 7, 3), (20, .iconst 1, 1), (21, .goto 4, 3), (24, .iconst 0, 1), (25, .ireturn, 1), (26, .iload_n 1, 1), (27, .ifCond .eq 5, 3), (30, .iconst 0, 1), (31, .ireturn, 1), (32, .aload_n 0, 1), (33, .ldc 56, 2), (35, .invokevirtual 48, 3), (38, .ifCond .eq 28, 3), (41, .aload_n 0, 1), (42, .getfield 18, 3), (45, .getfield 58, 3), (48, .bipush 7, 2), (50, .if_icmp .ge 14, 3), (53, .aload_n 0, 1), (54, .invokevirtual 61, 3), (57, .ifCond .eq 7, 3), (60, .iconst 1, 1), (61, .goto 4, 3), (64, .iconst 0, 1), (65, .ireturn, 1), (66, .aload_n 0, 1), (67, .ldc 64, 2), (69, .invokevirtual 48, 3), (72, .ifCond .eq 11, 3), (75, .aload_n 0, 1), (76, .iconst 5, 1), (77, .bipush 30, 2), (79, .invokevirtual 66, 3), (82, .ireturn, 1), (83, .aload_n 0, 1), (84, .ldc 70, 2), (86, .invokevirtual 48, 3), (89, .ifCond .eq 17, 3), (92, .aload_n 0, 1), (93, .iconst 1, 1), (94, .bipush 99, 2), (96, .invokevirtual 66, 3), (99, .ifCond .eq 7, 3), (102, .iconst 1, 1), (103, .goto 4, 3), (106, .iconst 0, 1), (107, .ireturn, 1)]
theorem dtbX8_takeItem_0 : ∀ q ∈ tbX8_takeItem_0, decode cX8_takeItem q.1 = .ok q.2 := by decide +kernel
def tbX8_takeAccount_0 : List (Nat × Instr × Nat) := [(0, .aload_n 0, 1), (1, .iconst 0, 1), (2, .bipush 99, 2), (4, .invokevirtual 72, 3), (7, .ifCond .ne 5, 3), (10, .iconst 0, 1), (11, .ireturn, 1), (12, .aload_n 0, 1), (13, .getfield 18, 3), (16, .getfield 75, 3), (19, .iconst 0, 1), (20, .bipush 10, 2), (22, .aload_n 0, 1), (23, .getfield 79, 3), (26, .imul, 1), (27, .iastore, 1), (28, .aload_n 0, 1), (29, .invokevirtual 82, 3), (32, .ireturn, 1)]
theorem dtbX8_takeAccount_0 : ∀ q ∈ tbX8_takeAccount_0, decode cX8_takeAccount q.1 = .ok q.2 := by decide +kernel
def tbX8_takeBill_0 : List (Nat × Instr × Nat) := [(0, .aload_n 0, 1), (1, .iconst 0, 1), (2, .iconst 5, 1), (3, .invokevirtual 72, 3), (6, .ifCond .ne 5, 3), (9, .iconst 0, 1), (10, .ireturn, 1), (11, .aload_n 0, 1), (12, .getfield 79, 3), (15, .istore_n 1, 1), (16, .aload_n 0, 1), (17, .iconst 1, 1), (18, .bipush 28, 2), (20, .invokevirtual 72, 3), (23, .ifCond .ne 5, 3), (26, .iconst 0, 1), (27, .ireturn, 1), (28, .aload_n 0, 1), (29, .getfield 79, 3), (32, .istore_n 2, 1), (33, .aload_n 0, 1), (34, .iconst 1, 1), (35, .bipush 99, 2), (37, .invokevirtual 72, 3), (40, .ifCond .ne 5, 3), (43, .iconst 0, 1), (44, .ireturn, 1), (45, .aload_n 0, 1), (46, .getfield 18, 3), (49, .iload_n 1, 1), (50, .iload_n 2, 1), (51, .aload_n 0, 1), (52, .getfield 79, 3), (55, .invokevirtual 85, 3), (58, .aload_n 0, 1), (59, .invokevirtual 82, 3), (62, .ireturn, 1)]
theorem dtbX8_takeBill_0 : ∀ q ∈ tbX8_takeBill_0, decode cX8_takeBill q.1 = .ok q.2 := by decide +kernel
def tbX8_takeFigure_0 : List (Nat × Instr × Nat) := [(0, .iload_n 1, 1), (1, .iconst 0, 1), (2, .iconst 5, 1), (3, .invokestatic 89, 3), (6, .ifCond .eq 12, 3), (9, .aload_n 0, 1), (10, .iconst 0, 1), (11, .iload_n 2, 1), (12, .invokevirtual 72, 3), (15, .ifCond .ne 5, 3), (18, .iconst 0, 1), (19, .ireturn, 1), (20, .aload_n 0, 1), (21, .getfield 18, 3), (24, .getfield 75, 3), (27, .iload_n 1, 1), (28, .aload_n 0, 1), (29, .getfield 79, 3), (32, .iastore, 1), (33, .aload_n 0, 1), (34, .invokevirtual 82, 3), (37, .ireturn, 1)]
theorem dtbX8_takeFigure_0 : ∀ q ∈ tbX8_takeFigure_0, decode cX8_takeFigure q.1 = .ok q.2 := by decide +kernel
def tbX8_takeNumber_0 : List (Nat × Instr × Nat) := [(0, .aload_n 0, 1), (1, .invokevirtual 33, 3), (4, .aload_n 0, 1), (5, .getfield 36, 3), (8, .iconst 2, 1), (9, .if_icmp .ne 19, 3), (12, .aload_n 0, 1), (13, .getfield 79, 3), (16, .iload_n 1, 1), (17, .iload_n 2, 1), (18, .invokestatic 89, 3), (21, .ifCond .eq 7, 3), (24, .iconst 1, 1), (25, .goto 4, 3), (28, .iconst 0, 1), (29, .ireturn, 1)]
theorem dtbX8_takeNumber_0 : ∀ q ∈ tbX8_takeNumber_0, decode cX8_takeNumber q.1 = .ok q.2 := by decide +kernel
def tbX8_takeStop_0 : List (Nat × Instr × Nat) := [(0, .aload_n 0, 1), (1, .invokevirtual 33, 3), (4, .aload_n 0, 1), (5, .getfield 36, 3), (8, .iconst 3, 1), (9, .if_icmp .ne 7, 3), (12, .iconst 1, 1), (13, .goto 4, 3), (16, .iconst 0, 1), (17, .ireturn, 1)]
theorem dtbX8_takeStop_0 : ∀ q ∈ tbX8_takeStop_0, decode cX8_takeStop q.1 = .ok q.2 := by decide +kernel
def tbX8_spells_0 : List (Nat × Instr × Nat) := [(0, .aload_n 0, 1), (1, .getfield 36, 3), (4, .iconst 1, 1), (5, .if_icmp .ne 19, 3), (8, .aload_n 0, 1), (9, .getfield 26, 3), (12, .aload_n 0, 1), (13, .getfield 43, 3), (16, .isub, 1), (17, .aload_n 1, 1), (18, .invokevirtual 93, 3), (21, .if_icmp .eq 5, 3), (24, .iconst 0, 1), (25, .ireturn, 1), (26, .iconst 0, 1), (27, .istore_n 2, 1), (28, .iload_n 2, 1), (29, .aload_n 1, 1), (30, .invokevirtual 93, 3), (33, .if_icmp .ge 29, 3), (36, .aload_n 0, 1), (37, .aload_n 0, 1), (38, .getfield 43, 3), (41, .iload_n 2, 1), (42, .iadd, 1), (43, .invokevirtual 98, 3), (46, .aload_n 1, 1), (47, .iload_n 2, 1), (48, .invokevirtual 102, 3), (51, .if_icmp .eq 5, 3), (54, .iconst 0, 1), (55, .ireturn, 1), (56, .iinc 2 1, 3), (59, .goto (-31), 3), (62, .iconst 1, 1), (63, .ireturn, 1)]
theorem dtbX8_spells_0 : ∀ q ∈ tbX8_spells_0, decode cX8_spells q.1 = .ok q.2 := by decide +kernel
end
section
def tbX8_takeToken_0 : List (Nat × Instr × Nat) := [(0, .aload_n 0, 1), (1, .bipush 32, 2), (3, .bipush 32, 2), (5, .invokevirtual 106, 3), (8, .aload_n 0, 1), (9, .aload_n 0, 1), (10, .getfield 26, 3), (13, .putfield 43, 3), (16, .aload_n 0, 1), (17, .aload_n 0, 1), (18, .getfield 43, 3), (21, .invokevirtual 98, 3), (24, .istore_n 1, 1), (25, .iload_n 1, 1), (26, .iconst (-1), 1), (27, .if_icmp .ne 11, 3), (30, .aload_n 0, 1), (31, .iconst 0, 1), (32, .putfield 36, 3), (35, .goto 144, 3), (38, .iload_n 1, 1), (39, .bipush 97, 2), (41, .bipush 122, 2), (43, .invokestatic 89, 3), (46, .ifCond .eq 19, 3), (49, .aload_n 0, 1), (50, .bipush 97, 2), (52, .bipush 122, 2), (54, .invokevirtual 106, 3), (57, .aload_n 0, 1), (58, .iconst 1, 1), (59, .putfield 36, 3), (62, .goto 117, 3), (65, .iload_n 1, 1), (66, .bipush 48, 2), (68, .bipush 57, 2), (70, .invokestatic 89, 3), (73, .ifCond .eq 81, 3), (76, .aload_n 0, 1), (77, .bipush 48, 2), (79, .bipush 57, 2), (81, .invokevirtual 106, 3), (84, .aload_n 0, 1), (85, .aload_n 0, 1), (86, .getfield 26, 3), (89, .aload_n 0, 1), (90, .getfield 43, 3), (93, .isub, 1), (94, .iconst 2, 1), (95, .if_icmp .le 7, 3), (98, .iconst 4, 1), (99, .goto 4, 3), (102, .iconst 2, 1), (103, .putfield 36, 3), (106, .aload_n 0, 1), (107, .aload_n 0, 1), (108, .getfield 26, 3), (111, .aload_n 0, 1), (112, .getfield 43, 3), (115, .isub, 1)]
theorem dtbX8_takeToken_0 : ∀ q ∈ tbX8_takeToken_0, decode cX8_takeToken q.1 = .ok q.2 := by decide +kernel
def tbX8_takeToken_1 : List (Nat × Instr × Nat) := [(116, .iconst 1, 1), (117, .if_icmp .ne 10, 3), (120, .iload_n 1, 1), (121, .bipush 48, 2), (123, .isub, 1), (124, .goto 24, 3), (127, .bipush 10, 2), (129, .iload_n 1, 1), (130, .bipush 48, 2), (132, .isub, 1), (133, .imul, 1), (134, .aload_n 0, 1), (135, .aload_n 0, 1), (136, .getfield 43, 3), (139, .iconst 1, 1), (140, .iadd, 1), (141, .invokevirtual 98, 3), (144, .iadd, 1), (145, .bipush 48, 2), (147, .isub, 1), (148, .putfield 79, 3), (151, .goto 28, 3), (154, .aload_n 0, 1), (155, .dup, 1), (156, .getfield 26, 3), (159, .iconst 1, 1), (160, .iadd, 1), (161, .putfield 26, 3), (164, .aload_n 0, 1), (165, .iload_n 1, 1), (166, .bipush 59, 2), (168, .if_icmp .ne 7, 3), (171, .iconst 3, 1), (172, .goto 4, 3), (175, .iconst 4, 1), (176, .putfield 36, 3), (179, .return_, 1)]
theorem dtbX8_takeToken_1 : ∀ q ∈ tbX8_takeToken_1, decode cX8_takeToken q.1 = .ok q.2 := by decide +kernel
def tbX8_skipRun_0 : List (Nat × Instr × Nat) := [(0, .aload_n 0, 1), (1, .getfield 26, 3), (4, .aload_n 0, 1), (5, .getfield 22, 3), (8, .if_icmp .ge 52, 3), (11, .aload_n 0, 1), (12, .getfield 26, 3), (15, .sipush 150, 3), (18, .if_icmp .ge 42, 3), (21, .aload_n 0, 1), (22, .getfield 9, 3), (25, .aload_n 0, 1), (26, .getfield 26, 3), (29, .baload, 1), (30, .iload_n 1, 1), (31, .if_icmp .lt 29, 3), (34, .aload_n 0, 1), (35, .getfield 9, 3), (38, .aload_n 0, 1), (39, .getfield 26, 3), (42, .baload, 1), (43, .iload_n 2, 1), (44, .if_icmp .gt 16, 3), (47, .aload_n 0, 1), (48, .dup, 1), (49, .getfield 26, 3), (52, .iconst 1, 1), (53, .iadd, 1), (54, .putfield 26, 3), (57, .goto (-57), 3), (60, .return_, 1)]
theorem dtbX8_skipRun_0 : ∀ q ∈ tbX8_skipRun_0, decode cX8_skipRun q.1 = .ok q.2 := by decide +kernel
def tbX8_byteAt_0 : List (Nat × Instr × Nat) := [(0, .iload_n 1, 1), (1, .ifCond .lt 27, 3), (4, .iload_n 1, 1), (5, .aload_n 0, 1), (6, .getfield 22, 3), (9, .if_icmp .ge 19, 3), (12, .iload_n 1, 1), (13, .sipush 150, 3), (16, .if_icmp .ge 12, 3), (19, .aload_n 0, 1), (20, .getfield 9, 3), (23, .iload_n 1, 1), (24, .baload, 1), (25, .goto 4, 3), (28, .iconst (-1), 1), (29, .ireturn, 1)]
theorem dtbX8_byteAt_0 : ∀ q ∈ tbX8_byteAt_0, decode cX8_byteAt q.1 = .ok q.2 := by decide +kernel
def tbX9_init_0 : List (Nat × Instr × Nat) := [(0, .aload_n 0, 1), (1, .invokespecial 1, 3), (4, .return_, 1)]
theorem dtbX9_init_0 : ∀ q ∈ tbX9_init_0, decode cX9_init q.1 = .ok q.2 := by decide +kernel
def tbX9_poundsIn_0 : List (Nat × Instr × Nat) := [(0, .iload_n 1, 1), (1, .bipush 12, 2), (3, .irem, 1), (4, .ifCond .ne 15, 3), (7, .bipush 10, 2), (9, .aload_n 0, 1), (10, .iload_n 1, 1), (11, .iload_n 2, 1), (12, .invokespecial 7, 3), (15, .imul, 1), (16, .goto 4, 3), (19, .iconst 0, 1), (20, .ireturn, 1)]
theorem dtbX9_poundsIn_0 : ∀ q ∈ tbX9_poundsIn_0, decode cX9_poundsIn q.1 = .ok q.2 := by decide +kernel
def tbX10_init_0 : List (Nat × Instr × Nat) := [(0, .aload_n 0, 1), (1, .invokespecial 1, 3), (4, .aload_n 0, 1), (5, .new 7, 3), (8, .dup, 1), (9, .invokespecial 9, 3), (12, .putfield 10, 3), (15, .aload_n 0, 1), (16, .new 7, 3), (19, .dup, 1), (20, .invokespecial 9, 3), (23, .putfield 16, 3), (26, .aload_n 0, 1), (27, .new 7, 3), (30, .dup, 1), (31, .invokespecial 9, 3), (34, .putfield 19, 3), (37, .aload_n 0, 1), (38, .iconst 2, 1), (39, .newarray .boolean, 2), (41, .putfield 22, 3), (44, .aload_n 0, 1), (45, .new 26, 3), (48, .dup, 1), (49, .invokespecial 28, 3), (52, .putfield 29, 3), (55, .aload_n 0, 1), (56, .new 33, 3), (59, .dup, 1), (60, .invokespecial 35, 3), (63, .putfield 36, 3), (66, .aload_n 0, 1), (67, .aload_n 0, 1), (68, .getfield 36, 3), (71, .getfield 40, 3), (74, .putfield 44, 3), (77, .aload_n 0, 1), (78, .bipush 7, 2), (80, .newarray .int, 2), (82, .putfield 45, 3), (85, .aload_n 0, 1), (86, .lconst 1, 1), (87, .putfield 49, 3), (90, .return_, 1)]
theorem dtbX10_init_0 : ∀ q ∈ tbX10_init_0, decode cX10_init q.1 = .ok q.2 := by decide +kernel
def tbX10_account_0 : List (Nat × Instr × Nat) := [(0, .iload_n 1, 1), (1, .iconst 0, 1), (2, .sipush 999, 3), (5, .invokestatic 53, 3), (8, .ifCond .ne 10, 3), (11, .aload_n 0, 1), (12, .bipush (-2), 2), (14, .invokevirtual 57, 3), (17, .ireturn, 1), (18, .aload_n 0, 1), (19, .getfield 10, 3), (22, .getfield 61, 3), (25, .istore_n 2, 1), (26, .aload_n 0, 1), (27, .getfield 10, 3), (30, .iload_n 1, 1), (31, .invokevirtual 65, 3), (34, .iload_n 2, 1), (35, .ireturn, 1)]
theorem dtbX10_account_0 : ∀ q ∈ tbX10_account_0, decode cX10_account q.1 = .ok q.2 := by decide +kernel
def tbX10_bill_0 : List (Nat × Instr × Nat) := [(0, .iload_n 1, 1), (1, .iload_n 2, 1), (2, .iload_n 3, 1), (3, .invokestatic 69, 3), (6, .ifCond .ne 10, 3), (9, .aload_n 0, 1), (10, .bipush (-2), 2), (12, .invokevirtual 57, 3), (15, .ireturn, 1), (16, .aload_n 0, 1), (17, .getfield 10, 3), (20, .getfield 61, 3), (23, .bipush 7, 2), (25, .if_icmp .lt 8, 3), (28, .aload_n 0, 1), (29, .invokevirtual 72, 3), (32, .ireturn, 1), (33, .aload_n 0, 1), (34, .getfield 10, 3), (37, .iload_n 1, 1), (38, .iload_n 2, 1), (39, .iload_n 3, 1), (40, .invokevirtual 76, 3), (43, .aload_n 0, 1), (44, .getfield 10, 3), (47, .getfield 61, 3), (50, .iconst 1, 1), (51, .isub, 1), (52, .ireturn, 1)]
theorem dtbX10_bill_0 : ∀ q ∈ tbX10_bill_0, decode cX10_bill q.1 = .ok q.2 := by decide +kernel
def tbX10_type_0 : List (Nat × Instr × Nat) := [(0, .iload_n 1, 1), (1, .iconst 0, 1), (2, .bipush 127, 2), (4, .invokestatic 53, 3), (7, .ifCond .ne 10, 3), (10, .aload_n 0, 1), (11, .bipush (-2), 2), (13, .invokevirtual 57, 3), (16, .ireturn, 1), (17, .aload_n 0, 1), (18, .getfield 29, 3), (21, .getfield 80, 3), (24, .sipush 150, 3), (27, .if_icmp .lt 8, 3), (30, .aload_n 0, 1), (31, .invokevirtual 72, 3), (34, .ireturn, 1), (35, .aload_n 0, 1), (36, .getfield 29, 3), (39, .iload_n 1, 1), (40, .invokevirtual 83, 3), (43, .aload_n 0, 1), (44, .getfield 29, 3), (47, .getfield 80, 3), (50, .ireturn, 1)]
theorem dtbX10_type_0 : ∀ q ∈ tbX10_type_0, decode cX10_type q.1 = .ok q.2 := by decide +kernel
def tbX10_clear_0 : List (Nat × Instr × Nat) := [(0, .aload_n 0, 1), (1, .getfield 29, 3), (4, .getfield 80, 3), (7, .istore_n 1, 1), (8, .aload_n 0, 1), (9, .getfield 29, 3), (12, .iconst 0, 1), (13, .putfield 80, 3), (16, .iload_n 1, 1), (17, .ireturn, 1)]
theorem dtbX10_clear_0 : ∀ q ∈ tbX10_clear_0, decode cX10_clear q.1 = .ok q.2 := by decide +kernel
def tbX10_read_0 : List (Nat × Instr × Nat) := [(0, .aload_n 0, 1), (1, .getfield 29, 3), (4, .invokevirtual 86, 3), (7, .istore_n 1, 1), (8, .iload_n 1, 1), (9, .ifCond .lt 17, 3), (12, .aload_n 0, 1), (13, .getfield 10, 3), (16, .aload_n 0, 1), (17, .getfield 29, 3), (20, .getfield 89, 3), (23, .invokevirtual 92, 3), (26, .iload_n 1, 1), (27, .ireturn, 1)]
theorem dtbX10_read_0 : ∀ q ∈ tbX10_read_0, decode cX10_read q.1 = .ok q.2 := by decide +kernel
def tbX10_days_0 : List (Nat × Instr × Nat) := [(0, .iload_n 1, 1), (1, .iconst 1, 1), (2, .bipush 99, 2), (4, .invokestatic 53, 3), (7, .ifCond .ne 10, 3), (10, .aload_n 0, 1), (11, .bipush (-2), 2), (13, .invokevirtual 57, 3), (16, .ireturn, 1), (17, .aload_n 0, 1), (18, .getfield 10, 3), (21, .invokevirtual 96, 3), (24, .aload_n 0, 1), (25, .getfield 10, 3), (28, .getfield 99, 3), (31, .iconst 2, 1), (32, .iaload, 1), (33, .istore_n 2, 1), (34, .iconst 0, 1), (35, .istore_n 3, 1), (36, .iload_n 3, 1), (37, .iload_n 1, 1), (38, .if_icmp .ge 13, 3), (41, .aload_n 0, 1), (42, .invokevirtual 102, 3), (45, .iinc 3 1, 3), (48, .goto (-12), 3), (51, .aload_n 0, 1), (52, .getfield 10, 3), (55, .getfield 99, 3), (58, .iconst 2, 1), (59, .iaload, 1), (60, .iload_n 2, 1), (61, .isub, 1), (62, .ireturn, 1)]
theorem dtbX10_days_0 : ∀ q ∈ tbX10_days_0, decode cX10_days q.1 = .ok q.2 := by decide +kernel
def tbX10_spend_0 : List (Nat × Instr × Nat) := [(0, .iload_n 1, 1), (1, .iconst 0, 1), (2, .bipush 30, 2), (4, .invokestatic 53, 3), (7, .ifCond .ne 10, 3), (10, .aload_n 0, 1), (11, .bipush (-2), 2), (13, .invokevirtual 57, 3), (16, .ireturn, 1), (17, .aload_n 0, 1), (18, .getfield 10, 3), (21, .invokevirtual 96, 3), (24, .aload_n 0, 1), (25, .getfield 10, 3), (28, .getfield 99, 3), (31, .iconst 5, 1), (32, .iaload, 1), (33, .istore_n 2, 1), (34, .aload_n 0, 1), (35, .getfield 10, 3), (38, .getfield 99, 3), (41, .iconst 5, 1), (42, .iload_n 1, 1), (43, .iastore, 1), (44, .iload_n 2, 1), (45, .ireturn, 1)]
theorem dtbX10_spend_0 : ∀ q ∈ tbX10_spend_0, decode cX10_spend q.1 = .ok q.2 := by decide +kernel
def tbX10_jar_0 : List (Nat × Instr × Nat) := [(0, .iload_n 1, 1), (1, .bipush (-99), 2), (3, .bipush 99, 2), (5, .invokestatic 53, 3), (8, .ifCond .ne 10, 3), (11, .aload_n 0, 1), (12, .bipush (-2), 2), (14, .invokevirtual 57, 3), (17, .ireturn, 1), (18, .aload_n 0, 1), (19, .getfield 10, 3), (22, .getfield 99, 3), (25, .iconst 1, 1), (26, .iaload, 1), (27, .iload_n 1, 1), (28, .iadd, 1), (29, .ifCond .ge 7, 3), (32, .iconst 1, 1), (33, .goto 4, 3), (36, .iconst 0, 1), (37, .istore_n 2, 1), (38, .iload_n 1, 1), (39, .ifCond .le 21, 3), (42, .aload_n 0, 1), (43, .getfield 10, 3), (46, .getfield 99, 3), (49, .iconst 0, 1), (50, .iaload, 1), (51, .iload_n 1, 1), (52, .isub, 1), (53, .ifCond .ge 7, 3), (56, .iconst 1, 1), (57, .goto 4, 3), (60, .iconst 0, 1), (61, .istore_n 3, 1), (62, .iload_n 2, 1), (63, .ifCond .ne 7, 3), (66, .iload_n 3, 1), (67, .ifCond .eq 8, 3), (70, .aload_n 0, 1), (71, .invokevirtual 105, 3), (74, .ireturn, 1), (75, .aload_n 0, 1), (76, .getfield 10, 3), (79, .invokevirtual 96, 3), (82, .aload_n 0, 1), (83, .getfield 10, 3), (86, .getfield 99, 3), (89, .iconst 0, 1), (90, .dup2, 1), (91, .iaload, 1), (92, .iload_n 1, 1), (93, .isub, 1), (94, .iastore, 1), (95, .aload_n 0, 1), (96, .getfield 10, 3), (99, .getfield 99, 3), (102, .iconst 1, 1), (103, .dup2, 1), (104, .iaload, 1)]
theorem dtbX10_jar_0 : ∀ q ∈ tbX10_jar_0, decode cX10_jar q.1 = .ok q.2 := by decide +kernel
def tbX10_jar_1 : List (Nat × Instr × Nat) := [(105, .iload_n 1, 1), (106, .iadd, 1), (107, .iastore, 1), (108, .aload_n 0, 1), (109, .getfield 10, 3), (112, .getfield 99, 3), (115, .iconst 1, 1), (116, .iaload, 1), (117, .ireturn, 1)]
theorem dtbX10_jar_1 : ∀ q ∈ tbX10_jar_1, decode cX10_jar q.1 = .ok q.2 := by decide +kernel
def tbX10_undo_0 : List (Nat × Instr × Nat) := [(0, .aload_n 0, 1), (1, .getfield 10, 3), (4, .getfield 108, 3), (7, .ifCond .gt 8, 3), (10, .aload_n 0, 1), (11, .invokevirtual 105, 3), (14, .ireturn, 1), (15, .aload_n 0, 1), (16, .getfield 10, 3), (19, .invokevirtual 111, 3), (22, .aload_n 0, 1), (23, .getfield 10, 3), (26, .getfield 99, 3), (29, .iconst 3, 1), (30, .iaload, 1), (31, .ireturn, 1)]
theorem dtbX10_undo_0 : ∀ q ∈ tbX10_undo_0, decode cX10_undo q.1 = .ok q.2 := by decide +kernel
def tbX10_of_0 : List (Nat × Instr × Nat) := [(0, .aload_n 0, 1), (1, .iload_n 1, 1), (2, .invokevirtual 114, 3), (5, .ifCond .eq 12, 3), (8, .iload_n 2, 1), (9, .iconst 0, 1), (10, .iconst 4, 1), (11, .invokestatic 53, 3), (14, .ifCond .ne 11, 3), (17, .aload_n 0, 1), (18, .sipush (-10000), 3), (21, .invokevirtual 57, 3), (24, .ireturn, 1), (25, .aload_n 0, 1), (26, .getfield 44, 3), (29, .aload_n 0, 1), (30, .getfield 10, 3), (33, .iload_n 1, 1), (34, .invokevirtual 118, 3), (37, .invokevirtual 121, 3), (40, .astore_n 3, 1), (41, .iload_n 2, 1), (42, .tableswitch 70 0 3 #[30, 39, 48, 57], 30), (72, .aload_n 0, 1), (73, .getfield 10, 3), (76, .iload_n 1, 1), (77, .invokevirtual 118, 3), (80, .ireturn, 1), (81, .aload_n 0, 1), (82, .getfield 10, 3), (85, .iload_n 1, 1), (86, .invokevirtual 127, 3), (89, .ireturn, 1), (90, .aload_n 0, 1), (91, .getfield 10, 3), (94, .iload_n 1, 1), (95, .invokevirtual 130, 3), (98, .ireturn, 1), (99, .aload_n 3, 1), (100, .aload_n 0, 1), (101, .getfield 10, 3), (104, .iload_n 1, 1), (105, .invokevirtual 127, 3), (108, .invokevirtual 133, 3), (111, .ireturn, 1), (112, .aload_n 3, 1), (113, .aload_n 0, 1), (114, .getfield 10, 3), (117, .getfield 99, 3), (120, .iconst 4, 1), (121, .iaload, 1), (122, .aload_n 0, 1), (123, .getfield 10, 3), (126, .iload_n 1, 1), (127, .invokevirtual 130, 3), (130, .invokevirtual 138, 3), (133, .ireturn, 1)]
theorem dtbX10_of_0 : ∀ q ∈ tbX10_of_0, decode cX10_of q.1 = .ok q.2 := by decide +kernel
def tbX10_now_0 : List (Nat × Instr × Nat) := [(0, .iload_n 1, 1), (1, .iconst 0, 1), (2, .iconst 5, 1), (3, .invokestatic 53, 3), (6, .ifCond .ne 10, 3), (9, .aload_n 0, 1), (10, .ldc 142, 2), (12, .invokevirtual 57, 3), (15, .ireturn, 1), (16, .aload_n 0, 1), (17, .getfield 10, 3), (20, .getfield 99, 3), (23, .iload_n 1, 1), (24, .iaload, 1), (25, .ireturn, 1)]
theorem dtbX10_now_0 : ∀ q ∈ tbX10_now_0, decode cX10_now q.1 = .ok q.2 := by decide +kernel
def tbX10_truly_0 : List (Nat × Instr × Nat) := [(0, .aload_n 0, 1), (1, .getfield 10, 3), (4, .getfield 99, 3), (7, .iconst 0, 1), (8, .iaload, 1), (9, .istore_n 1, 1), (10, .iconst 0, 1), (11, .istore_n 2, 1), (12, .iload_n 2, 1), (13, .aload_n 0, 1), (14, .getfield 10, 3), (17, .getfield 61, 3), (20, .if_icmp .ge 85, 3), (23, .aload_n 0, 1), (24, .getfield 44, 3), (27, .aload_n 0, 1), (28, .getfield 10, 3), (31, .iload_n 2, 1), (32, .invokevirtual 118, 3), (35, .invokevirtual 121, 3), (38, .astore_n 3, 1), (39, .aload_n 0, 1), (40, .getfield 10, 3), (43, .iload_n 2, 1), (44, .invokevirtual 118, 3), (47, .iconst 5, 1), (48, .if_icmp .eq 51, 3), (51, .aload_n 3, 1), (52, .aload_n 0, 1), (53, .getfield 10, 3), (56, .iload_n 2, 1), (57, .invokevirtual 127, 3), (60, .invokevirtual 133, 3), (63, .aload_n 0, 1), (64, .getfield 10, 3), (67, .getfield 99, 3), (70, .iconst 3, 1), (71, .iaload, 1), (72, .if_icmp .lt 27, 3), (75, .iload_n 1, 1), (76, .aload_n 3, 1), (77, .aload_n 0, 1), (78, .getfield 10, 3), (81, .getfield 99, 3), (84, .iconst 4, 1), (85, .iaload, 1), (86, .aload_n 0, 1), (87, .getfield 10, 3), (90, .iload_n 2, 1), (91, .invokevirtual 130, 3), (94, .invokevirtual 138, 3), (97, .isub, 1), (98, .istore_n 1, 1), (99, .iinc 2 1, 3), (102, .goto (-90), 3), (105, .iload_n 1, 1), (106, .ireturn, 1)]
theorem dtbX10_truly_0 : ∀ q ∈ tbX10_truly_0, decode cX10_truly q.1 = .ok q.2 := by decide +kernel
def tbX10_then_0 : List (Nat × Instr × Nat) := [(0, .iload_n 1, 1), (1, .iconst 0, 1), (2, .bipush 99, 2), (4, .invokestatic 53, 3), (7, .ifCond .eq 12, 3), (10, .iload_n 2, 1), (11, .iconst 0, 1), (12, .iconst 1, 1), (13, .invokestatic 53, 3), (16, .ifCond .ne 10, 3), (19, .aload_n 0, 1), (20, .ldc 142, 2), (22, .invokevirtual 57, 3), (25, .ireturn, 1), (26, .aload_n 0, 1), (27, .iload_n 1, 1), (28, .invokevirtual 143, 3), (31, .iload_n 2, 1), (32, .ifCond .ne 13, 3), (35, .aload_n 0, 1), (36, .getfield 36, 3), (39, .getfield 146, 3), (42, .goto 10, 3), (45, .aload_n 0, 1), (46, .getfield 36, 3), (49, .getfield 149, 3), (52, .ireturn, 1)]
theorem dtbX10_then_0 : ∀ q ∈ tbX10_then_0, decode cX10_then q.1 = .ok q.2 := by decide +kernel
def tbX10_low_0 : List (Nat × Instr × Nat) := [(0, .iload_n 1, 1), (1, .iconst 1, 1), (2, .bipush 99, 2), (4, .invokestatic 53, 3), (7, .ifCond .eq 12, 3), (10, .iload_n 2, 1), (11, .iconst 0, 1), (12, .iconst 1, 1), (13, .invokestatic 53, 3), (16, .ifCond .ne 10, 3), (19, .aload_n 0, 1), (20, .ldc 142, 2), (22, .invokevirtual 57, 3), (25, .ireturn, 1), (26, .aload_n 0, 1), (27, .iload_n 1, 1), (28, .invokevirtual 143, 3), (31, .iload_n 2, 1), (32, .ifCond .ne 13, 3), (35, .aload_n 0, 1), (36, .getfield 36, 3), (39, .getfield 152, 3), (42, .goto 10, 3), (45, .aload_n 0, 1), (46, .getfield 36, 3), (49, .getfield 155, 3), (52, .ireturn, 1)]
theorem dtbX10_low_0 : ∀ q ∈ tbX10_low_0, decode cX10_low q.1 = .ok q.2 := by decide +kernel
def tbX10_below_0 : List (Nat × Instr × Nat) := [(0, .aload_n 0, 1), (1, .bipush 99, 2), (3, .invokevirtual 143, 3), (6, .aload_n 0, 1), (7, .getfield 36, 3), (10, .getfield 158, 3), (13, .ireturn, 1)]
theorem dtbX10_below_0 : ∀ q ∈ tbX10_below_0, decode cX10_below q.1 = .ok q.2 := by decide +kernel
def tbX10_most_0 : List (Nat × Instr × Nat) := [(0, .iload_n 1, 1), (1, .iconst 1, 1), (2, .bipush 99, 2), (4, .invokestatic 53, 3), (7, .ifCond .ne 10, 3), (10, .aload_n 0, 1), (11, .bipush (-2), 2), (13, .invokevirtual 57, 3), (16, .ireturn, 1), (17, .aload_n 0, 1), (18, .getfield 36, 3), (21, .aload_n 0, 1), (22, .getfield 10, 3), (25, .iload_n 1, 1), (26, .invokevirtual 161, 3), (29, .aload_n 0, 1), (30, .getfield 36, 3), (33, .aload_n 0, 1), (34, .getfield 10, 3), (37, .getfield 99, 3), (40, .iconst 0, 1), (41, .iaload, 1), (42, .invokevirtual 165, 3), (45, .istore_n 2, 1), (46, .iload_n 2, 1), (47, .ifCond .ge 7, 3), (50, .iconst (-1), 1), (51, .goto 4, 3), (54, .iload_n 2, 1), (55, .ireturn, 1)]
theorem dtbX10_most_0 : ∀ q ∈ tbX10_most_0, decode cX10_most q.1 = .ok q.2 := by decide +kernel
def tbX10_need_0 : List (Nat × Instr × Nat) := [(0, .iload_n 1, 1), (1, .iconst 1, 1), (2, .bipush 99, 2), (4, .invokestatic 53, 3), (7, .ifCond .ne 10, 3), (10, .aload_n 0, 1), (11, .bipush (-2), 2), (13, .invokevirtual 57, 3), (16, .ireturn, 1), (17, .aload_n 0, 1), (18, .getfield 36, 3), (21, .aload_n 0, 1), (22, .getfield 10, 3), (25, .iload_n 1, 1), (26, .invokevirtual 161, 3), (29, .aload_n 0, 1), (30, .getfield 36, 3), (33, .aload_n 0, 1), (34, .getfield 10, 3), (37, .getfield 99, 3), (40, .iconst 0, 1), (41, .iaload, 1), (42, .aload_n 0, 1), (43, .getfield 10, 3), (46, .getfield 99, 3), (49, .iconst 5, 1), (50, .iaload, 1), (51, .invokevirtual 168, 3), (54, .istore_n 2, 1), (55, .iload_n 2, 1), (56, .sipush 999, 3), (59, .if_icmp .le 7, 3), (62, .iconst (-1), 1), (63, .goto 4, 3), (66, .iload_n 2, 1), (67, .ireturn, 1)]
theorem dtbX10_need_0 : ∀ q ∈ tbX10_need_0, decode cX10_need q.1 = .ok q.2 := by decide +kernel
def tbX10_move_0 : List (Nat × Instr × Nat) := [(0, .aload_n 0, 1), (1, .getfield 36, 3), (4, .aload_n 0, 1), (5, .getfield 10, 3), (8, .bipush 28, 2), (10, .invokevirtual 161, 3), (13, .aload_n 0, 1), (14, .invokevirtual 171, 3), (17, .istore_n 1, 1), (18, .iconst (-1), 1), (19, .istore_n 2, 1), (20, .iconst 0, 1), (21, .istore_n 3, 1), (22, .iload_n 3, 1), (23, .aload_n 0, 1), (24, .getfield 10, 3), (27, .getfield 61, 3), (30, .if_icmp .ge 120, 3), (33, .aload_n 0, 1), (34, .getfield 36, 3), (37, .aload_n 0, 1), (38, .getfield 10, 3), (41, .iload_n 3, 1), (42, .aload_n 0, 1), (43, .getfield 10, 3), (46, .iload_n 3, 1), (47, .invokevirtual 127, 3), (50, .iconst (-1), 1), (51, .invokevirtual 174, 3), (54, .iconst 1, 1), (55, .istore 4, 2), (57, .iload 4, 2), (59, .bipush 28, 2), (61, .if_icmp .gt 62, 3), (64, .aload_n 0, 1), (65, .getfield 36, 3), (68, .aload_n 0, 1), (69, .getfield 10, 3), (72, .iload_n 3, 1), (73, .iload 4, 2), (75, .iconst 1, 1), (76, .invokevirtual 174, 3), (79, .aload_n 0, 1), (80, .invokevirtual 171, 3), (83, .istore 5, 2), (85, .iload 5, 2), (87, .iload_n 1, 1), (88, .if_icmp .ge 14, 3), (91, .iload 5, 2), (93, .istore_n 1, 1), (94, .bipush 100, 2), (96, .iload_n 3, 1), (97, .imul, 1), (98, .iload 4, 2), (100, .iadd, 1), (101, .istore_n 2, 1), (102, .aload_n 0, 1), (103, .getfield 36, 3), (106, .aload_n 0, 1), (107, .getfield 10, 3)]
theorem dtbX10_move_0 : ∀ q ∈ tbX10_move_0, decode cX10_move q.1 = .ok q.2 := by decide +kernel
def tbX10_move_1 : List (Nat × Instr × Nat) := [(110, .iload_n 3, 1), (111, .iload 4, 2), (113, .iconst (-1), 1), (114, .invokevirtual 174, 3), (117, .iinc 4 1, 3), (120, .goto (-63), 3), (123, .aload_n 0, 1), (124, .getfield 36, 3), (127, .aload_n 0, 1), (128, .getfield 10, 3), (131, .iload_n 3, 1), (132, .aload_n 0, 1), (133, .getfield 10, 3), (136, .iload_n 3, 1), (137, .invokevirtual 127, 3), (140, .iconst 1, 1), (141, .invokevirtual 174, 3), (144, .iinc 3 1, 3), (147, .goto (-125), 3), (150, .iload_n 2, 1), (151, .ireturn, 1)]
theorem dtbX10_move_1 : ∀ q ∈ tbX10_move_1, decode cX10_move q.1 = .ok q.2 := by decide +kernel
def tbX10_monthly_0 : List (Nat × Instr × Nat) := [(0, .aload_n 0, 1), (1, .iload_n 1, 1), (2, .invokevirtual 114, 3), (5, .ifCond .ne 10, 3), (8, .aload_n 0, 1), (9, .ldc 142, 2), (11, .invokevirtual 57, 3), (14, .ireturn, 1), (15, .aload_n 0, 1), (16, .getfield 44, 3), (19, .aload_n 0, 1), (20, .getfield 10, 3), (23, .iload_n 1, 1), (24, .invokevirtual 118, 3), (27, .invokevirtual 121, 3), (30, .astore_n 2, 1), (31, .aload_n 0, 1), (32, .getfield 44, 3), (35, .iconst 0, 1), (36, .invokevirtual 121, 3), (39, .astore_n 3, 1), (40, .aload_n 0, 1), (41, .getfield 10, 3), (44, .iload_n 1, 1), (45, .invokevirtual 130, 3), (48, .istore 4, 2), (50, .iconst 0, 1), (51, .istore 5, 2), (53, .iconst 0, 1), (54, .istore 6, 2), (56, .iload 6, 2), (58, .bipush 12, 2), (60, .if_icmp .ge 45, 3), (63, .aload_n 0, 1), (64, .getfield 10, 3), (67, .getfield 99, 3), (70, .iconst 4, 1), (71, .iaload, 1), (72, .iload 6, 2), (74, .iadd, 1), (75, .istore 7, 2), (77, .iload 5, 2), (79, .aload_n 2, 1), (80, .iload 7, 2), (82, .iload 4, 2), (84, .invokevirtual 138, 3), (87, .aload_n 3, 1), (88, .iload 7, 2), (90, .iload 4, 2), (92, .invokevirtual 138, 3), (95, .isub, 1), (96, .iadd, 1), (97, .istore 5, 2), (99, .iinc 6 1, 3), (102, .goto (-46), 3), (105, .iload 5, 2), (107, .ireturn, 1)]
theorem dtbX10_monthly_0 : ∀ q ∈ tbX10_monthly_0, decode cX10_monthly q.1 = .ok q.2 := by decide +kernel
def tbX10_dear_0 : List (Nat × Instr × Nat) := [(0, .aload_n 0, 1), (1, .getfield 36, 3), (4, .aload_n 0, 1), (5, .getfield 10, 3), (8, .bipush 28, 2), (10, .invokevirtual 161, 3), (13, .iconst (-1), 1), (14, .istore_n 1, 1), (15, .iconst 0, 1), (16, .istore_n 2, 1), (17, .iconst 0, 1), (18, .istore_n 3, 1), (19, .iload_n 3, 1), (20, .aload_n 0, 1), (21, .getfield 10, 3), (24, .getfield 61, 3), (27, .if_icmp .ge 73, 3), (30, .aload_n 0, 1), (31, .getfield 36, 3), (34, .aload_n 0, 1), (35, .getfield 10, 3), (38, .iload_n 3, 1), (39, .aload_n 0, 1), (40, .getfield 10, 3), (43, .iload_n 3, 1), (44, .invokevirtual 127, 3), (47, .iconst (-1), 1), (48, .invokevirtual 174, 3), (51, .aload_n 0, 1), (52, .invokevirtual 171, 3), (55, .istore 4, 2), (57, .iload_n 1, 1), (58, .iconst (-1), 1), (59, .if_icmp .eq 9, 3), (62, .iload 4, 2), (64, .iload_n 2, 1), (65, .if_icmp .ge 8, 3), (68, .iload 4, 2), (70, .istore_n 2, 1), (71, .iload_n 3, 1), (72, .istore_n 1, 1), (73, .aload_n 0, 1), (74, .getfield 36, 3), (77, .aload_n 0, 1), (78, .getfield 10, 3), (81, .iload_n 3, 1), (82, .aload_n 0, 1), (83, .getfield 10, 3), (86, .iload_n 3, 1), (87, .invokevirtual 127, 3), (90, .iconst 1, 1), (91, .invokevirtual 174, 3), (94, .iinc 3 1, 3), (97, .goto (-78), 3), (100, .iload_n 1, 1), (101, .ireturn, 1)]
theorem dtbX10_dear_0 : ∀ q ∈ tbX10_dear_0, decode cX10_dear q.1 = .ok q.2 := by decide +kernel
def tbX10_note_0 : List (Nat × Instr × Nat) := [(0, .iload_n 2, 1), (1, .iconst 1, 1), (2, .bipush 28, 2), (4, .invokestatic 53, 3), (7, .ifCond .eq 17, 3), (10, .iload_n 3, 1), (11, .iconst 1, 1), (12, .bipush 28, 2), (14, .invokestatic 53, 3), (17, .ifCond .eq 7, 3), (20, .iconst 1, 1), (21, .goto 4, 3), (24, .iconst 0, 1), (25, .istore 6, 2), (27, .aload_n 0, 1), (28, .iload_n 1, 1), (29, .invokevirtual 114, 3), (32, .ifCond .eq 33, 3), (35, .iload 6, 2), (37, .ifCond .eq 28, 3), (40, .iload 4, 2), (42, .iconst 0, 1), (43, .bipush 40, 2), (45, .invokestatic 53, 3), (48, .ifCond .eq 17, 3), (51, .iload 5, 2), (53, .sipush (-999), 3), (56, .sipush 999, 3), (59, .invokestatic 53, 3), (62, .ifCond .ne 10, 3), (65, .aload_n 0, 1), (66, .bipush (-2), 2), (68, .invokevirtual 57, 3), (71, .ireturn, 1), (72, .aload_n 0, 1), (73, .getfield 10, 3), (76, .getfield 178, 3), (79, .bipush 6, 2), (81, .if_icmp .lt 8, 3), (84, .aload_n 0, 1), (85, .invokevirtual 72, 3), (88, .ireturn, 1), (89, .aload_n 0, 1), (90, .getfield 10, 3), (93, .iload_n 1, 1), (94, .iload_n 2, 1), (95, .iload_n 3, 1), (96, .iload 4, 2), (98, .iload 5, 2), (100, .invokevirtual 181, 3), (103, .aload_n 0, 1), (104, .getfield 10, 3), (107, .getfield 178, 3), (110, .ireturn, 1)]
theorem dtbX10_note_0 : ∀ q ∈ tbX10_note_0, decode cX10_note q.1 = .ok q.2 := by decide +kernel
end
section
def tbX10_forget_0 : List (Nat × Instr × Nat) := [(0, .aload_n 0, 1), (1, .getfield 10, 3), (4, .getfield 178, 3), (7, .istore_n 1, 1), (8, .aload_n 0, 1), (9, .getfield 10, 3), (12, .iconst 0, 1), (13, .putfield 178, 3), (16, .iload_n 1, 1), (17, .ireturn, 1)]
theorem dtbX10_forget_0 : ∀ q ∈ tbX10_forget_0, decode cX10_forget q.1 = .ok q.2 := by decide +kernel
def tbX10_is_0 : List (Nat × Instr × Nat) := [(0, .aload_n 0, 1), (1, .iload_n 1, 1), (2, .invokevirtual 114, 3), (5, .ifCond .eq 11, 3), (8, .aload_n 0, 1), (9, .iload_n 1, 1), (10, .invokevirtual 185, 3), (13, .goto 9, 3), (16, .aload_n 0, 1), (17, .bipush (-2), 2), (19, .invokevirtual 57, 3), (22, .ireturn, 1)]
theorem dtbX10_is_0 : ∀ q ∈ tbX10_is_0, decode cX10_is q.1 = .ok q.2 := by decide +kernel
def tbX10_look_0 : List (Nat × Instr × Nat) := [(0, .aload_n 0, 1), (1, .iload_n 1, 1), (2, .invokevirtual 114, 3), (5, .ifCond .ne 10, 3), (8, .aload_n 0, 1), (9, .bipush (-2), 2), (11, .invokevirtual 57, 3), (14, .ireturn, 1), (15, .aload_n 0, 1), (16, .iload_n 1, 1), (17, .invokevirtual 185, 3), (20, .istore_n 2, 1), (21, .iload_n 2, 1), (22, .ifCond .ne 5, 3), (25, .iconst (-1), 1), (26, .ireturn, 1), (27, .iconst 0, 1), (28, .istore_n 3, 1), (29, .bipush 7, 2), (31, .istore 4, 2), (33, .iconst 0, 1), (34, .istore 5, 2), (36, .iload 5, 2), (38, .bipush 12, 2), (40, .if_icmp .gt 33, 3), (43, .aload_n 0, 1), (44, .iload_n 2, 1), (45, .iload_n 1, 1), (46, .iload 5, 2), (48, .invokevirtual 188, 3), (51, .istore 6, 2), (53, .iload 6, 2), (55, .iload 4, 2), (57, .if_icmp .ge 10, 3), (60, .iload 6, 2), (62, .istore 4, 2), (64, .iload 5, 2), (66, .istore_n 3, 1), (67, .iinc 5 1, 3), (70, .goto (-34), 3), (73, .iload_n 3, 1), (74, .ireturn, 1)]
theorem dtbX10_look_0 : ∀ q ∈ tbX10_look_0, decode cX10_look q.1 = .ok q.2 := by decide +kernel
def tbX10_two_0 : List (Nat × Instr × Nat) := [(0, .iload_n 1, 1), (1, .iconst 1, 1), (2, .bipush 28, 2), (4, .invokestatic 53, 3), (7, .ifCond .eq 8, 3), (10, .iload_n 2, 1), (11, .iconst (-1), 1), (12, .if_icmp .ge 10, 3), (15, .aload_n 0, 1), (16, .bipush (-10), 2), (18, .invokevirtual 57, 3), (21, .ireturn, 1), (22, .aload_n 0, 1), (23, .iload_n 1, 1), (24, .invokevirtual 192, 3), (27, .iconst 0, 1), (28, .istore_n 3, 1), (29, .iconst 0, 1), (30, .istore 4, 2), (32, .iload 4, 2), (34, .bipush 16, 2), (36, .if_icmp .ge 54, 3), (39, .iload 4, 2), (41, .iconst 4, 1), (42, .idiv, 1), (43, .istore 5, 2), (45, .iload 4, 2), (47, .iconst 4, 1), (48, .irem, 1), (49, .istore 6, 2), (51, .aload_n 0, 1), (52, .iload 5, 2), (54, .iload 6, 2), (56, .invokevirtual 195, 3), (59, .ifCond .eq 25, 3), (62, .aload_n 0, 1), (63, .iload 6, 2), (65, .iload 5, 2), (67, .invokevirtual 195, 3), (70, .ifCond .eq 14, 3), (73, .iload_n 3, 1), (74, .iload_n 2, 1), (75, .if_icmp .ne 6, 3), (78, .iload 4, 2), (80, .ireturn, 1), (81, .iinc 3 1, 3), (84, .iinc 4 1, 3), (87, .goto (-55), 3), (90, .iload_n 2, 1), (91, .iconst (-1), 1), (92, .if_icmp .ne 7, 3), (95, .iload_n 3, 1), (96, .goto 5, 3), (99, .bipush (-5), 2), (101, .ireturn, 1)]
theorem dtbX10_two_0 : ∀ q ∈ tbX10_two_0, decode cX10_two q.1 = .ok q.2 := by decide +kernel
def tbX10_boiler_0 : List (Nat × Instr × Nat) := [(0, .iload_n 1, 1), (1, .iconst 0, 1), (2, .sipush 999, 3), (5, .invokestatic 53, 3), (8, .ifCond .eq 23, 3), (11, .iload_n 2, 1), (12, .iconst 0, 1), (13, .bipush 99, 2), (15, .invokestatic 53, 3), (18, .ifCond .eq 13, 3), (21, .iload_n 3, 1), (22, .iconst 0, 1), (23, .bipush 10, 2), (25, .invokestatic 53, 3), (28, .ifCond .ne 10, 3), (31, .aload_n 0, 1), (32, .bipush (-2), 2), (34, .invokevirtual 57, 3), (37, .ireturn, 1), (38, .aload_n 0, 1), (39, .iload_n 2, 1), (40, .invokevirtual 143, 3), (43, .aload_n 0, 1), (44, .getfield 36, 3), (47, .getfield 149, 3), (50, .istore 4, 2), (52, .aload_n 0, 1), (53, .getfield 36, 3), (56, .aload_n 0, 1), (57, .getfield 10, 3), (60, .getfield 99, 3), (63, .iconst 0, 1), (64, .iaload, 1), (65, .iload_n 1, 1), (66, .isub, 1), (67, .aload_n 0, 1), (68, .getfield 10, 3), (71, .getfield 99, 3), (74, .iconst 5, 1), (75, .iaload, 1), (76, .invokevirtual 199, 3), (79, .aload_n 0, 1), (80, .getfield 36, 3), (83, .getfield 149, 3), (86, .istore 5, 2), (88, .aload_n 0, 1), (89, .iload_n 3, 1), (90, .iload 5, 2), (92, .imul, 1), (93, .bipush 10, 2), (95, .iload_n 3, 1), (96, .isub, 1), (97, .iload 4, 2), (99, .imul, 1), (100, .iadd, 1), (101, .invokevirtual 203, 3), (104, .iconst 1, 1), (105, .ireturn, 1)]
theorem dtbX10_boiler_0 : ∀ q ∈ tbX10_boiler_0, decode cX10_boiler q.1 = .ok q.2 := by decide +kernel
def tbX10_years_0 : List (Nat × Instr × Nat) := [(0, .iload_n 1, 1), (1, .iconst 0, 1), (2, .ldc 206, 2), (4, .invokestatic 53, 3), (7, .ifCond .eq 13, 3), (10, .iload_n 2, 1), (11, .iconst 0, 1), (12, .bipush 60, 2), (14, .invokestatic 53, 3), (17, .ifCond .ne 10, 3), (20, .aload_n 0, 1), (21, .ldc 142, 2), (23, .invokevirtual 57, 3), (26, .ireturn, 1), (27, .aload_n 0, 1), (28, .getfield 36, 3), (31, .aload_n 0, 1), (32, .getfield 10, 3), (35, .iload_n 2, 1), (36, .invokevirtual 161, 3), (39, .iload_n 1, 1), (40, .i2l, 1), (41, .lstore_n 3, 1), (42, .iconst 0, 1), (43, .istore 5, 2), (45, .iload 5, 2), (47, .iload_n 2, 1), (48, .if_icmp .ge 42, 3), (51, .lload_n 3, 1), (52, .ldc2_w 207, 3), (55, .lmul, 1), (56, .ldc2_w 209, 3), (59, .ladd, 1), (60, .ldc2_w 211, 3), (63, .lrem, 1), (64, .lstore_n 3, 1), (65, .aload_n 0, 1), (66, .getfield 36, 3), (69, .iload 5, 2), (71, .lload_n 3, 1), (72, .ldc2_w 213, 3), (75, .ldiv, 1), (76, .ldc2_w 215, 3), (79, .lrem, 1), (80, .l2i, 1), (81, .invokevirtual 217, 3), (84, .iinc 5 1, 3), (87, .goto (-42), 3), (90, .aload_n 0, 1), (91, .getfield 36, 3), (94, .aload_n 0, 1), (95, .getfield 10, 3), (98, .getfield 99, 3), (101, .iconst 0, 1), (102, .iaload, 1), (103, .iconst 0, 1), (104, .invokevirtual 199, 3), (107, .aload_n 0, 1), (108, .getfield 36, 3), (111, .getfield 146, 3)]
theorem dtbX10_years_0 : ∀ q ∈ tbX10_years_0, decode cX10_years q.1 = .ok q.2 := by decide +kernel
def tbX10_years_1 : List (Nat × Instr × Nat) := [(114, .ireturn, 1)]
theorem dtbX10_years_1 : ∀ q ∈ tbX10_years_1, decode cX10_years q.1 = .ok q.2 := by decide +kernel
def tbX10_part_0 : List (Nat × Instr × Nat) := [(0, .iload_n 1, 1), (1, .iconst 0, 1), (2, .iconst 1, 1), (3, .invokestatic 53, 3), (6, .ifCond .ne 11, 3), (9, .aload_n 0, 1), (10, .bipush (-2), 2), (12, .invokevirtual 57, 3), (15, .i2l, 1), (16, .lreturn, 1), (17, .iload_n 1, 1), (18, .ifCond .ne 10, 3), (21, .aload_n 0, 1), (22, .getfield 220, 3), (25, .goto 7, 3), (28, .aload_n 0, 1), (29, .getfield 49, 3), (32, .lreturn, 1)]
theorem dtbX10_part_0 : ∀ q ∈ tbX10_part_0, decode cX10_part q.1 = .ok q.2 := by decide +kernel
def tbX10_image_0 : List (Nat × Instr × Nat) := [(0, .iload_n 1, 1), (1, .iconst 0, 1), (2, .iconst 1, 1), (3, .invokestatic 53, 3), (6, .ifCond .ne 10, 3), (9, .aload_n 0, 1), (10, .bipush (-2), 2), (12, .invokevirtual 57, 3), (15, .ireturn, 1), (16, .aload_n 0, 1), (17, .iload_n 1, 1), (18, .invokevirtual 223, 3), (21, .aload_n 0, 1), (22, .getfield 10, 3), (25, .invokevirtual 92, 3), (28, .aload_n 0, 1), (29, .getfield 22, 3), (32, .iload_n 1, 1), (33, .iconst 1, 1), (34, .bastore, 1), (35, .iconst 1, 1), (36, .ireturn, 1)]
theorem dtbX10_image_0 : ∀ q ∈ tbX10_image_0, decode cX10_image q.1 = .ok q.2 := by decide +kernel
def tbX10_from_0 : List (Nat × Instr × Nat) := [(0, .iload_n 1, 1), (1, .iconst 0, 1), (2, .iconst 1, 1), (3, .invokestatic 53, 3), (6, .ifCond .ne 10, 3), (9, .aload_n 0, 1), (10, .bipush (-2), 2), (12, .invokevirtual 57, 3), (15, .ireturn, 1), (16, .aload_n 0, 1), (17, .getfield 22, 3), (20, .iload_n 1, 1), (21, .baload, 1), (22, .ifCond .ne 8, 3), (25, .aload_n 0, 1), (26, .invokevirtual 105, 3), (29, .ireturn, 1), (30, .aload_n 0, 1), (31, .getfield 10, 3), (34, .aload_n 0, 1), (35, .iload_n 1, 1), (36, .invokevirtual 223, 3), (39, .invokevirtual 92, 3), (42, .iconst 1, 1), (43, .ireturn, 1)]
theorem dtbX10_from_0 : ∀ q ∈ tbX10_from_0, decode cX10_from q.1 = .ok q.2 := by decide +kernel
def tbX10_status_0 : List (Nat × Instr × Nat) := [(0, .iload_n 1, 1), (1, .tableswitch 42 0 2 #[27, 32, 37], 27), (28, .aload_n 0, 1), (29, .getfield 227, 3), (32, .ireturn, 1), (33, .aload_n 0, 1), (34, .getfield 230, 3), (37, .ireturn, 1), (38, .aload_n 0, 1), (39, .getfield 233, 3), (42, .ireturn, 1), (43, .aload_n 0, 1), (44, .iconst (-1), 1), (45, .invokevirtual 57, 3), (48, .ireturn, 1)]
theorem dtbX10_status_0 : ∀ q ∈ tbX10_status_0, decode cX10_status q.1 = .ok q.2 := by decide +kernel
def tbX10_count_0 : List (Nat × Instr × Nat) := [(0, .iload_n 1, 1), (1, .tableswitch 63 0 3 #[31, 39, 47, 55], 31), (32, .aload_n 0, 1), (33, .getfield 10, 3), (36, .getfield 61, 3), (39, .ireturn, 1), (40, .aload_n 0, 1), (41, .getfield 10, 3), (44, .getfield 178, 3), (47, .ireturn, 1), (48, .aload_n 0, 1), (49, .getfield 10, 3), (52, .getfield 108, 3), (55, .ireturn, 1), (56, .aload_n 0, 1), (57, .getfield 29, 3), (60, .getfield 80, 3), (63, .ireturn, 1), (64, .aload_n 0, 1), (65, .bipush (-2), 2), (67, .invokevirtual 57, 3), (70, .ireturn, 1)]
theorem dtbX10_count_0 : ∀ q ∈ tbX10_count_0, decode cX10_count q.1 = .ok q.2 := by decide +kernel
def tbX10_digest_0 : List (Nat × Instr × Nat) := [(0, .ldc2_w 236, 3), (3, .lstore_n 1, 1), (4, .ldc2_w 215, 3), (7, .lload_n 1, 1), (8, .lmul, 1), (9, .aload_n 0, 1), (10, .getfield 10, 3), (13, .getfield 61, 3), (16, .i2l, 1), (17, .ladd, 1), (18, .lstore_n 1, 1), (19, .ldc2_w 215, 3), (22, .lload_n 1, 1), (23, .lmul, 1), (24, .aload_n 0, 1), (25, .getfield 10, 3), (28, .getfield 178, 3), (31, .i2l, 1), (32, .ladd, 1), (33, .lstore_n 1, 1), (34, .ldc2_w 215, 3), (37, .lload_n 1, 1), (38, .lmul, 1), (39, .aload_n 0, 1), (40, .getfield 10, 3), (43, .getfield 108, 3), (46, .i2l, 1), (47, .ladd, 1), (48, .lstore_n 1, 1), (49, .ldc2_w 215, 3), (52, .lload_n 1, 1), (53, .lmul, 1), (54, .aload_n 0, 1), (55, .getfield 29, 3), (58, .getfield 80, 3), (61, .i2l, 1), (62, .ladd, 1), (63, .lstore_n 1, 1), (64, .lload_n 1, 1), (65, .aload_n 0, 1), (66, .getfield 10, 3), (69, .getfield 99, 3), (72, .bipush 6, 2), (74, .invokestatic 238, 3), (77, .lstore_n 1, 1), (78, .lload_n 1, 1), (79, .aload_n 0, 1), (80, .getfield 10, 3), (83, .getfield 242, 3), (86, .aload_n 0, 1), (87, .getfield 10, 3), (90, .getfield 61, 3), (93, .iconst 3, 1), (94, .imul, 1), (95, .invokestatic 238, 3), (98, .lstore_n 1, 1), (99, .lload_n 1, 1), (100, .aload_n 0, 1), (101, .getfield 10, 3), (104, .getfield 245, 3)]
theorem dtbX10_digest_0 : ∀ q ∈ tbX10_digest_0, decode cX10_digest q.1 = .ok q.2 := by decide +kernel
def tbX10_digest_1 : List (Nat × Instr × Nat) := [(107, .aload_n 0, 1), (108, .getfield 10, 3), (111, .getfield 178, 3), (114, .iconst 5, 1), (115, .imul, 1), (116, .invokestatic 238, 3), (119, .lstore_n 1, 1), (120, .ldc2_w 215, 3), (123, .lload_n 1, 1), (124, .lmul, 1), (125, .aload_n 0, 1), (126, .getfield 220, 3), (129, .ladd, 1), (130, .lstore_n 1, 1), (131, .ldc2_w 215, 3), (134, .lload_n 1, 1), (135, .lmul, 1), (136, .aload_n 0, 1), (137, .getfield 49, 3), (140, .ladd, 1), (141, .lreturn, 1)]
theorem dtbX10_digest_1 : ∀ q ∈ tbX10_digest_1, decode cX10_digest q.1 = .ok q.2 := by decide +kernel
def tbX10_digestOf_0 : List (Nat × Instr × Nat) := [(0, .lload_n 0, 1), (1, .lstore 4, 2), (3, .iconst 0, 1), (4, .istore 6, 2), (6, .iload 6, 2), (8, .iload_n 3, 1), (9, .if_icmp .ge 30, 3), (12, .iload 6, 2), (14, .aload_n 2, 1), (15, .arraylength, 1), (16, .if_icmp .ge 23, 3), (19, .ldc2_w 215, 3), (22, .lload 4, 2), (24, .lmul, 1), (25, .aload_n 2, 1), (26, .iload 6, 2), (28, .iaload, 1), (29, .i2l, 1), (30, .ladd, 1), (31, .lstore 4, 2), (33, .iinc 6 1, 3), (36, .goto (-30), 3), (39, .lload 4, 2), (41, .lreturn, 1)]
theorem dtbX10_digestOf_0 : ∀ q ∈ tbX10_digestOf_0, decode cX10_digestOf q.1 = .ok q.2 := by decide +kernel
def tbX10_within_0 : List (Nat × Instr × Nat) := [(0, .iload_n 0, 1), (1, .iload_n 1, 1), (2, .if_icmp .lt 12, 3), (5, .iload_n 0, 1), (6, .iload_n 2, 1), (7, .if_icmp .gt 7, 3), (10, .iconst 1, 1), (11, .goto 4, 3), (14, .iconst 0, 1), (15, .ireturn, 1)]
theorem dtbX10_within_0 : ∀ q ∈ tbX10_within_0, decode cX10_within q.1 = .ok q.2 := by decide +kernel
def tbX10_isBill_0 : List (Nat × Instr × Nat) := [(0, .iload_n 0, 1), (1, .iconst 0, 1), (2, .iconst 5, 1), (3, .invokestatic 53, 3), (6, .ifCond .eq 27, 3), (9, .iload_n 1, 1), (10, .iconst 1, 1), (11, .bipush 28, 2), (13, .invokestatic 53, 3), (16, .ifCond .eq 17, 3), (19, .iload_n 2, 1), (20, .iconst 1, 1), (21, .bipush 99, 2), (23, .invokestatic 53, 3), (26, .ifCond .eq 7, 3), (29, .iconst 1, 1), (30, .goto 4, 3), (33, .iconst 0, 1), (34, .ireturn, 1)]
theorem dtbX10_isBill_0 : ∀ q ∈ tbX10_isBill_0, decode cX10_isBill q.1 = .ok q.2 := by decide +kernel
def tbX10_isBillNumber_0 : List (Nat × Instr × Nat) := [(0, .iload_n 1, 1), (1, .ifCond .lt 18, 3), (4, .iload_n 1, 1), (5, .aload_n 0, 1), (6, .getfield 10, 3), (9, .getfield 61, 3), (12, .if_icmp .ge 7, 3), (15, .iconst 1, 1), (16, .goto 4, 3), (19, .iconst 0, 1), (20, .ireturn, 1)]
theorem dtbX10_isBillNumber_0 : ∀ q ∈ tbX10_isBillNumber_0, decode cX10_isBillNumber q.1 = .ok q.2 := by decide +kernel
def tbX10_refuseBad_0 : List (Nat × Instr × Nat) := [(0, .aload_n 0, 1), (1, .dup, 1), (2, .getfield 227, 3), (5, .iconst 1, 1), (6, .iadd, 1), (7, .putfield 227, 3), (10, .iload_n 1, 1), (11, .ireturn, 1)]
theorem dtbX10_refuseBad_0 : ∀ q ∈ tbX10_refuseBad_0, decode cX10_refuseBad q.1 = .ok q.2 := by decide +kernel
def tbX10_refuseNo_0 : List (Nat × Instr × Nat) := [(0, .aload_n 0, 1), (1, .dup, 1), (2, .getfield 230, 3), (5, .iconst 1, 1), (6, .iadd, 1), (7, .putfield 230, 3), (10, .bipush (-3), 2), (12, .ireturn, 1)]
theorem dtbX10_refuseNo_0 : ∀ q ∈ tbX10_refuseNo_0, decode cX10_refuseNo q.1 = .ok q.2 := by decide +kernel
def tbX10_refuseFull_0 : List (Nat × Instr × Nat) := [(0, .aload_n 0, 1), (1, .dup, 1), (2, .getfield 233, 3), (5, .iconst 1, 1), (6, .iadd, 1), (7, .putfield 233, 3), (10, .bipush (-4), 2), (12, .ireturn, 1)]
theorem dtbX10_refuseFull_0 : ∀ q ∈ tbX10_refuseFull_0, decode cX10_refuseFull q.1 = .ok q.2 := by decide +kernel
def tbX10_imageAt_0 : List (Nat × Instr × Nat) := [(0, .iload_n 1, 1), (1, .ifCond .ne 10, 3), (4, .aload_n 0, 1), (5, .getfield 16, 3), (8, .goto 7, 3), (11, .aload_n 0, 1), (12, .getfield 19, 3), (15, .areturn, 1)]
theorem dtbX10_imageAt_0 : ∀ q ∈ tbX10_imageAt_0, decode cX10_imageAt q.1 = .ok q.2 := by decide +kernel
def tbX10_passDay_0 : List (Nat × Instr × Nat) := [(0, .aload_n 0, 1), (1, .getfield 10, 3), (4, .getfield 99, 3), (7, .astore_n 1, 1), (8, .aload_n 1, 1), (9, .iconst 0, 1), (10, .dup2, 1), (11, .iaload, 1), (12, .aload_n 0, 1), (13, .invokevirtual 248, 3), (16, .aload_n 1, 1), (17, .iconst 5, 1), (18, .iaload, 1), (19, .iadd, 1), (20, .isub, 1), (21, .iastore, 1), (22, .aload_n 1, 1), (23, .iconst 0, 1), (24, .iaload, 1), (25, .ifCond .ge 17, 3), (28, .aload_n 1, 1), (29, .iconst 0, 1), (30, .dup2, 1), (31, .iaload, 1), (32, .iconst 1, 1), (33, .isub, 1), (34, .iastore, 1), (35, .aload_n 1, 1), (36, .iconst 2, 1), (37, .dup2, 1), (38, .iaload, 1), (39, .iconst 1, 1), (40, .iadd, 1), (41, .iastore, 1), (42, .aload_n 1, 1), (43, .iconst 3, 1), (44, .iaload, 1), (45, .bipush 28, 2), (47, .if_icmp .ge 13, 3), (50, .aload_n 1, 1), (51, .iconst 3, 1), (52, .dup2, 1), (53, .iaload, 1), (54, .iconst 1, 1), (55, .iadd, 1), (56, .iastore, 1), (57, .goto 23, 3), (60, .aload_n 1, 1), (61, .iconst 4, 1), (62, .iaload, 1), (63, .sipush 999, 3), (66, .if_icmp .ge 14, 3), (69, .aload_n 1, 1), (70, .iconst 3, 1), (71, .iconst 1, 1), (72, .iastore, 1), (73, .aload_n 1, 1), (74, .iconst 4, 1), (75, .dup2, 1), (76, .iaload, 1)]
theorem dtbX10_passDay_0 : ∀ q ∈ tbX10_passDay_0, decode cX10_passDay q.1 = .ok q.2 := by decide +kernel
def tbX10_passDay_1 : List (Nat × Instr × Nat) := [(77, .iconst 1, 1), (78, .iadd, 1), (79, .iastore, 1), (80, .return_, 1)]
theorem dtbX10_passDay_1 : ∀ q ∈ tbX10_passDay_1, decode cX10_passDay q.1 = .ok q.2 := by decide +kernel
def tbX10_drawnToday_0 : List (Nat × Instr × Nat) := [(0, .iconst 0, 1), (1, .istore_n 1, 1), (2, .iconst 0, 1), (3, .istore_n 2, 1), (4, .iload_n 2, 1), (5, .aload_n 0, 1), (6, .getfield 10, 3), (9, .getfield 61, 3), (12, .if_icmp .ge 73, 3), (15, .aload_n 0, 1), (16, .getfield 44, 3), (19, .aload_n 0, 1), (20, .getfield 10, 3), (23, .iload_n 2, 1), (24, .invokevirtual 118, 3), (27, .invokevirtual 121, 3), (30, .astore_n 3, 1), (31, .aload_n 3, 1), (32, .aload_n 0, 1), (33, .getfield 10, 3), (36, .iload_n 2, 1), (37, .invokevirtual 127, 3), (40, .invokevirtual 133, 3), (43, .aload_n 0, 1), (44, .getfield 10, 3), (47, .getfield 99, 3), (50, .iconst 3, 1), (51, .iaload, 1), (52, .if_icmp .ne 27, 3), (55, .iload_n 1, 1), (56, .aload_n 3, 1), (57, .aload_n 0, 1), (58, .getfield 10, 3), (61, .getfield 99, 3), (64, .iconst 4, 1), (65, .iaload, 1), (66, .aload_n 0, 1), (67, .getfield 10, 3), (70, .iload_n 2, 1), (71, .invokevirtual 130, 3), (74, .invokevirtual 138, 3), (77, .iadd, 1), (78, .istore_n 1, 1), (79, .iinc 2 1, 3), (82, .goto (-78), 3), (85, .iload_n 1, 1), (86, .ireturn, 1)]
theorem dtbX10_drawnToday_0 : ∀ q ∈ tbX10_drawnToday_0, decode cX10_drawnToday q.1 = .ok q.2 := by decide +kernel
def tbX10_foresee_0 : List (Nat × Instr × Nat) := [(0, .aload_n 0, 1), (1, .getfield 36, 3), (4, .aload_n 0, 1), (5, .getfield 10, 3), (8, .iload_n 1, 1), (9, .invokevirtual 161, 3), (12, .aload_n 0, 1), (13, .getfield 36, 3), (16, .aload_n 0, 1), (17, .getfield 10, 3), (20, .getfield 99, 3), (23, .iconst 0, 1), (24, .iaload, 1), (25, .aload_n 0, 1), (26, .getfield 10, 3), (29, .getfield 99, 3), (32, .iconst 5, 1), (33, .iaload, 1), (34, .invokevirtual 199, 3), (37, .return_, 1)]
theorem dtbX10_foresee_0 : ∀ q ∈ tbX10_foresee_0, decode cX10_foresee q.1 = .ok q.2 := by decide +kernel
def tbX10_chargesAsLaid_0 : List (Nat × Instr × Nat) := [(0, .aload_n 0, 1), (1, .getfield 36, 3), (4, .aload_n 0, 1), (5, .getfield 10, 3), (8, .getfield 99, 3), (11, .iconst 0, 1), (12, .iaload, 1), (13, .aload_n 0, 1), (14, .getfield 10, 3), (17, .getfield 99, 3), (20, .iconst 5, 1), (21, .iaload, 1), (22, .invokevirtual 199, 3), (25, .aload_n 0, 1), (26, .getfield 36, 3), (29, .getfield 149, 3), (32, .ireturn, 1)]
theorem dtbX10_chargesAsLaid_0 : ∀ q ∈ tbX10_chargesAsLaid_0, decode cX10_chargesAsLaid q.1 = .ok q.2 := by decide +kernel
def tbX10_kindsThatFit_0 : List (Nat × Instr × Nat) := [(0, .iconst 0, 1), (1, .istore_n 2, 1), (2, .iconst 0, 1), (3, .istore_n 3, 1), (4, .iload_n 3, 1), (5, .bipush 6, 2), (7, .if_icmp .ge 31, 3), (10, .aload_n 0, 1), (11, .aload_n 0, 1), (12, .getfield 44, 3), (15, .iload_n 3, 1), (16, .invokevirtual 121, 3), (19, .iload_n 1, 1), (20, .invokevirtual 251, 3), (23, .ifCond .eq 9, 3), (26, .iload_n 2, 1), (27, .iconst 1, 1), (28, .iload_n 3, 1), (29, .ishl, 1), (30, .ior, 1), (31, .istore_n 2, 1), (32, .iinc 3 1, 3), (35, .goto (-31), 3), (38, .iload_n 2, 1), (39, .ireturn, 1)]
theorem dtbX10_kindsThatFit_0 : ∀ q ∈ tbX10_kindsThatFit_0, decode cX10_kindsThatFit q.1 = .ok q.2 := by decide +kernel
def tbX10_fitsNotes_0 : List (Nat × Instr × Nat) := [(0, .iconst 0, 1), (1, .istore_n 3, 1), (2, .iload_n 3, 1), (3, .aload_n 0, 1), (4, .getfield 10, 3), (7, .getfield 178, 3), (10, .if_icmp .ge 41, 3), (13, .aload_n 0, 1), (14, .getfield 10, 3), (17, .iload_n 3, 1), (18, .iconst 0, 1), (19, .invokevirtual 255, 3), (22, .iload_n 2, 1), (23, .if_icmp .ne 22, 3), (26, .aload_n 0, 1), (27, .aload_n 1, 1), (28, .iload_n 3, 1), (29, .aload_n 0, 1), (30, .getfield 10, 3), (33, .iload_n 2, 1), (34, .invokevirtual 130, 3), (37, .invokevirtual 258, 3), (40, .ifCond .ne 5, 3), (43, .iconst 0, 1), (44, .ireturn, 1), (45, .iinc 3 1, 3), (48, .goto (-46), 3), (51, .iconst 1, 1), (52, .ireturn, 1)]
theorem dtbX10_fitsNotes_0 : ∀ q ∈ tbX10_fitsNotes_0, decode cX10_fitsNotes q.1 = .ok q.2 := by decide +kernel
def tbX10_fitsNote_0 : List (Nat × Instr × Nat) := [(0, .aload_n 1, 1), (1, .aload_n 0, 1), (2, .getfield 10, 3), (5, .iload_n 2, 1), (6, .iconst 1, 1), (7, .invokevirtual 255, 3), (10, .invokevirtual 133, 3), (13, .aload_n 0, 1), (14, .getfield 10, 3), (17, .iload_n 2, 1), (18, .iconst 2, 1), (19, .invokevirtual 255, 3), (22, .if_icmp .ne 33, 3), (25, .aload_n 1, 1), (26, .aload_n 0, 1), (27, .getfield 10, 3), (30, .iload_n 2, 1), (31, .iconst 3, 1), (32, .invokevirtual 255, 3), (35, .iload_n 3, 1), (36, .invokevirtual 138, 3), (39, .aload_n 0, 1), (40, .getfield 10, 3), (43, .iload_n 2, 1), (44, .iconst 4, 1), (45, .invokevirtual 255, 3), (48, .if_icmp .ne 7, 3), (51, .iconst 1, 1), (52, .goto 4, 3), (55, .iconst 0, 1), (56, .ireturn, 1)]
theorem dtbX10_fitsNote_0 : ∀ q ∈ tbX10_fitsNote_0, decode cX10_fitsNote q.1 = .ok q.2 := by decide +kernel
def tbX10_mostAlike_0 : List (Nat × Instr × Nat) := [(0, .iconst 0, 1), (1, .istore 4, 2), (3, .iconst 0, 1), (4, .istore 5, 2), (6, .iload 5, 2), (8, .bipush 6, 2), (10, .if_icmp .ge 41, 3), (13, .iload_n 1, 1), (14, .iload 5, 2), (16, .invokestatic 262, 3), (19, .ifCond .eq 26, 3), (22, .iload 4, 2), (24, .aload_n 0, 1), (25, .aload_n 0, 1), (26, .getfield 44, 3), (29, .iload 5, 2), (31, .invokevirtual 121, 3), (34, .iload_n 1, 1), (35, .iload_n 2, 1), (36, .iload_n 3, 1), (37, .invokevirtual 265, 3), (40, .invokestatic 269, 3), (43, .istore 4, 2), (45, .iinc 5 1, 3), (48, .goto (-42), 3), (51, .iload 4, 2), (53, .ireturn, 1)]
theorem dtbX10_mostAlike_0 : ∀ q ∈ tbX10_mostAlike_0, decode cX10_mostAlike q.1 = .ok q.2 := by decide +kernel
def tbX10_alikeTo_0 : List (Nat × Instr × Nat) := [(0, .aload_n 0, 1), (1, .getfield 10, 3), (4, .iload_n 3, 1), (5, .invokevirtual 127, 3), (8, .istore 5, 2), (10, .aload_n 0, 1), (11, .getfield 10, 3), (14, .iload_n 3, 1), (15, .invokevirtual 130, 3), (18, .istore 6, 2), (20, .iconst 0, 1), (21, .istore 7, 2), (23, .iconst 0, 1), (24, .istore 8, 2), (26, .iload 8, 2), (28, .bipush 6, 2), (30, .if_icmp .ge 68, 3), (33, .aload_n 0, 1), (34, .getfield 44, 3), (37, .iload 8, 2), (39, .invokevirtual 121, 3), (42, .astore 9, 2), (44, .iload_n 2, 1), (45, .iload 8, 2), (47, .invokestatic 262, 3), (50, .ifCond .eq 42, 3), (53, .aload 9, 2), (55, .iload 5, 2), (57, .invokevirtual 133, 3), (60, .aload_n 1, 1), (61, .iload 5, 2), (63, .invokevirtual 133, 3), (66, .if_icmp .ne 26, 3), (69, .aload 9, 2), (71, .iload 4, 2), (73, .iload 6, 2), (75, .invokevirtual 138, 3), (78, .aload_n 1, 1), (79, .iload 4, 2), (81, .iload 6, 2), (83, .invokevirtual 138, 3), (86, .if_icmp .ne 6, 3), (89, .iinc 7 1, 3), (92, .iinc 8 1, 3), (95, .goto (-69), 3), (98, .iload 7, 2), (100, .ireturn, 1)]
theorem dtbX10_alikeTo_0 : ∀ q ∈ tbX10_alikeTo_0, decode cX10_alikeTo q.1 = .ok q.2 := by decide +kernel
def tbX10_hasBit_0 : List (Nat × Instr × Nat) := [(0, .iload_n 0, 1), (1, .iload_n 1, 1), (2, .ishr, 1), (3, .iconst 1, 1), (4, .iand, 1), (5, .iconst 1, 1), (6, .if_icmp .ne 7, 3), (9, .iconst 1, 1), (10, .goto 4, 3), (13, .iconst 0, 1), (14, .ireturn, 1)]
theorem dtbX10_hasBit_0 : ∀ q ∈ tbX10_hasBit_0, decode cX10_hasBit q.1 = .ok q.2 := by decide +kernel
def tbX10_layChargesByExtra_0 : List (Nat × Instr × Nat) := [(0, .aload_n 0, 1), (1, .getfield 36, 3), (4, .aload_n 0, 1), (5, .getfield 10, 3), (8, .iload_n 1, 1), (9, .invokevirtual 161, 3), (12, .iconst 0, 1), (13, .istore_n 2, 1), (14, .iload_n 2, 1), (15, .aload_n 0, 1), (16, .getfield 45, 3), (19, .arraylength, 1), (20, .if_icmp .ge 49, 3), (23, .aload_n 0, 1), (24, .getfield 36, 3), (27, .aload_n 0, 1), (28, .getfield 10, 3), (31, .getfield 99, 3), (34, .iconst 0, 1), (35, .iaload, 1), (36, .aload_n 0, 1), (37, .getfield 10, 3), (40, .getfield 99, 3), (43, .iconst 5, 1), (44, .iaload, 1), (45, .iload_n 2, 1), (46, .iadd, 1), (47, .invokevirtual 199, 3), (50, .aload_n 0, 1), (51, .getfield 45, 3), (54, .iload_n 2, 1), (55, .aload_n 0, 1), (56, .getfield 36, 3), (59, .getfield 149, 3), (62, .iastore, 1), (63, .iinc 2 1, 3), (66, .goto (-52), 3), (69, .return_, 1)]
theorem dtbX10_layChargesByExtra_0 : ∀ q ∈ tbX10_layChargesByExtra_0, decode cX10_layChargesByExtra q.1 = .ok q.2 := by decide +kernel
def tbX10_isBestAgainst_0 : List (Nat × Instr × Nat) := [(0, .aload_n 0, 1), (1, .iload_n 1, 1), (2, .iload_n 2, 1), (3, .invokevirtual 274, 3), (6, .istore_n 3, 1), (7, .iconst 0, 1), (8, .istore 4, 2), (10, .iload 4, 2), (12, .iconst 4, 1), (13, .if_icmp .ge 22, 3), (16, .aload_n 0, 1), (17, .iload 4, 2), (19, .iload_n 2, 1), (20, .invokevirtual 274, 3), (23, .iload_n 3, 1), (24, .if_icmp .le 5, 3), (27, .iconst 0, 1), (28, .ireturn, 1), (29, .iinc 4 1, 3), (32, .goto (-22), 3), (35, .iconst 1, 1), (36, .ireturn, 1)]
theorem dtbX10_isBestAgainst_0 : ∀ q ∈ tbX10_isBestAgainst_0, decode cX10_isBestAgainst q.1 = .ok q.2 := by decide +kernel
def tbX10_gainOf_0 : List (Nat × Instr × Nat) := [(0, .iload_n 1, 1), (1, .iload_n 2, 1), (2, .iadd, 1), (3, .istore_n 3, 1), (4, .iload_n 3, 1), (5, .iconst 0, 1), (6, .aload_n 0, 1), (7, .getfield 45, 3), (10, .arraylength, 1), (11, .iconst 1, 1), (12, .isub, 1), (13, .invokestatic 53, 3), (16, .ifCond .eq 16, 3), (19, .iconst 3, 1), (20, .iload_n 1, 1), (21, .imul, 1), (22, .aload_n 0, 1), (23, .getfield 45, 3), (26, .iload_n 3, 1), (27, .iaload, 1), (28, .isub, 1), (29, .goto 4, 3), (32, .iconst 0, 1), (33, .ireturn, 1)]
theorem dtbX10_gainOf_0 : ∀ q ∈ tbX10_gainOf_0, decode cX10_gainOf q.1 = .ok q.2 := by decide +kernel
end
section
def tbX10_setTenths_0 : List (Nat × Instr × Nat) := [(0, .iconst 1, 1), (1, .istore_n 2, 1), (2, .iconst 2, 1), (3, .istore_n 3, 1), (4, .iload_n 3, 1), (5, .bipush 10, 2), (7, .if_icmp .gt 24, 3), (10, .bipush 10, 2), (12, .iload_n 3, 1), (13, .irem, 1), (14, .ifCond .ne 11, 3), (17, .iload_n 1, 1), (18, .iload_n 3, 1), (19, .irem, 1), (20, .ifCond .ne 5, 3), (23, .iload_n 3, 1), (24, .istore_n 2, 1), (25, .iinc 3 1, 3), (28, .goto (-24), 3), (31, .aload_n 0, 1), (32, .iload_n 1, 1), (33, .iload_n 2, 1), (34, .idiv, 1), (35, .i2l, 1), (36, .putfield 220, 3), (39, .aload_n 0, 1), (40, .bipush 10, 2), (42, .iload_n 2, 1), (43, .idiv, 1), (44, .i2l, 1), (45, .putfield 49, 3), (48, .return_, 1)]
theorem dtbX10_setTenths_0 : ∀ q ∈ tbX10_setTenths_0, decode cX10_setTenths q.1 = .ok q.2 := by decide +kernel
def tbX11_init_0 : List (Nat × Instr × Nat) := [(0, .aload_n 0, 1), (1, .invokespecial 1, 3), (4, .aload_n 0, 1), (5, .bipush 108, 2), (7, .newarray .int, 2), (9, .putfield 7, 3), (12, .aload_n 0, 1), (13, .bipush 108, 2), (15, .newarray .int, 2), (17, .putfield 13, 3), (20, .aload_n 0, 1), (21, .bipush 108, 2), (23, .newarray .int, 2), (25, .putfield 16, 3), (28, .aload_n 0, 1), (29, .sipush 216, 3), (32, .newarray .int, 2), (34, .putfield 19, 3), (37, .aload_n 0, 1), (38, .iconst 2, 1), (39, .newarray .boolean, 2), (41, .putfield 22, 3), (44, .aload_n 0, 1), (45, .iconst 3, 1), (46, .newarray .int, 2), (48, .putfield 26, 3), (51, .aload_n 0, 1), (52, .lconst 1, 1), (53, .putfield 29, 3), (56, .aload_n 0, 1), (57, .sipush 150, 3), (60, .newarray .int, 2), (62, .putfield 33, 3), (65, .aload_n 0, 1), (66, .getfield 7, 3), (69, .invokestatic 36, 3), (72, .return_, 1)]
theorem dtbX11_init_0 : ∀ q ∈ tbX11_init_0, decode cX11_init q.1 = .ok q.2 := by decide +kernel
def tbX11_begin_0 : List (Nat × Instr × Nat) := [(0, .iconst 0, 1), (1, .istore_n 1, 1), (2, .iload_n 1, 1), (3, .bipush 108, 2), (5, .if_icmp .ge 13, 3), (8, .aload_n 0, 1), (9, .iload_n 1, 1), (10, .iconst 0, 1), (11, .iastore, 1), (12, .iinc 1 1, 3), (15, .goto (-13), 3), (18, .aload_n 0, 1), (19, .iconst 3, 1), (20, .iconst 1, 1), (21, .iastore, 1), (22, .return_, 1)]
theorem dtbX11_begin_0 : ∀ q ∈ tbX11_begin_0, decode cX11_begin q.1 = .ok q.2 := by decide +kernel
def tbX11_in_0 : List (Nat × Instr × Nat) := [(0, .iload_n 0, 1), (1, .iload_n 1, 1), (2, .if_icmp .lt 12, 3), (5, .iload_n 0, 1), (6, .iload_n 2, 1), (7, .if_icmp .gt 7, 3), (10, .iconst 1, 1), (11, .goto 4, 3), (14, .iconst 0, 1), (15, .ireturn, 1)]
theorem dtbX11_in_0 : ∀ q ∈ tbX11_in_0, decode cX11_in q.1 = .ok q.2 := by decide +kernel
def tbX11_bad_0 : List (Nat × Instr × Nat) := [(0, .aload_n 0, 1), (1, .getfield 26, 3), (4, .iconst 0, 1), (5, .dup2, 1), (6, .iaload, 1), (7, .iconst 1, 1), (8, .iadd, 1), (9, .iastore, 1), (10, .bipush (-2), 2), (12, .ireturn, 1)]
theorem dtbX11_bad_0 : ∀ q ∈ tbX11_bad_0, decode cX11_bad q.1 = .ok q.2 := by decide +kernel
def tbX11_badBy_0 : List (Nat × Instr × Nat) := [(0, .aload_n 0, 1), (1, .getfield 26, 3), (4, .iconst 0, 1), (5, .dup2, 1), (6, .iaload, 1), (7, .iconst 1, 1), (8, .iadd, 1), (9, .iastore, 1), (10, .iload_n 1, 1), (11, .ireturn, 1)]
theorem dtbX11_badBy_0 : ∀ q ∈ tbX11_badBy_0, decode cX11_badBy q.1 = .ok q.2 := by decide +kernel
def tbX11_no_0 : List (Nat × Instr × Nat) := [(0, .aload_n 0, 1), (1, .getfield 26, 3), (4, .iconst 1, 1), (5, .dup2, 1), (6, .iaload, 1), (7, .iconst 1, 1), (8, .iadd, 1), (9, .iastore, 1), (10, .bipush (-3), 2), (12, .ireturn, 1)]
theorem dtbX11_no_0 : ∀ q ∈ tbX11_no_0, decode cX11_no q.1 = .ok q.2 := by decide +kernel
def tbX11_full_0 : List (Nat × Instr × Nat) := [(0, .aload_n 0, 1), (1, .getfield 26, 3), (4, .iconst 2, 1), (5, .dup2, 1), (6, .iaload, 1), (7, .iconst 1, 1), (8, .iadd, 1), (9, .iastore, 1), (10, .bipush (-4), 2), (12, .ireturn, 1)]
theorem dtbX11_full_0 : ∀ q ∈ tbX11_full_0, decode cX11_full q.1 = .ok q.2 := by decide +kernel
def tbX11_isBill_0 : List (Nat × Instr × Nat) := [(0, .iload_n 1, 1), (1, .iconst 0, 1), (2, .aload_n 0, 1), (3, .getfield 7, 3), (6, .bipush 6, 2), (8, .iaload, 1), (9, .iconst 1, 1), (10, .isub, 1), (11, .invokestatic 40, 3), (14, .ireturn, 1)]
theorem dtbX11_isBill_0 : ∀ q ∈ tbX11_isBill_0, decode cX11_isBill q.1 = .ok q.2 := by decide +kernel
def tbX11_bring_0 : List (Nat × Instr × Nat) := [(0, .iconst 0, 1), (1, .istore 5, 2), (3, .iload 5, 2), (5, .iload 4, 2), (7, .if_icmp .ge 21, 3), (10, .aload_n 2, 1), (11, .iload_n 3, 1), (12, .iload 5, 2), (14, .iadd, 1), (15, .aload_n 0, 1), (16, .iload_n 1, 1), (17, .iload 5, 2), (19, .iadd, 1), (20, .iaload, 1), (21, .iastore, 1), (22, .iinc 5 1, 3), (25, .goto (-22), 3), (28, .return_, 1)]
theorem dtbX11_bring_0 : ∀ q ∈ tbX11_bring_0, decode cX11_bring q.1 = .ok q.2 := by decide +kernel
def tbX11_account_0 : List (Nat × Instr × Nat) := [(0, .iload_n 1, 1), (1, .iconst 0, 1), (2, .sipush 999, 3), (5, .invokestatic 40, 3), (8, .ifCond .ne 8, 3), (11, .aload_n 0, 1), (12, .invokevirtual 44, 3), (15, .ireturn, 1), (16, .aload_n 0, 1), (17, .getfield 7, 3), (20, .bipush 6, 2), (22, .iaload, 1), (23, .istore_n 2, 1), (24, .aload_n 0, 1), (25, .getfield 7, 3), (28, .invokestatic 36, 3), (31, .aload_n 0, 1), (32, .getfield 7, 3), (35, .iconst 0, 1), (36, .iload_n 1, 1), (37, .iastore, 1), (38, .iload_n 2, 1), (39, .ireturn, 1)]
theorem dtbX11_account_0 : ∀ q ∈ tbX11_account_0, decode cX11_account q.1 = .ok q.2 := by decide +kernel
def tbX11_addBill_0 : List (Nat × Instr × Nat) := [(0, .aload_n 0, 1), (1, .bipush 6, 2), (3, .iaload, 1), (4, .istore 4, 2), (6, .aload_n 0, 1), (7, .bipush 7, 2), (9, .iload 4, 2), (11, .iadd, 1), (12, .iload_n 1, 1), (13, .iastore, 1), (14, .aload_n 0, 1), (15, .bipush 14, 2), (17, .iload 4, 2), (19, .iadd, 1), (20, .iload_n 2, 1), (21, .iastore, 1), (22, .aload_n 0, 1), (23, .bipush 21, 2), (25, .iload 4, 2), (27, .iadd, 1), (28, .iload_n 3, 1), (29, .iastore, 1), (30, .aload_n 0, 1), (31, .bipush 6, 2), (33, .dup2, 1), (34, .iaload, 1), (35, .iconst 1, 1), (36, .iadd, 1), (37, .iastore, 1), (38, .iload 4, 2), (40, .ireturn, 1)]
theorem dtbX11_addBill_0 : ∀ q ∈ tbX11_addBill_0, decode cX11_addBill q.1 = .ok q.2 := by decide +kernel
def tbX11_bill_0 : List (Nat × Instr × Nat) := [(0, .iload_n 1, 1), (1, .iconst 0, 1), (2, .iconst 5, 1), (3, .invokestatic 40, 3), (6, .ifCond .eq 23, 3), (9, .iload_n 2, 1), (10, .iconst 1, 1), (11, .bipush 28, 2), (13, .invokestatic 40, 3), (16, .ifCond .eq 13, 3), (19, .iload_n 3, 1), (20, .iconst 1, 1), (21, .bipush 99, 2), (23, .invokestatic 40, 3), (26, .ifCond .ne 8, 3), (29, .aload_n 0, 1), (30, .invokevirtual 44, 3), (33, .ireturn, 1), (34, .aload_n 0, 1), (35, .getfield 7, 3), (38, .bipush 6, 2), (40, .iaload, 1), (41, .bipush 7, 2), (43, .if_icmp .ne 8, 3), (46, .aload_n 0, 1), (47, .invokevirtual 48, 3), (50, .ireturn, 1), (51, .aload_n 0, 1), (52, .getfield 7, 3), (55, .bipush 59, 2), (57, .iconst 0, 1), (58, .iastore, 1), (59, .aload_n 0, 1), (60, .getfield 7, 3), (63, .iload_n 1, 1), (64, .iload_n 2, 1), (65, .iload_n 3, 1), (66, .invokestatic 51, 3), (69, .ireturn, 1)]
theorem dtbX11_bill_0 : ∀ q ∈ tbX11_bill_0, decode cX11_bill q.1 = .ok q.2 := by decide +kernel
def tbX11_type_0 : List (Nat × Instr × Nat) := [(0, .iload_n 1, 1), (1, .iconst 0, 1), (2, .bipush 127, 2), (4, .invokestatic 40, 3), (7, .ifCond .ne 8, 3), (10, .aload_n 0, 1), (11, .invokevirtual 44, 3), (14, .ireturn, 1), (15, .aload_n 0, 1), (16, .getfield 55, 3), (19, .sipush 150, 3), (22, .if_icmp .ne 8, 3), (25, .aload_n 0, 1), (26, .invokevirtual 48, 3), (29, .ireturn, 1), (30, .aload_n 0, 1), (31, .getfield 33, 3), (34, .aload_n 0, 1), (35, .getfield 55, 3), (38, .iload_n 1, 1), (39, .iastore, 1), (40, .aload_n 0, 1), (41, .dup, 1), (42, .getfield 55, 3), (45, .iconst 1, 1), (46, .iadd, 1), (47, .putfield 55, 3), (50, .aload_n 0, 1), (51, .getfield 55, 3), (54, .ireturn, 1)]
theorem dtbX11_type_0 : ∀ q ∈ tbX11_type_0, decode cX11_type q.1 = .ok q.2 := by decide +kernel
def tbX11_clear_0 : List (Nat × Instr × Nat) := [(0, .aload_n 0, 1), (1, .getfield 55, 3), (4, .istore_n 1, 1), (5, .aload_n 0, 1), (6, .iconst 0, 1), (7, .putfield 55, 3), (10, .iload_n 1, 1), (11, .ireturn, 1)]
theorem dtbX11_clear_0 : ∀ q ∈ tbX11_clear_0, decode cX11_clear q.1 = .ok q.2 := by decide +kernel
def tbX11_kindAt_0 : List (Nat × Instr × Nat) := [(0, .iload_n 1, 1), (1, .aload_n 0, 1), (2, .getfield 55, 3), (5, .if_icmp .ge 12, 3), (8, .aload_n 0, 1), (9, .getfield 33, 3), (12, .iload_n 1, 1), (13, .iaload, 1), (14, .goto 4, 3), (17, .iconst 0, 1), (18, .istore_n 2, 1), (19, .iload_n 2, 1), (20, .bipush 97, 2), (22, .bipush 122, 2), (24, .invokestatic 40, 3), (27, .ifCond .eq 7, 3), (30, .iconst 1, 1), (31, .goto 19, 3), (34, .iload_n 2, 1), (35, .bipush 48, 2), (37, .bipush 57, 2), (39, .invokestatic 40, 3), (42, .ifCond .eq 7, 3), (45, .iconst 2, 1), (46, .goto 4, 3), (49, .iconst 0, 1), (50, .ireturn, 1)]
theorem dtbX11_kindAt_0 : ∀ q ∈ tbX11_kindAt_0, decode cX11_kindAt q.1 = .ok q.2 := by decide +kernel
def tbX11_nextToken_0 : List (Nat × Instr × Nat) := [(0, .aload_n 0, 1), (1, .getfield 59, 3), (4, .aload_n 0, 1), (5, .getfield 55, 3), (8, .if_icmp .ge 30, 3), (11, .aload_n 0, 1), (12, .getfield 33, 3), (15, .aload_n 0, 1), (16, .getfield 59, 3), (19, .iaload, 1), (20, .bipush 32, 2), (22, .if_icmp .ne 16, 3), (25, .aload_n 0, 1), (26, .dup, 1), (27, .getfield 59, 3), (30, .iconst 1, 1), (31, .iadd, 1), (32, .putfield 59, 3), (35, .goto (-35), 3), (38, .aload_n 0, 1), (39, .aload_n 0, 1), (40, .getfield 59, 3), (43, .putfield 62, 3), (46, .aload_n 0, 1), (47, .lconst 0, 1), (48, .putfield 65, 3), (51, .aload_n 0, 1), (52, .iconst 0, 1), (53, .putfield 68, 3), (56, .aload_n 0, 1), (57, .getfield 59, 3), (60, .aload_n 0, 1), (61, .getfield 55, 3), (64, .if_icmp .ne 9, 3), (67, .aload_n 0, 1), (68, .iconst 0, 1), (69, .putfield 71, 3), (72, .return_, 1), (73, .aload_n 0, 1), (74, .aload_n 0, 1), (75, .aload_n 0, 1), (76, .getfield 59, 3), (79, .invokevirtual 74, 3), (82, .putfield 71, 3), (85, .aload_n 0, 1), (86, .getfield 71, 3), (89, .ifCond .ne 37, 3), (92, .aload_n 0, 1), (93, .aload_n 0, 1), (94, .getfield 33, 3), (97, .aload_n 0, 1), (98, .getfield 59, 3), (101, .iaload, 1), (102, .bipush 59, 2), (104, .if_icmp .ne 7, 3), (107, .iconst 3, 1), (108, .goto 4, 3), (111, .iconst 4, 1), (112, .putfield 71, 3), (115, .aload_n 0, 1)]
theorem dtbX11_nextToken_0 : ∀ q ∈ tbX11_nextToken_0, decode cX11_nextToken q.1 = .ok q.2 := by decide +kernel
def tbX11_nextToken_1 : List (Nat × Instr × Nat) := [(116, .dup, 1), (117, .getfield 59, 3), (120, .iconst 1, 1), (121, .iadd, 1), (122, .putfield 59, 3), (125, .return_, 1), (126, .aload_n 0, 1), (127, .aload_n 0, 1), (128, .getfield 59, 3), (131, .invokevirtual 74, 3), (134, .aload_n 0, 1), (135, .getfield 71, 3), (138, .if_icmp .ne 97, 3), (141, .aload_n 0, 1), (142, .getfield 59, 3), (145, .aload_n 0, 1), (146, .getfield 62, 3), (149, .isub, 1), (150, .istore_n 1, 1), (151, .aload_n 0, 1), (152, .iload_n 1, 1), (153, .bipush 7, 2), (155, .if_icmp .ge 25, 3), (158, .ldc2_w 78, 3), (161, .aload_n 0, 1), (162, .getfield 65, 3), (165, .lmul, 1), (166, .aload_n 0, 1), (167, .getfield 33, 3), (170, .aload_n 0, 1), (171, .getfield 59, 3), (174, .iaload, 1), (175, .i2l, 1), (176, .ladd, 1), (177, .goto 6, 3), (180, .ldc2_w 80, 3), (183, .putfield 65, 3), (186, .aload_n 0, 1), (187, .iload_n 1, 1), (188, .iconst 2, 1), (189, .if_icmp .ge 26, 3), (192, .bipush 10, 2), (194, .aload_n 0, 1), (195, .getfield 68, 3), (198, .imul, 1), (199, .aload_n 0, 1), (200, .getfield 33, 3), (203, .aload_n 0, 1), (204, .getfield 59, 3), (207, .iaload, 1), (208, .iadd, 1), (209, .bipush 48, 2), (211, .isub, 1), (212, .goto 7, 3), (215, .aload_n 0, 1), (216, .getfield 68, 3), (219, .putfield 68, 3), (222, .aload_n 0, 1), (223, .dup, 1), (224, .getfield 59, 3)]
theorem dtbX11_nextToken_1 : ∀ q ∈ tbX11_nextToken_1, decode cX11_nextToken q.1 = .ok q.2 := by decide +kernel
def tbX11_nextToken_2 : List (Nat × Instr × Nat) := [(227, .iconst 1, 1), (228, .iadd, 1), (229, .putfield 59, 3), (232, .goto (-106), 3), (235, .aload_n 0, 1), (236, .aload_n 0, 1), (237, .getfield 71, 3), (240, .iconst 2, 1), (241, .if_icmp .ne 20, 3), (244, .aload_n 0, 1), (245, .getfield 59, 3), (248, .aload_n 0, 1), (249, .getfield 62, 3), (252, .isub, 1), (253, .iconst 2, 1), (254, .if_icmp .le 7, 3), (257, .iconst 4, 1), (258, .goto 7, 3), (261, .aload_n 0, 1), (262, .getfield 71, 3), (265, .putfield 71, 3), (268, .return_, 1)]
theorem dtbX11_nextToken_2 : ∀ q ∈ tbX11_nextToken_2, decode cX11_nextToken q.1 = .ok q.2 := by decide +kernel
def tbX11_isNumber_0 : List (Nat × Instr × Nat) := [(0, .aload_n 0, 1), (1, .invokevirtual 82, 3), (4, .aload_n 0, 1), (5, .getfield 71, 3), (8, .iconst 2, 1), (9, .if_icmp .ne 19, 3), (12, .aload_n 0, 1), (13, .getfield 68, 3), (16, .iload_n 1, 1), (17, .iload_n 2, 1), (18, .invokestatic 40, 3), (21, .ifCond .eq 7, 3), (24, .iconst 1, 1), (25, .goto 4, 3), (28, .iconst 0, 1), (29, .ireturn, 1)]
theorem dtbX11_isNumber_0 : ∀ q ∈ tbX11_isNumber_0, decode cX11_isNumber q.1 = .ok q.2 := by decide +kernel
def tbX11_isBillItem_0 : List (Nat × Instr × Nat) := [(0, .aload_n 0, 1), (1, .getfield 16, 3), (4, .bipush 6, 2), (6, .iaload, 1), (7, .bipush 7, 2), (9, .if_icmp .eq 12, 3), (12, .aload_n 0, 1), (13, .iconst 0, 1), (14, .iconst 5, 1), (15, .invokevirtual 85, 3), (18, .ifCond .ne 5, 3), (21, .iconst 0, 1), (22, .ireturn, 1), (23, .aload_n 0, 1), (24, .getfield 68, 3), (27, .istore_n 1, 1), (28, .aload_n 0, 1), (29, .iconst 1, 1), (30, .bipush 28, 2), (32, .invokevirtual 85, 3), (35, .ifCond .ne 5, 3), (38, .iconst 0, 1), (39, .ireturn, 1), (40, .aload_n 0, 1), (41, .getfield 68, 3), (44, .istore_n 2, 1), (45, .aload_n 0, 1), (46, .iconst 1, 1), (47, .bipush 99, 2), (49, .invokevirtual 85, 3), (52, .ifCond .ne 5, 3), (55, .iconst 0, 1), (56, .ireturn, 1), (57, .aload_n 0, 1), (58, .getfield 16, 3), (61, .iload_n 1, 1), (62, .iload_n 2, 1), (63, .aload_n 0, 1), (64, .getfield 68, 3), (67, .invokestatic 51, 3), (70, .pop, 1), (71, .iconst 1, 1), (72, .ireturn, 1)]
theorem dtbX11_isBillItem_0 : ∀ q ∈ tbX11_isBillItem_0, decode cX11_isBillItem q.1 = .ok q.2 := by decide +kernel
def tbX11_isOne_0 : List (Nat × Instr × Nat) := [(0, .aload_n 0, 1), (1, .iconst 0, 1), (2, .iload_n 2, 1), (3, .invokevirtual 85, 3), (6, .ifCond .ne 5, 3), (9, .iconst 0, 1), (10, .ireturn, 1), (11, .aload_n 0, 1), (12, .getfield 16, 3), (15, .iload_n 1, 1), (16, .iload_n 3, 1), (17, .aload_n 0, 1), (18, .getfield 68, 3), (21, .imul, 1), (22, .iastore, 1), (23, .iconst 1, 1), (24, .ireturn, 1)]
theorem dtbX11_isOne_0 : ∀ q ∈ tbX11_isOne_0, decode cX11_isOne q.1 = .ok q.2 := by decide +kernel
def tbX11_isItem_0 : List (Nat × Instr × Nat) := [(0, .aload_n 0, 1), (1, .getfield 89, 3), (4, .ifCond .ne 7, 3), (7, .iconst 1, 1), (8, .goto 4, 3), (11, .iconst 0, 1), (12, .istore_n 1, 1), (13, .aload_n 0, 1), (14, .getfield 71, 3), (17, .iconst 1, 1), (18, .if_icmp .ne 23, 3), (21, .iload_n 1, 1), (22, .aload_n 0, 1), (23, .getfield 65, 3), (26, .ldc2_w 92, 3), (29, .lcmp, 1), (30, .ifCond .ne 7, 3), (33, .iconst 1, 1), (34, .goto 4, 3), (37, .iconst 0, 1), (38, .if_icmp .eq 5, 3), (41, .iconst 0, 1), (42, .ireturn, 1), (43, .iload_n 1, 1), (44, .ifCond .eq 13, 3), (47, .aload_n 0, 1), (48, .iconst 0, 1), (49, .bipush 99, 2), (51, .bipush 10, 2), (53, .invokevirtual 94, 3), (56, .ireturn, 1), (57, .aload_n 0, 1), (58, .getfield 65, 3), (61, .ldc2_w 97, 3), (64, .lcmp, 1), (65, .ifCond .ne 8, 3), (68, .aload_n 0, 1), (69, .invokevirtual 99, 3), (72, .ireturn, 1), (73, .aload_n 0, 1), (74, .getfield 65, 3), (77, .ldc2_w 103, 3), (80, .lcmp, 1), (81, .ifCond .ne 14, 3), (84, .aload_n 0, 1), (85, .iconst 5, 1), (86, .bipush 30, 2), (88, .iconst 1, 1), (89, .invokevirtual 94, 3), (92, .goto 30, 3), (95, .aload_n 0, 1), (96, .getfield 65, 3), (99, .ldc2_w 105, 3), (102, .lcmp, 1), (103, .ifCond .ne 18, 3), (106, .aload_n 0, 1), (107, .iconst 1, 1), (108, .bipush 99, 2), (110, .iconst 1, 1), (111, .invokevirtual 94, 3)]
theorem dtbX11_isItem_0 : ∀ q ∈ tbX11_isItem_0, decode cX11_isItem q.1 = .ok q.2 := by decide +kernel
def tbX11_isItem_1 : List (Nat × Instr × Nat) := [(114, .ifCond .eq 7, 3), (117, .iconst 1, 1), (118, .goto 4, 3), (121, .iconst 0, 1), (122, .ireturn, 1)]
theorem dtbX11_isItem_1 : ∀ q ∈ tbX11_isItem_1, decode cX11_isItem q.1 = .ok q.2 := by decide +kernel
def tbX11_isRead_0 : List (Nat × Instr × Nat) := [(0, .aload_n 0, 1), (1, .getfield 16, 3), (4, .invokestatic 36, 3), (7, .aload_n 0, 1), (8, .iconst 0, 1), (9, .putfield 59, 3), (12, .aload_n 0, 1), (13, .iconst 0, 1), (14, .putfield 89, 3), (17, .aload_n 0, 1), (18, .invokevirtual 82, 3), (21, .aload_n 0, 1), (22, .getfield 71, 3), (25, .ifCond .ne 10, 3), (28, .aload_n 0, 1), (29, .getfield 89, 3), (32, .ifCond .ne 43, 3), (35, .aload_n 0, 1), (36, .invokevirtual 107, 3), (39, .ifCond .ne 5, 3), (42, .iconst 0, 1), (43, .ireturn, 1), (44, .aload_n 0, 1), (45, .invokevirtual 82, 3), (48, .aload_n 0, 1), (49, .getfield 71, 3), (52, .iconst 3, 1), (53, .if_icmp .eq 5, 3), (56, .iconst 0, 1), (57, .ireturn, 1), (58, .aload_n 0, 1), (59, .dup, 1), (60, .getfield 89, 3), (63, .iconst 1, 1), (64, .iadd, 1), (65, .putfield 89, 3), (68, .aload_n 0, 1), (69, .invokevirtual 82, 3), (72, .goto (-51), 3), (75, .iconst 1, 1), (76, .ireturn, 1)]
theorem dtbX11_isRead_0 : ∀ q ∈ tbX11_isRead_0, decode cX11_isRead q.1 = .ok q.2 := by decide +kernel
def tbX11_read_0 : List (Nat × Instr × Nat) := [(0, .aload_n 0, 1), (1, .invokevirtual 110, 3), (4, .ifCond .ne 11, 3), (7, .bipush (-10), 2), (9, .aload_n 0, 1), (10, .getfield 62, 3), (13, .isub, 1), (14, .ireturn, 1), (15, .aload_n 0, 1), (16, .getfield 16, 3), (19, .iconst 0, 1), (20, .aload_n 0, 1), (21, .getfield 7, 3), (24, .iconst 0, 1), (25, .bipush 108, 2), (27, .invokestatic 113, 3), (30, .aload_n 0, 1), (31, .getfield 89, 3), (34, .ireturn, 1)]
theorem dtbX11_read_0 : ∀ q ∈ tbX11_read_0, decode cX11_read q.1 = .ok q.2 := by decide +kernel
def tbX11_dayBy_0 : List (Nat × Instr × Nat) := [(0, .iload_n 0, 1), (1, .tableswitch 83 1 5 #[35, 83, 62, 83, 35], 35), (36, .iload_n 1, 1), (37, .bipush 7, 2), (39, .irem, 1), (40, .ifCond .eq 7, 3), (43, .iload_n 1, 1), (44, .goto 18, 3), (47, .iload_n 1, 1), (48, .bipush 28, 2), (50, .if_icmp .ne 9, 3), (53, .iload_n 1, 1), (54, .iconst 1, 1), (55, .isub, 1), (56, .goto 6, 3), (59, .iload_n 1, 1), (60, .iconst 1, 1), (61, .iadd, 1), (62, .ireturn, 1), (63, .iload_n 1, 1), (64, .bipush 14, 2), (66, .iadd, 1), (67, .bipush 28, 2), (69, .if_icmp .le 10, 3), (72, .iload_n 1, 1), (73, .bipush 14, 2), (75, .isub, 1), (76, .goto 7, 3), (79, .iload_n 1, 1), (80, .bipush 14, 2), (82, .iadd, 1), (83, .ireturn, 1), (84, .iload_n 1, 1), (85, .ireturn, 1)]
theorem dtbX11_dayBy_0 : ∀ q ∈ tbX11_dayBy_0, decode cX11_dayBy q.1 = .ok q.2 := by decide +kernel
def tbX11_poundsBy_0 : List (Nat × Instr × Nat) := [(0, .iload_n 0, 1), (1, .tableswitch 62 2 5 #[31, 62, 43, 59], 31), (32, .iload_n 2, 1), (33, .iconst 3, 1), (34, .irem, 1), (35, .ifCond .ne 7, 3), (38, .iload_n 1, 1), (39, .goto 4, 3), (42, .iconst 0, 1), (43, .ireturn, 1), (44, .iload_n 2, 1), (45, .bipush 12, 2), (47, .irem, 1), (48, .ifCond .ne 10, 3), (51, .bipush 10, 2), (53, .iload_n 1, 1), (54, .imul, 1), (55, .goto 4, 3), (58, .iconst 0, 1), (59, .ireturn, 1), (60, .iload_n 1, 1), (61, .ineg, 1), (62, .ireturn, 1), (63, .iload_n 1, 1), (64, .ireturn, 1)]
theorem dtbX11_poundsBy_0 : ∀ q ∈ tbX11_poundsBy_0, decode cX11_poundsBy q.1 = .ok q.2 := by decide +kernel
def tbX11_drawn_0 : List (Nat × Instr × Nat) := [(0, .aload_n 0, 1), (1, .bipush 7, 2), (3, .iload_n 1, 1), (4, .iadd, 1), (5, .iaload, 1), (6, .aload_n 0, 1), (7, .bipush 21, 2), (9, .iload_n 1, 1), (10, .iadd, 1), (11, .iaload, 1), (12, .aload_n 0, 1), (13, .iconst 4, 1), (14, .iaload, 1), (15, .invokestatic 117, 3), (18, .ireturn, 1)]
theorem dtbX11_drawn_0 : ∀ q ∈ tbX11_drawn_0, decode cX11_drawn q.1 = .ok q.2 := by decide +kernel
def tbX11_goBy_0 : List (Nat × Instr × Nat) := [(0, .iconst 0, 1), (1, .istore_n 2, 1), (2, .iload_n 2, 1), (3, .aload_n 0, 1), (4, .bipush 6, 2), (6, .iaload, 1), (7, .if_icmp .ge 45, 3), (10, .aload_n 0, 1), (11, .iconst 0, 1), (12, .dup2, 1), (13, .iaload, 1), (14, .aload_n 0, 1), (15, .bipush 7, 2), (17, .iload_n 2, 1), (18, .iadd, 1), (19, .iaload, 1), (20, .aload_n 0, 1), (21, .bipush 14, 2), (23, .iload_n 2, 1), (24, .iadd, 1), (25, .iaload, 1), (26, .invokestatic 121, 3), (29, .aload_n 0, 1), (30, .iconst 3, 1), (31, .iaload, 1), (32, .if_icmp .ne 11, 3), (35, .aload_n 0, 1), (36, .iload_n 2, 1), (37, .invokestatic 125, 3), (40, .goto 4, 3), (43, .iconst 0, 1), (44, .isub, 1), (45, .iastore, 1), (46, .iinc 2 1, 3), (49, .goto (-47), 3), (52, .aload_n 0, 1), (53, .iconst 0, 1), (54, .dup2, 1), (55, .iaload, 1), (56, .iload_n 1, 1), (57, .isub, 1), (58, .iastore, 1), (59, .aload_n 0, 1), (60, .iconst 0, 1), (61, .iaload, 1), (62, .ifCond .ge 17, 3), (65, .aload_n 0, 1), (66, .iconst 0, 1), (67, .dup2, 1), (68, .iaload, 1), (69, .iconst 1, 1), (70, .isub, 1), (71, .iastore, 1), (72, .aload_n 0, 1), (73, .iconst 2, 1), (74, .dup2, 1), (75, .iaload, 1), (76, .iconst 1, 1), (77, .iadd, 1), (78, .iastore, 1)]
theorem dtbX11_goBy_0 : ∀ q ∈ tbX11_goBy_0, decode cX11_goBy q.1 = .ok q.2 := by decide +kernel
def tbX11_goBy_1 : List (Nat × Instr × Nat) := [(79, .aload_n 0, 1), (80, .iconst 3, 1), (81, .dup2, 1), (82, .iaload, 1), (83, .iconst 1, 1), (84, .iadd, 1), (85, .iastore, 1), (86, .aload_n 0, 1), (87, .iconst 3, 1), (88, .iaload, 1), (89, .bipush 28, 2), (91, .if_icmp .le 14, 3), (94, .aload_n 0, 1), (95, .iconst 3, 1), (96, .iconst 1, 1), (97, .iastore, 1), (98, .aload_n 0, 1), (99, .iconst 4, 1), (100, .dup2, 1), (101, .iaload, 1), (102, .iconst 1, 1), (103, .iadd, 1), (104, .iastore, 1), (105, .return_, 1)]
theorem dtbX11_goBy_1 : ∀ q ∈ tbX11_goBy_1, decode cX11_goBy q.1 = .ok q.2 := by decide +kernel
def tbX11_keepBack_0 : List (Nat × Instr × Nat) := [(0, .aload_n 0, 1), (1, .getfield 7, 3), (4, .bipush 59, 2), (6, .iaload, 1), (7, .bipush 8, 2), (9, .if_icmp .ne 31, 3), (12, .aload_n 0, 1), (13, .getfield 7, 3), (16, .bipush 66, 2), (18, .aload_n 0, 1), (19, .getfield 7, 3), (22, .bipush 60, 2), (24, .bipush 42, 2), (26, .invokestatic 113, 3), (29, .aload_n 0, 1), (30, .getfield 7, 3), (33, .bipush 59, 2), (35, .dup2, 1), (36, .iaload, 1), (37, .iconst 1, 1), (38, .isub, 1), (39, .iastore, 1), (40, .aload_n 0, 1), (41, .getfield 7, 3), (44, .iconst 0, 1), (45, .aload_n 0, 1), (46, .getfield 7, 3), (49, .bipush 60, 2), (51, .bipush 6, 2), (53, .aload_n 0, 1), (54, .getfield 7, 3), (57, .bipush 59, 2), (59, .iaload, 1), (60, .imul, 1), (61, .iadd, 1), (62, .bipush 6, 2), (64, .invokestatic 113, 3), (67, .aload_n 0, 1), (68, .getfield 7, 3), (71, .bipush 59, 2), (73, .dup2, 1), (74, .iaload, 1), (75, .iconst 1, 1), (76, .iadd, 1), (77, .iastore, 1), (78, .return_, 1)]
theorem dtbX11_keepBack_0 : ∀ q ∈ tbX11_keepBack_0, decode cX11_keepBack q.1 = .ok q.2 := by decide +kernel
def tbX11_days_0 : List (Nat × Instr × Nat) := [(0, .iload_n 1, 1), (1, .iconst 1, 1), (2, .bipush 99, 2), (4, .invokestatic 40, 3), (7, .ifCond .ne 8, 3), (10, .aload_n 0, 1), (11, .invokevirtual 44, 3), (14, .ireturn, 1), (15, .aload_n 0, 1), (16, .invokevirtual 129, 3), (19, .aload_n 0, 1), (20, .getfield 7, 3), (23, .iconst 2, 1), (24, .iaload, 1), (25, .istore_n 2, 1), (26, .iconst 0, 1), (27, .istore_n 3, 1), (28, .iload_n 3, 1), (29, .iload_n 1, 1), (30, .if_icmp .ge 51, 3), (33, .aload_n 0, 1), (34, .getfield 7, 3), (37, .aload_n 0, 1), (38, .getfield 7, 3), (41, .iconst 5, 1), (42, .iaload, 1), (43, .invokestatic 132, 3), (46, .aload_n 0, 1), (47, .getfield 7, 3), (50, .iconst 4, 1), (51, .iaload, 1), (52, .sipush 999, 3), (55, .if_icmp .le 20, 3), (58, .aload_n 0, 1), (59, .getfield 7, 3), (62, .iconst 4, 1), (63, .sipush 999, 3), (66, .iastore, 1), (67, .aload_n 0, 1), (68, .getfield 7, 3), (71, .iconst 3, 1), (72, .bipush 28, 2), (74, .iastore, 1), (75, .iinc 3 1, 3), (78, .goto (-50), 3), (81, .aload_n 0, 1), (82, .getfield 7, 3), (85, .iconst 2, 1), (86, .iaload, 1), (87, .iload_n 2, 1), (88, .isub, 1), (89, .ireturn, 1)]
theorem dtbX11_days_0 : ∀ q ∈ tbX11_days_0, decode cX11_days q.1 = .ok q.2 := by decide +kernel
end
section
def tbX11_spend_0 : List (Nat × Instr × Nat) := [(0, .iload_n 1, 1), (1, .iconst 0, 1), (2, .bipush 30, 2), (4, .invokestatic 40, 3), (7, .ifCond .ne 8, 3), (10, .aload_n 0, 1), (11, .invokevirtual 44, 3), (14, .ireturn, 1), (15, .aload_n 0, 1), (16, .invokevirtual 129, 3), (19, .aload_n 0, 1), (20, .getfield 7, 3), (23, .iconst 5, 1), (24, .iaload, 1), (25, .istore_n 2, 1), (26, .aload_n 0, 1), (27, .getfield 7, 3), (30, .iconst 5, 1), (31, .iload_n 1, 1), (32, .iastore, 1), (33, .iload_n 2, 1), (34, .ireturn, 1)]
theorem dtbX11_spend_0 : ∀ q ∈ tbX11_spend_0, decode cX11_spend q.1 = .ok q.2 := by decide +kernel
def tbX11_jar_0 : List (Nat × Instr × Nat) := [(0, .iload_n 1, 1), (1, .bipush (-99), 2), (3, .bipush 99, 2), (5, .invokestatic 40, 3), (8, .ifCond .ne 8, 3), (11, .aload_n 0, 1), (12, .invokevirtual 44, 3), (15, .ireturn, 1), (16, .aload_n 0, 1), (17, .getfield 7, 3), (20, .iconst 1, 1), (21, .iaload, 1), (22, .iload_n 1, 1), (23, .iadd, 1), (24, .ifCond .lt 18, 3), (27, .iload_n 1, 1), (28, .ifCond .le 19, 3), (31, .aload_n 0, 1), (32, .getfield 7, 3), (35, .iconst 0, 1), (36, .iaload, 1), (37, .iload_n 1, 1), (38, .isub, 1), (39, .ifCond .ge 8, 3), (42, .aload_n 0, 1), (43, .invokevirtual 136, 3), (46, .ireturn, 1), (47, .aload_n 0, 1), (48, .invokevirtual 129, 3), (51, .aload_n 0, 1), (52, .getfield 7, 3), (55, .iconst 1, 1), (56, .dup2, 1), (57, .iaload, 1), (58, .iload_n 1, 1), (59, .iadd, 1), (60, .iastore, 1), (61, .aload_n 0, 1), (62, .getfield 7, 3), (65, .iconst 0, 1), (66, .dup2, 1), (67, .iaload, 1), (68, .iload_n 1, 1), (69, .isub, 1), (70, .iastore, 1), (71, .aload_n 0, 1), (72, .getfield 7, 3), (75, .iconst 1, 1), (76, .iaload, 1), (77, .ireturn, 1)]
theorem dtbX11_jar_0 : ∀ q ∈ tbX11_jar_0, decode cX11_jar q.1 = .ok q.2 := by decide +kernel
def tbX11_undo_0 : List (Nat × Instr × Nat) := [(0, .aload_n 0, 1), (1, .getfield 7, 3), (4, .bipush 59, 2), (6, .iaload, 1), (7, .ifCond .ne 8, 3), (10, .aload_n 0, 1), (11, .invokevirtual 136, 3), (14, .ireturn, 1), (15, .aload_n 0, 1), (16, .getfield 7, 3), (19, .bipush 59, 2), (21, .dup2, 1), (22, .iaload, 1), (23, .iconst 1, 1), (24, .isub, 1), (25, .iastore, 1), (26, .aload_n 0, 1), (27, .getfield 7, 3), (30, .bipush 60, 2), (32, .bipush 6, 2), (34, .aload_n 0, 1), (35, .getfield 7, 3), (38, .bipush 59, 2), (40, .iaload, 1), (41, .imul, 1), (42, .iadd, 1), (43, .aload_n 0, 1), (44, .getfield 7, 3), (47, .iconst 0, 1), (48, .bipush 6, 2), (50, .invokestatic 113, 3), (53, .aload_n 0, 1), (54, .getfield 7, 3), (57, .iconst 3, 1), (58, .iaload, 1), (59, .ireturn, 1)]
theorem dtbX11_undo_0 : ∀ q ∈ tbX11_undo_0, decode cX11_undo q.1 = .ok q.2 := by decide +kernel
def tbX11_of_0 : List (Nat × Instr × Nat) := [(0, .aload_n 0, 1), (1, .iload_n 1, 1), (2, .invokevirtual 139, 3), (5, .ifCond .ne 11, 3), (8, .aload_n 0, 1), (9, .sipush (-10000), 3), (12, .invokevirtual 143, 3), (15, .ireturn, 1), (16, .iload_n 2, 1), (17, .tableswitch 96 0 4 #[35, 45, 55, 65, 87], 35), (52, .aload_n 0, 1), (53, .getfield 7, 3), (56, .bipush 7, 2), (58, .iload_n 1, 1), (59, .iadd, 1), (60, .iaload, 1), (61, .ireturn, 1), (62, .aload_n 0, 1), (63, .getfield 7, 3), (66, .bipush 14, 2), (68, .iload_n 1, 1), (69, .iadd, 1), (70, .iaload, 1), (71, .ireturn, 1), (72, .aload_n 0, 1), (73, .getfield 7, 3), (76, .bipush 21, 2), (78, .iload_n 1, 1), (79, .iadd, 1), (80, .iaload, 1), (81, .ireturn, 1), (82, .aload_n 0, 1), (83, .getfield 7, 3), (86, .bipush 7, 2), (88, .iload_n 1, 1), (89, .iadd, 1), (90, .iaload, 1), (91, .aload_n 0, 1), (92, .getfield 7, 3), (95, .bipush 14, 2), (97, .iload_n 1, 1), (98, .iadd, 1), (99, .iaload, 1), (100, .invokestatic 121, 3), (103, .ireturn, 1), (104, .aload_n 0, 1), (105, .getfield 7, 3), (108, .iload_n 1, 1), (109, .invokestatic 125, 3), (112, .ireturn, 1), (113, .aload_n 0, 1), (114, .sipush (-10000), 3), (117, .invokevirtual 143, 3), (120, .ireturn, 1)]
theorem dtbX11_of_0 : ∀ q ∈ tbX11_of_0, decode cX11_of q.1 = .ok q.2 := by decide +kernel
def tbX11_now_0 : List (Nat × Instr × Nat) := [(0, .iload_n 1, 1), (1, .iconst 0, 1), (2, .iconst 5, 1), (3, .invokestatic 40, 3), (6, .ifCond .eq 12, 3), (9, .aload_n 0, 1), (10, .getfield 7, 3), (13, .iload_n 1, 1), (14, .iaload, 1), (15, .goto 9, 3), (18, .aload_n 0, 1), (19, .ldc 146, 2), (21, .invokevirtual 143, 3), (24, .ireturn, 1)]
theorem dtbX11_now_0 : ∀ q ∈ tbX11_now_0, decode cX11_now q.1 = .ok q.2 := by decide +kernel
def tbX11_truly_0 : List (Nat × Instr × Nat) := [(0, .aload_n 0, 1), (1, .getfield 7, 3), (4, .iconst 0, 1), (5, .iaload, 1), (6, .istore_n 1, 1), (7, .iconst 0, 1), (8, .istore_n 2, 1), (9, .iload_n 2, 1), (10, .aload_n 0, 1), (11, .getfield 7, 3), (14, .bipush 6, 2), (16, .iaload, 1), (17, .if_icmp .ge 77, 3), (20, .aload_n 0, 1), (21, .getfield 7, 3), (24, .bipush 7, 2), (26, .iload_n 2, 1), (27, .iadd, 1), (28, .iaload, 1), (29, .iconst 5, 1), (30, .if_icmp .eq 37, 3), (33, .aload_n 0, 1), (34, .getfield 7, 3), (37, .bipush 7, 2), (39, .iload_n 2, 1), (40, .iadd, 1), (41, .iaload, 1), (42, .aload_n 0, 1), (43, .getfield 7, 3), (46, .bipush 14, 2), (48, .iload_n 2, 1), (49, .iadd, 1), (50, .iaload, 1), (51, .invokestatic 121, 3), (54, .aload_n 0, 1), (55, .getfield 7, 3), (58, .iconst 3, 1), (59, .iaload, 1), (60, .if_icmp .lt 7, 3), (63, .iconst 1, 1), (64, .goto 4, 3), (67, .iconst 0, 1), (68, .istore_n 3, 1), (69, .iload_n 1, 1), (70, .iload_n 3, 1), (71, .ifCond .eq 14, 3), (74, .aload_n 0, 1), (75, .getfield 7, 3), (78, .iload_n 2, 1), (79, .invokestatic 125, 3), (82, .goto 4, 3), (85, .iconst 0, 1), (86, .isub, 1), (87, .istore_n 1, 1), (88, .iinc 2 1, 3), (91, .goto (-82), 3), (94, .iload_n 1, 1), (95, .ireturn, 1)]
theorem dtbX11_truly_0 : ∀ q ∈ tbX11_truly_0, decode cX11_truly q.1 = .ok q.2 := by decide +kernel
def tbX11_copyNow_0 : List (Nat × Instr × Nat) := [(0, .aload_n 0, 1), (1, .getfield 7, 3), (4, .iconst 0, 1), (5, .aload_n 0, 1), (6, .getfield 13, 3), (9, .iconst 0, 1), (10, .bipush 59, 2), (12, .invokestatic 113, 3), (15, .return_, 1)]
theorem dtbX11_copyNow_0 : ∀ q ∈ tbX11_copyNow_0, decode cX11_copyNow q.1 = .ok q.2 := by decide +kernel
def tbX11_chargesOn_0 : List (Nat × Instr × Nat) := [(0, .aload_n 0, 1), (1, .getfield 13, 3), (4, .iconst 2, 1), (5, .iaload, 1), (6, .istore_n 3, 1), (7, .iconst 0, 1), (8, .istore 4, 2), (10, .iload 4, 2), (12, .iload_n 1, 1), (13, .if_icmp .ge 17, 3), (16, .aload_n 0, 1), (17, .getfield 13, 3), (20, .iload_n 2, 1), (21, .invokestatic 132, 3), (24, .iinc 4 1, 3), (27, .goto (-17), 3), (30, .aload_n 0, 1), (31, .getfield 13, 3), (34, .iconst 2, 1), (35, .iaload, 1), (36, .iload_n 3, 1), (37, .isub, 1), (38, .ireturn, 1)]
theorem dtbX11_chargesOn_0 : ∀ q ∈ tbX11_chargesOn_0, decode cX11_chargesOn q.1 = .ok q.2 := by decide +kernel
def tbX11_then_0 : List (Nat × Instr × Nat) := [(0, .iload_n 1, 1), (1, .iconst 0, 1), (2, .bipush 99, 2), (4, .invokestatic 40, 3), (7, .ifCond .eq 12, 3), (10, .iload_n 2, 1), (11, .iconst 0, 1), (12, .iconst 1, 1), (13, .invokestatic 40, 3), (16, .ifCond .ne 10, 3), (19, .aload_n 0, 1), (20, .ldc 146, 2), (22, .invokevirtual 143, 3), (25, .ireturn, 1), (26, .aload_n 0, 1), (27, .invokevirtual 147, 3), (30, .aload_n 0, 1), (31, .iload_n 1, 1), (32, .aload_n 0, 1), (33, .getfield 7, 3), (36, .iconst 5, 1), (37, .iaload, 1), (38, .invokevirtual 150, 3), (41, .istore_n 3, 1), (42, .iload_n 2, 1), (43, .ifCond .ne 12, 3), (46, .aload_n 0, 1), (47, .getfield 13, 3), (50, .iconst 0, 1), (51, .iaload, 1), (52, .goto 4, 3), (55, .iload_n 3, 1), (56, .ireturn, 1)]
theorem dtbX11_then_0 : ∀ q ∈ tbX11_then_0, decode cX11_then q.1 = .ok q.2 := by decide +kernel
def tbX11_low_0 : List (Nat × Instr × Nat) := [(0, .iload_n 1, 1), (1, .iconst 1, 1), (2, .bipush 99, 2), (4, .invokestatic 40, 3), (7, .ifCond .eq 12, 3), (10, .iload_n 2, 1), (11, .iconst 0, 1), (12, .iconst 1, 1), (13, .invokestatic 40, 3), (16, .ifCond .ne 10, 3), (19, .aload_n 0, 1), (20, .ldc 146, 2), (22, .invokevirtual 143, 3), (25, .ireturn, 1), (26, .aload_n 0, 1), (27, .invokevirtual 147, 3), (30, .iconst 0, 1), (31, .istore_n 3, 1), (32, .iconst 0, 1), (33, .istore 4, 2), (35, .iconst 1, 1), (36, .istore 5, 2), (38, .iload 5, 2), (40, .iload_n 1, 1), (41, .if_icmp .gt 74, 3), (44, .aload_n 0, 1), (45, .getfield 13, 3), (48, .aload_n 0, 1), (49, .getfield 7, 3), (52, .iconst 5, 1), (53, .iaload, 1), (54, .invokestatic 132, 3), (57, .iload 4, 2), (59, .ifCond .eq 13, 3), (62, .aload_n 0, 1), (63, .getfield 13, 3), (66, .iconst 0, 1), (67, .iaload, 1), (68, .iload_n 3, 1), (69, .if_icmp .ge 7, 3), (72, .iconst 1, 1), (73, .goto 4, 3), (76, .iconst 0, 1), (77, .istore 6, 2), (79, .iload 6, 2), (81, .ifCond .eq 12, 3), (84, .aload_n 0, 1), (85, .getfield 13, 3), (88, .iconst 0, 1), (89, .iaload, 1), (90, .goto 4, 3), (93, .iload_n 3, 1), (94, .istore_n 3, 1), (95, .iload 6, 2), (97, .ifCond .eq 8, 3), (100, .iload 5, 2), (102, .goto 5, 3), (105, .iload 4, 2), (107, .istore 4, 2), (109, .iinc 5 1, 3)]
theorem dtbX11_low_0 : ∀ q ∈ tbX11_low_0, decode cX11_low q.1 = .ok q.2 := by decide +kernel
def tbX11_low_1 : List (Nat × Instr × Nat) := [(112, .goto (-74), 3), (115, .iload_n 2, 1), (116, .ifCond .ne 7, 3), (119, .iload_n 3, 1), (120, .goto 5, 3), (123, .iload 4, 2), (125, .ireturn, 1)]
theorem dtbX11_low_1 : ∀ q ∈ tbX11_low_1, decode cX11_low q.1 = .ok q.2 := by decide +kernel
def tbX11_belowIn_0 : List (Nat × Instr × Nat) := [(0, .iconst 1, 1), (1, .istore_n 3, 1), (2, .iload_n 3, 1), (3, .iload_n 1, 1), (4, .if_icmp .gt 28, 3), (7, .aload_n 0, 1), (8, .getfield 13, 3), (11, .iload_n 2, 1), (12, .invokestatic 132, 3), (15, .aload_n 0, 1), (16, .getfield 13, 3), (19, .iconst 0, 1), (20, .iaload, 1), (21, .ifCond .ge 5, 3), (24, .iload_n 3, 1), (25, .ireturn, 1), (26, .iinc 3 1, 3), (29, .goto (-27), 3), (32, .iconst (-1), 1), (33, .ireturn, 1)]
theorem dtbX11_belowIn_0 : ∀ q ∈ tbX11_belowIn_0, decode cX11_belowIn q.1 = .ok q.2 := by decide +kernel
def tbX11_below_0 : List (Nat × Instr × Nat) := [(0, .aload_n 0, 1), (1, .invokevirtual 147, 3), (4, .aload_n 0, 1), (5, .bipush 99, 2), (7, .aload_n 0, 1), (8, .getfield 7, 3), (11, .iconst 5, 1), (12, .iaload, 1), (13, .invokevirtual 153, 3), (16, .ireturn, 1)]
theorem dtbX11_below_0 : ∀ q ∈ tbX11_below_0, decode cX11_below q.1 = .ok q.2 := by decide +kernel
def tbX11_most_0 : List (Nat × Instr × Nat) := [(0, .iload_n 1, 1), (1, .iconst 1, 1), (2, .bipush 99, 2), (4, .invokestatic 40, 3), (7, .ifCond .ne 8, 3), (10, .aload_n 0, 1), (11, .invokevirtual 44, 3), (14, .ireturn, 1), (15, .bipush 30, 2), (17, .istore_n 2, 1), (18, .iload_n 2, 1), (19, .ifCond .lt 25, 3), (22, .aload_n 0, 1), (23, .invokevirtual 147, 3), (26, .aload_n 0, 1), (27, .iload_n 1, 1), (28, .iload_n 2, 1), (29, .invokevirtual 153, 3), (32, .iconst (-1), 1), (33, .if_icmp .ne 5, 3), (36, .iload_n 2, 1), (37, .ireturn, 1), (38, .iinc 2 (-1), 3), (41, .goto (-23), 3), (44, .iconst (-1), 1), (45, .ireturn, 1)]
theorem dtbX11_most_0 : ∀ q ∈ tbX11_most_0, decode cX11_most q.1 = .ok q.2 := by decide +kernel
def tbX11_need_0 : List (Nat × Instr × Nat) := [(0, .iload_n 1, 1), (1, .iconst 1, 1), (2, .bipush 99, 2), (4, .invokestatic 40, 3), (7, .ifCond .ne 8, 3), (10, .aload_n 0, 1), (11, .invokevirtual 44, 3), (14, .ireturn, 1), (15, .iconst 0, 1), (16, .istore_n 2, 1), (17, .iload_n 2, 1), (18, .sipush 1000, 3), (21, .if_icmp .ge 40, 3), (24, .aload_n 0, 1), (25, .invokevirtual 147, 3), (28, .aload_n 0, 1), (29, .getfield 13, 3), (32, .iconst 0, 1), (33, .dup2, 1), (34, .iaload, 1), (35, .iload_n 2, 1), (36, .iadd, 1), (37, .iastore, 1), (38, .aload_n 0, 1), (39, .iload_n 1, 1), (40, .aload_n 0, 1), (41, .getfield 7, 3), (44, .iconst 5, 1), (45, .iaload, 1), (46, .invokevirtual 153, 3), (49, .iconst (-1), 1), (50, .if_icmp .ne 5, 3), (53, .iload_n 2, 1), (54, .ireturn, 1), (55, .iinc 2 1, 3), (58, .goto (-41), 3), (61, .iconst (-1), 1), (62, .ireturn, 1)]
theorem dtbX11_need_0 : ∀ q ∈ tbX11_need_0, decode cX11_need q.1 = .ok q.2 := by decide +kernel
def tbX11_move_0 : List (Nat × Instr × Nat) := [(0, .aload_n 0, 1), (1, .invokevirtual 147, 3), (4, .aload_n 0, 1), (5, .bipush 28, 2), (7, .aload_n 0, 1), (8, .getfield 7, 3), (11, .iconst 5, 1), (12, .iaload, 1), (13, .invokevirtual 150, 3), (16, .istore_n 1, 1), (17, .iconst (-1), 1), (18, .istore_n 2, 1), (19, .iconst 0, 1), (20, .istore_n 3, 1), (21, .iload_n 3, 1), (22, .aload_n 0, 1), (23, .getfield 7, 3), (26, .bipush 6, 2), (28, .iaload, 1), (29, .if_icmp .ge 85, 3), (32, .iconst 1, 1), (33, .istore 4, 2), (35, .iload 4, 2), (37, .bipush 28, 2), (39, .if_icmp .gt 69, 3), (42, .aload_n 0, 1), (43, .invokevirtual 147, 3), (46, .aload_n 0, 1), (47, .getfield 13, 3), (50, .bipush 14, 2), (52, .iload_n 3, 1), (53, .iadd, 1), (54, .iload 4, 2), (56, .iastore, 1), (57, .aload_n 0, 1), (58, .bipush 28, 2), (60, .aload_n 0, 1), (61, .getfield 7, 3), (64, .iconst 5, 1), (65, .iaload, 1), (66, .invokevirtual 150, 3), (69, .istore 5, 2), (71, .iload 5, 2), (73, .iload_n 1, 1), (74, .if_icmp .ge 13, 3), (77, .bipush 100, 2), (79, .iload_n 3, 1), (80, .imul, 1), (81, .iload 4, 2), (83, .iadd, 1), (84, .goto 4, 3), (87, .iload_n 2, 1), (88, .istore_n 2, 1), (89, .iload 5, 2), (91, .iload_n 1, 1), (92, .if_icmp .ge 8, 3), (95, .iload 5, 2), (97, .goto 4, 3), (100, .iload_n 1, 1), (101, .istore_n 1, 1)]
theorem dtbX11_move_0 : ∀ q ∈ tbX11_move_0, decode cX11_move q.1 = .ok q.2 := by decide +kernel
def tbX11_move_1 : List (Nat × Instr × Nat) := [(102, .iinc 4 1, 3), (105, .goto (-70), 3), (108, .iinc 3 1, 3), (111, .goto (-90), 3), (114, .iload_n 2, 1), (115, .ireturn, 1)]
theorem dtbX11_move_1 : ∀ q ∈ tbX11_move_1, decode cX11_move q.1 = .ok q.2 := by decide +kernel
def tbX11_monthly_0 : List (Nat × Instr × Nat) := [(0, .aload_n 0, 1), (1, .iload_n 1, 1), (2, .invokevirtual 139, 3), (5, .ifCond .ne 10, 3), (8, .aload_n 0, 1), (9, .ldc 146, 2), (11, .invokevirtual 143, 3), (14, .ireturn, 1), (15, .iconst 0, 1), (16, .istore_n 2, 1), (17, .iconst 0, 1), (18, .istore_n 3, 1), (19, .iload_n 3, 1), (20, .bipush 12, 2), (22, .if_icmp .ge 51, 3), (25, .iload_n 2, 1), (26, .aload_n 0, 1), (27, .getfield 7, 3), (30, .bipush 7, 2), (32, .iload_n 1, 1), (33, .iadd, 1), (34, .iaload, 1), (35, .aload_n 0, 1), (36, .getfield 7, 3), (39, .bipush 21, 2), (41, .iload_n 1, 1), (42, .iadd, 1), (43, .iaload, 1), (44, .aload_n 0, 1), (45, .getfield 7, 3), (48, .iconst 4, 1), (49, .iaload, 1), (50, .iload_n 3, 1), (51, .iadd, 1), (52, .invokestatic 117, 3), (55, .aload_n 0, 1), (56, .getfield 7, 3), (59, .bipush 21, 2), (61, .iload_n 1, 1), (62, .iadd, 1), (63, .iaload, 1), (64, .isub, 1), (65, .iadd, 1), (66, .istore_n 2, 1), (67, .iinc 3 1, 3), (70, .goto (-51), 3), (73, .iload_n 2, 1), (74, .ireturn, 1)]
theorem dtbX11_monthly_0 : ∀ q ∈ tbX11_monthly_0, decode cX11_monthly q.1 = .ok q.2 := by decide +kernel
def tbX11_dear_0 : List (Nat × Instr × Nat) := [(0, .iconst 0, 1), (1, .istore_n 1, 1), (2, .iconst (-1), 1), (3, .istore_n 2, 1), (4, .iconst 0, 1), (5, .istore_n 3, 1), (6, .iload_n 3, 1), (7, .aload_n 0, 1), (8, .getfield 7, 3), (11, .bipush 6, 2), (13, .iaload, 1), (14, .if_icmp .ge 88, 3), (17, .aload_n 0, 1), (18, .invokevirtual 147, 3), (21, .aload_n 0, 1), (22, .getfield 13, 3), (25, .bipush 7, 2), (27, .iload_n 3, 1), (28, .iadd, 1), (29, .iconst 0, 1), (30, .iastore, 1), (31, .aload_n 0, 1), (32, .getfield 13, 3), (35, .bipush 21, 2), (37, .iload_n 3, 1), (38, .iadd, 1), (39, .iconst 0, 1), (40, .iastore, 1), (41, .aload_n 0, 1), (42, .bipush 28, 2), (44, .aload_n 0, 1), (45, .getfield 7, 3), (48, .iconst 5, 1), (49, .iaload, 1), (50, .invokevirtual 150, 3), (53, .istore 4, 2), (55, .iload_n 2, 1), (56, .iconst (-1), 1), (57, .if_icmp .eq 9, 3), (60, .iload 4, 2), (62, .iload_n 1, 1), (63, .if_icmp .ge 7, 3), (66, .iconst 1, 1), (67, .goto 4, 3), (70, .iconst 0, 1), (71, .istore 5, 2), (73, .iload 5, 2), (75, .ifCond .eq 7, 3), (78, .iload_n 3, 1), (79, .goto 4, 3), (82, .iload_n 2, 1), (83, .istore_n 2, 1), (84, .iload 5, 2), (86, .ifCond .eq 8, 3), (89, .iload 4, 2), (91, .goto 4, 3), (94, .iload_n 1, 1), (95, .istore_n 1, 1), (96, .iinc 3 1, 3), (99, .goto (-93), 3)]
theorem dtbX11_dear_0 : ∀ q ∈ tbX11_dear_0, decode cX11_dear q.1 = .ok q.2 := by decide +kernel
def tbX11_dear_1 : List (Nat × Instr × Nat) := [(102, .iload_n 2, 1), (103, .ireturn, 1)]
theorem dtbX11_dear_1 : ∀ q ∈ tbX11_dear_1, decode cX11_dear q.1 = .ok q.2 := by decide +kernel
def tbX11_note_0 : List (Nat × Instr × Nat) := [(0, .aload_n 0, 1), (1, .iload_n 1, 1), (2, .invokevirtual 139, 3), (5, .ifCond .eq 48, 3), (8, .iload_n 2, 1), (9, .iconst 1, 1), (10, .bipush 28, 2), (12, .invokestatic 40, 3), (15, .ifCond .eq 38, 3), (18, .iload_n 3, 1), (19, .iconst 1, 1), (20, .bipush 28, 2), (22, .invokestatic 40, 3), (25, .ifCond .eq 28, 3), (28, .iload 4, 2), (30, .iconst 0, 1), (31, .bipush 40, 2), (33, .invokestatic 40, 3), (36, .ifCond .eq 17, 3), (39, .iload 5, 2), (41, .sipush (-999), 3), (44, .sipush 999, 3), (47, .invokestatic 40, 3), (50, .ifCond .ne 8, 3), (53, .aload_n 0, 1), (54, .invokevirtual 44, 3), (57, .ireturn, 1), (58, .aload_n 0, 1), (59, .getfield 7, 3), (62, .bipush 28, 2), (64, .iaload, 1), (65, .bipush 6, 2), (67, .if_icmp .ne 8, 3), (70, .aload_n 0, 1), (71, .invokevirtual 48, 3), (74, .ireturn, 1), (75, .bipush 29, 2), (77, .iconst 5, 1), (78, .aload_n 0, 1), (79, .getfield 7, 3), (82, .bipush 28, 2), (84, .iaload, 1), (85, .imul, 1), (86, .iadd, 1), (87, .istore 6, 2), (89, .aload_n 0, 1), (90, .getfield 7, 3), (93, .iload 6, 2), (95, .iload_n 1, 1), (96, .iastore, 1), (97, .aload_n 0, 1), (98, .getfield 7, 3), (101, .iload 6, 2), (103, .iconst 1, 1), (104, .iadd, 1), (105, .iload_n 2, 1), (106, .iastore, 1), (107, .aload_n 0, 1), (108, .getfield 7, 3), (111, .iload 6, 2)]
theorem dtbX11_note_0 : ∀ q ∈ tbX11_note_0, decode cX11_note q.1 = .ok q.2 := by decide +kernel
def tbX11_note_1 : List (Nat × Instr × Nat) := [(113, .iconst 2, 1), (114, .iadd, 1), (115, .iload_n 3, 1), (116, .iastore, 1), (117, .aload_n 0, 1), (118, .getfield 7, 3), (121, .iload 6, 2), (123, .iconst 3, 1), (124, .iadd, 1), (125, .iload 4, 2), (127, .iastore, 1), (128, .aload_n 0, 1), (129, .getfield 7, 3), (132, .iload 6, 2), (134, .iconst 4, 1), (135, .iadd, 1), (136, .iload 5, 2), (138, .iastore, 1), (139, .aload_n 0, 1), (140, .getfield 7, 3), (143, .bipush 28, 2), (145, .dup2, 1), (146, .iaload, 1), (147, .iconst 1, 1), (148, .iadd, 1), (149, .iastore, 1), (150, .aload_n 0, 1), (151, .getfield 7, 3), (154, .bipush 28, 2), (156, .iaload, 1), (157, .ireturn, 1)]
theorem dtbX11_note_1 : ∀ q ∈ tbX11_note_1, decode cX11_note q.1 = .ok q.2 := by decide +kernel
def tbX11_forget_0 : List (Nat × Instr × Nat) := [(0, .aload_n 0, 1), (1, .getfield 7, 3), (4, .bipush 28, 2), (6, .iaload, 1), (7, .istore_n 1, 1), (8, .aload_n 0, 1), (9, .getfield 7, 3), (12, .bipush 28, 2), (14, .iconst 0, 1), (15, .iastore, 1), (16, .iload_n 1, 1), (17, .ireturn, 1)]
theorem dtbX11_forget_0 : ∀ q ∈ tbX11_forget_0, decode cX11_forget q.1 = .ok q.2 := by decide +kernel
def tbX11_kindsOf_0 : List (Nat × Instr × Nat) := [(0, .iconst 0, 1), (1, .istore_n 2, 1), (2, .iconst 0, 1), (3, .istore_n 3, 1), (4, .iload_n 3, 1), (5, .bipush 6, 2), (7, .if_icmp .ge 151, 3), (10, .iconst 1, 1), (11, .istore 4, 2), (13, .iconst 0, 1), (14, .istore 5, 2), (16, .iload 5, 2), (18, .aload_n 0, 1), (19, .getfield 7, 3), (22, .bipush 28, 2), (24, .iaload, 1), (25, .if_icmp .ge 112, 3), (28, .bipush 29, 2), (30, .iconst 5, 1), (31, .iload 5, 2), (33, .imul, 1), (34, .iadd, 1), (35, .istore 6, 2), (37, .iload_n 3, 1), (38, .aload_n 0, 1), (39, .getfield 7, 3), (42, .iload 6, 2), (44, .iconst 1, 1), (45, .iadd, 1), (46, .iaload, 1), (47, .invokestatic 121, 3), (50, .aload_n 0, 1), (51, .getfield 7, 3), (54, .iload 6, 2), (56, .iconst 2, 1), (57, .iadd, 1), (58, .iaload, 1), (59, .if_icmp .ne 41, 3), (62, .iload_n 3, 1), (63, .aload_n 0, 1), (64, .getfield 7, 3), (67, .bipush 21, 2), (69, .iload_n 1, 1), (70, .iadd, 1), (71, .iaload, 1), (72, .aload_n 0, 1), (73, .getfield 7, 3), (76, .iload 6, 2), (78, .iconst 3, 1), (79, .iadd, 1), (80, .iaload, 1), (81, .invokestatic 117, 3), (84, .aload_n 0, 1), (85, .getfield 7, 3), (88, .iload 6, 2), (90, .iconst 4, 1), (91, .iadd, 1), (92, .iaload, 1), (93, .if_icmp .ne 7, 3), (96, .iconst 1, 1)]
theorem dtbX11_kindsOf_0 : ∀ q ∈ tbX11_kindsOf_0, decode cX11_kindsOf q.1 = .ok q.2 := by decide +kernel
def tbX11_kindsOf_1 : List (Nat × Instr × Nat) := [(97, .goto 4, 3), (100, .iconst 0, 1), (101, .istore 7, 2), (103, .iload 4, 2), (105, .ifCond .eq 23, 3), (108, .aload_n 0, 1), (109, .getfield 7, 3), (112, .iload 6, 2), (114, .iaload, 1), (115, .iload_n 1, 1), (116, .if_icmp .ne 8, 3), (119, .iload 7, 2), (121, .ifCond .eq 7, 3), (124, .iconst 1, 1), (125, .goto 4, 3), (128, .iconst 0, 1), (129, .istore 4, 2), (131, .iinc 5 1, 3), (134, .goto (-118), 3), (137, .iload_n 2, 1), (138, .iload 4, 2), (140, .ifCond .eq 9, 3), (143, .iconst 1, 1), (144, .iload_n 3, 1), (145, .ishl, 1), (146, .goto 4, 3), (149, .iconst 0, 1), (150, .ior, 1), (151, .istore_n 2, 1), (152, .iinc 3 1, 3), (155, .goto (-151), 3), (158, .iload_n 2, 1), (159, .ireturn, 1)]
theorem dtbX11_kindsOf_1 : ∀ q ∈ tbX11_kindsOf_1, decode cX11_kindsOf q.1 = .ok q.2 := by decide +kernel
def tbX11_is_0 : List (Nat × Instr × Nat) := [(0, .aload_n 0, 1), (1, .iload_n 1, 1), (2, .invokevirtual 139, 3), (5, .ifCond .eq 11, 3), (8, .aload_n 0, 1), (9, .iload_n 1, 1), (10, .invokevirtual 156, 3), (13, .goto 7, 3), (16, .aload_n 0, 1), (17, .invokevirtual 44, 3), (20, .ireturn, 1)]
theorem dtbX11_is_0 : ∀ q ∈ tbX11_is_0, decode cX11_is q.1 = .ok q.2 := by decide +kernel
def tbX11_alikeBy_0 : List (Nat × Instr × Nat) := [(0, .iconst 0, 1), (1, .istore 5, 2), (3, .iconst 0, 1), (4, .istore 6, 2), (6, .iload 6, 2), (8, .bipush 6, 2), (10, .if_icmp .ge 105, 3), (13, .iload 6, 2), (15, .aload_n 0, 1), (16, .getfield 7, 3), (19, .bipush 14, 2), (21, .iload_n 2, 1), (22, .iadd, 1), (23, .iaload, 1), (24, .invokestatic 121, 3), (27, .iload_n 3, 1), (28, .aload_n 0, 1), (29, .getfield 7, 3), (32, .bipush 14, 2), (34, .iload_n 2, 1), (35, .iadd, 1), (36, .iaload, 1), (37, .invokestatic 121, 3), (40, .if_icmp .ne 41, 3), (43, .iload 6, 2), (45, .aload_n 0, 1), (46, .getfield 7, 3), (49, .bipush 21, 2), (51, .iload_n 2, 1), (52, .iadd, 1), (53, .iaload, 1), (54, .iload 4, 2), (56, .invokestatic 117, 3), (59, .iload_n 3, 1), (60, .aload_n 0, 1), (61, .getfield 7, 3), (64, .bipush 21, 2), (66, .iload_n 2, 1), (67, .iadd, 1), (68, .iaload, 1), (69, .iload 4, 2), (71, .invokestatic 117, 3), (74, .if_icmp .ne 7, 3), (77, .iconst 1, 1), (78, .goto 4, 3), (81, .iconst 0, 1), (82, .istore 7, 2), (84, .iload 5, 2), (86, .iload_n 1, 1), (87, .iload 6, 2), (89, .ishr, 1), (90, .iconst 1, 1), (91, .iand, 1), (92, .iconst 1, 1), (93, .if_icmp .ne 12, 3), (96, .iload 7, 2), (98, .ifCond .eq 7, 3), (101, .iconst 1, 1), (102, .goto 4, 3), (105, .iconst 0, 1)]
theorem dtbX11_alikeBy_0 : ∀ q ∈ tbX11_alikeBy_0, decode cX11_alikeBy q.1 = .ok q.2 := by decide +kernel
def tbX11_alikeBy_1 : List (Nat × Instr × Nat) := [(106, .iadd, 1), (107, .istore 5, 2), (109, .iinc 6 1, 3), (112, .goto (-106), 3), (115, .iload 5, 2), (117, .ireturn, 1)]
theorem dtbX11_alikeBy_1 : ∀ q ∈ tbX11_alikeBy_1, decode cX11_alikeBy q.1 = .ok q.2 := by decide +kernel
end
section
def tbX11_look_0 : List (Nat × Instr × Nat) := [(0, .aload_n 0, 1), (1, .iload_n 1, 1), (2, .invokevirtual 139, 3), (5, .ifCond .ne 8, 3), (8, .aload_n 0, 1), (9, .invokevirtual 44, 3), (12, .ireturn, 1), (13, .aload_n 0, 1), (14, .iload_n 1, 1), (15, .invokevirtual 156, 3), (18, .istore_n 2, 1), (19, .iconst (-1), 1), (20, .istore_n 3, 1), (21, .bipush 99, 2), (23, .istore 4, 2), (25, .iconst 0, 1), (26, .istore 5, 2), (28, .iload 5, 2), (30, .bipush 12, 2), (32, .if_icmp .gt 104, 3), (35, .iload_n 2, 1), (36, .ifCond .eq 100, 3), (39, .iconst 0, 1), (40, .istore 6, 2), (42, .iconst 0, 1), (43, .istore 7, 2), (45, .iload 7, 2), (47, .bipush 6, 2), (49, .if_icmp .ge 51, 3), (52, .iload_n 2, 1), (53, .iload 7, 2), (55, .ishr, 1), (56, .iconst 1, 1), (57, .iand, 1), (58, .iconst 1, 1), (59, .if_icmp .ne 16, 3), (62, .aload_n 0, 1), (63, .iload_n 2, 1), (64, .iload_n 1, 1), (65, .iload 7, 2), (67, .iload 5, 2), (69, .invokevirtual 159, 3), (72, .goto 4, 3), (75, .iconst 0, 1), (76, .istore 8, 2), (78, .iload 8, 2), (80, .iload 6, 2), (82, .if_icmp .le 8, 3), (85, .iload 8, 2), (87, .goto 5, 3), (90, .iload 6, 2), (92, .istore 6, 2), (94, .iinc 7 1, 3), (97, .goto (-52), 3), (100, .iload 6, 2), (102, .iload 4, 2), (104, .if_icmp .ge 8, 3), (107, .iload 5, 2), (109, .goto 4, 3), (112, .iload_n 3, 1)]
theorem dtbX11_look_0 : ∀ q ∈ tbX11_look_0, decode cX11_look q.1 = .ok q.2 := by decide +kernel
def tbX11_look_1 : List (Nat × Instr × Nat) := [(113, .istore_n 3, 1), (114, .iload 6, 2), (116, .iload 4, 2), (118, .if_icmp .ge 8, 3), (121, .iload 6, 2), (123, .goto 5, 3), (126, .iload 4, 2), (128, .istore 4, 2), (130, .iinc 5 1, 3), (133, .goto (-105), 3), (136, .iload_n 3, 1), (137, .ireturn, 1)]
theorem dtbX11_look_1 : ∀ q ∈ tbX11_look_1, decode cX11_look q.1 = .ok q.2 := by decide +kernel
def tbX11_gets_0 : List (Nat × Instr × Nat) := [(0, .aload_n 0, 1), (1, .invokevirtual 147, 3), (4, .iconst 3, 1), (5, .iload_n 2, 1), (6, .imul, 1), (7, .aload_n 0, 1), (8, .iload_n 1, 1), (9, .aload_n 0, 1), (10, .getfield 7, 3), (13, .iconst 5, 1), (14, .iaload, 1), (15, .iload_n 2, 1), (16, .iadd, 1), (17, .iload_n 3, 1), (18, .iadd, 1), (19, .invokevirtual 150, 3), (22, .isub, 1), (23, .ireturn, 1)]
theorem dtbX11_gets_0 : ∀ q ∈ tbX11_gets_0, decode cX11_gets q.1 = .ok q.2 := by decide +kernel
def tbX11_rests_0 : List (Nat × Instr × Nat) := [(0, .iconst 1, 1), (1, .istore 4, 2), (3, .iconst 0, 1), (4, .istore 5, 2), (6, .iload 5, 2), (8, .iconst 4, 1), (9, .if_icmp .ge 57, 3), (12, .iload 4, 2), (14, .ifCond .eq 43, 3), (17, .aload_n 0, 1), (18, .iload_n 1, 1), (19, .iload 5, 2), (21, .iload_n 3, 1), (22, .invokevirtual 163, 3), (25, .aload_n 0, 1), (26, .iload_n 1, 1), (27, .iload_n 2, 1), (28, .iload_n 3, 1), (29, .invokevirtual 163, 3), (32, .if_icmp .gt 25, 3), (35, .aload_n 0, 1), (36, .iload_n 1, 1), (37, .iload 5, 2), (39, .iload_n 2, 1), (40, .invokevirtual 163, 3), (43, .aload_n 0, 1), (44, .iload_n 1, 1), (45, .iload_n 3, 1), (46, .iload_n 2, 1), (47, .invokevirtual 163, 3), (50, .if_icmp .gt 7, 3), (53, .iconst 1, 1), (54, .goto 4, 3), (57, .iconst 0, 1), (58, .istore 4, 2), (60, .iinc 5 1, 3), (63, .goto (-57), 3), (66, .iload 4, 2), (68, .ireturn, 1)]
theorem dtbX11_rests_0 : ∀ q ∈ tbX11_rests_0, decode cX11_rests q.1 = .ok q.2 := by decide +kernel
def tbX11_two_0 : List (Nat × Instr × Nat) := [(0, .iload_n 1, 1), (1, .iconst 1, 1), (2, .bipush 28, 2), (4, .invokestatic 40, 3), (7, .ifCond .eq 8, 3), (10, .iload_n 2, 1), (11, .iconst (-1), 1), (12, .if_icmp .ge 10, 3), (15, .aload_n 0, 1), (16, .bipush (-10), 2), (18, .invokevirtual 143, 3), (21, .ireturn, 1), (22, .iconst 0, 1), (23, .istore_n 3, 1), (24, .iconst 0, 1), (25, .istore 4, 2), (27, .iload 4, 2), (29, .bipush 16, 2), (31, .if_icmp .ge 36, 3), (34, .aload_n 0, 1), (35, .iload_n 1, 1), (36, .iload 4, 2), (38, .iconst 4, 1), (39, .idiv, 1), (40, .iload 4, 2), (42, .iconst 4, 1), (43, .irem, 1), (44, .invokevirtual 166, 3), (47, .ifCond .eq 14, 3), (50, .iload_n 3, 1), (51, .iload_n 2, 1), (52, .if_icmp .ne 6, 3), (55, .iload 4, 2), (57, .ireturn, 1), (58, .iinc 3 1, 3), (61, .iinc 4 1, 3), (64, .goto (-37), 3), (67, .iload_n 2, 1), (68, .iconst (-1), 1), (69, .if_icmp .ne 7, 3), (72, .iload_n 3, 1), (73, .goto 5, 3), (76, .bipush (-5), 2), (78, .ireturn, 1)]
theorem dtbX11_two_0 : ∀ q ∈ tbX11_two_0, decode cX11_two q.1 = .ok q.2 := by decide +kernel
def tbX11_boiler_0 : List (Nat × Instr × Nat) := [(0, .iload_n 1, 1), (1, .iconst 0, 1), (2, .sipush 999, 3), (5, .invokestatic 40, 3), (8, .ifCond .eq 23, 3), (11, .iload_n 2, 1), (12, .iconst 0, 1), (13, .bipush 99, 2), (15, .invokestatic 40, 3), (18, .ifCond .eq 13, 3), (21, .iload_n 3, 1), (22, .iconst 0, 1), (23, .bipush 10, 2), (25, .invokestatic 40, 3), (28, .ifCond .ne 8, 3), (31, .aload_n 0, 1), (32, .invokevirtual 44, 3), (35, .ireturn, 1), (36, .aload_n 0, 1), (37, .invokevirtual 147, 3), (40, .ldc2_w 169, 3), (43, .iload_n 3, 1), (44, .i2l, 1), (45, .lsub, 1), (46, .aload_n 0, 1), (47, .iload_n 2, 1), (48, .aload_n 0, 1), (49, .getfield 7, 3), (52, .iconst 5, 1), (53, .iaload, 1), (54, .invokevirtual 150, 3), (57, .i2l, 1), (58, .lmul, 1), (59, .lstore 4, 2), (61, .aload_n 0, 1), (62, .invokevirtual 147, 3), (65, .aload_n 0, 1), (66, .getfield 13, 3), (69, .iconst 0, 1), (70, .dup2, 1), (71, .iaload, 1), (72, .iload_n 1, 1), (73, .isub, 1), (74, .iastore, 1), (75, .lload 4, 2), (77, .iload_n 3, 1), (78, .i2l, 1), (79, .aload_n 0, 1), (80, .iload_n 2, 1), (81, .aload_n 0, 1), (82, .getfield 7, 3), (85, .iconst 5, 1), (86, .iaload, 1), (87, .invokevirtual 150, 3), (90, .i2l, 1), (91, .lmul, 1), (92, .ladd, 1), (93, .lstore 4, 2), (95, .lload 4, 2), (97, .lstore 6, 2)]
theorem dtbX11_boiler_0 : ∀ q ∈ tbX11_boiler_0, decode cX11_boiler q.1 = .ok q.2 := by decide +kernel
def tbX11_boiler_1 : List (Nat × Instr × Nat) := [(99, .ldc2_w 169, 3), (102, .lstore 8, 2), (104, .lload 8, 2), (106, .lconst 0, 1), (107, .lcmp, 1), (108, .ifCond .le 21, 3), (111, .lload 6, 2), (113, .lload 8, 2), (115, .lrem, 1), (116, .lstore 10, 2), (118, .lload 8, 2), (120, .lstore 6, 2), (122, .lload 10, 2), (124, .lstore 8, 2), (126, .goto (-22), 3), (129, .aload_n 0, 1), (130, .lload 4, 2), (132, .lload 6, 2), (134, .ldiv, 1), (135, .putfield 171, 3), (138, .aload_n 0, 1), (139, .ldc2_w 169, 3), (142, .lload 6, 2), (144, .ldiv, 1), (145, .putfield 29, 3), (148, .iconst 1, 1), (149, .ireturn, 1)]
theorem dtbX11_boiler_1 : ∀ q ∈ tbX11_boiler_1, decode cX11_boiler q.1 = .ok q.2 := by decide +kernel
def tbX11_years_0 : List (Nat × Instr × Nat) := [(0, .iload_n 1, 1), (1, .iconst 0, 1), (2, .ldc 174, 2), (4, .invokestatic 40, 3), (7, .ifCond .eq 13, 3), (10, .iload_n 2, 1), (11, .iconst 0, 1), (12, .bipush 60, 2), (14, .invokestatic 40, 3), (17, .ifCond .ne 10, 3), (20, .aload_n 0, 1), (21, .ldc 146, 2), (23, .invokevirtual 143, 3), (26, .ireturn, 1), (27, .aload_n 0, 1), (28, .invokevirtual 147, 3), (31, .iload_n 1, 1), (32, .i2l, 1), (33, .lstore_n 3, 1), (34, .iconst 0, 1), (35, .istore 5, 2), (37, .iload 5, 2), (39, .iload_n 2, 1), (40, .if_icmp .ge 40, 3), (43, .lload_n 3, 1), (44, .ldc2_w 175, 3), (47, .lmul, 1), (48, .ldc2_w 177, 3), (51, .ladd, 1), (52, .ldc2_w 179, 3), (55, .lrem, 1), (56, .lstore_n 3, 1), (57, .aload_n 0, 1), (58, .getfield 13, 3), (61, .lload_n 3, 1), (62, .ldc2_w 181, 3), (65, .ldiv, 1), (66, .ldc2_w 183, 3), (69, .lrem, 1), (70, .l2i, 1), (71, .invokestatic 132, 3), (74, .iinc 5 1, 3), (77, .goto (-40), 3), (80, .aload_n 0, 1), (81, .getfield 13, 3), (84, .iconst 0, 1), (85, .iaload, 1), (86, .ireturn, 1)]
theorem dtbX11_years_0 : ∀ q ∈ tbX11_years_0, decode cX11_years q.1 = .ok q.2 := by decide +kernel
def tbX11_part_0 : List (Nat × Instr × Nat) := [(0, .iload_n 1, 1), (1, .ifCond .ne 10, 3), (4, .aload_n 0, 1), (5, .getfield 171, 3), (8, .goto 20, 3), (11, .iload_n 1, 1), (12, .iconst 1, 1), (13, .if_icmp .ne 10, 3), (16, .aload_n 0, 1), (17, .getfield 29, 3), (20, .goto 8, 3), (23, .aload_n 0, 1), (24, .invokevirtual 44, 3), (27, .i2l, 1), (28, .lreturn, 1)]
theorem dtbX11_part_0 : ∀ q ∈ tbX11_part_0, decode cX11_part q.1 = .ok q.2 := by decide +kernel
def tbX11_image_0 : List (Nat × Instr × Nat) := [(0, .iload_n 1, 1), (1, .iconst 0, 1), (2, .iconst 1, 1), (3, .invokestatic 40, 3), (6, .ifCond .ne 8, 3), (9, .aload_n 0, 1), (10, .invokevirtual 44, 3), (13, .ireturn, 1), (14, .aload_n 0, 1), (15, .getfield 7, 3), (18, .iconst 0, 1), (19, .aload_n 0, 1), (20, .getfield 19, 3), (23, .bipush 108, 2), (25, .iload_n 1, 1), (26, .imul, 1), (27, .bipush 108, 2), (29, .invokestatic 113, 3), (32, .aload_n 0, 1), (33, .getfield 22, 3), (36, .iload_n 1, 1), (37, .iconst 1, 1), (38, .bastore, 1), (39, .iconst 1, 1), (40, .ireturn, 1)]
theorem dtbX11_image_0 : ∀ q ∈ tbX11_image_0, decode cX11_image q.1 = .ok q.2 := by decide +kernel
def tbX11_from_0 : List (Nat × Instr × Nat) := [(0, .iload_n 1, 1), (1, .iconst 0, 1), (2, .iconst 1, 1), (3, .invokestatic 40, 3), (6, .ifCond .ne 8, 3), (9, .aload_n 0, 1), (10, .invokevirtual 44, 3), (13, .ireturn, 1), (14, .aload_n 0, 1), (15, .getfield 22, 3), (18, .iload_n 1, 1), (19, .baload, 1), (20, .ifCond .ne 8, 3), (23, .aload_n 0, 1), (24, .invokevirtual 136, 3), (27, .ireturn, 1), (28, .aload_n 0, 1), (29, .getfield 19, 3), (32, .bipush 108, 2), (34, .iload_n 1, 1), (35, .imul, 1), (36, .aload_n 0, 1), (37, .getfield 7, 3), (40, .iconst 0, 1), (41, .bipush 108, 2), (43, .invokestatic 113, 3), (46, .iconst 1, 1), (47, .ireturn, 1)]
theorem dtbX11_from_0 : ∀ q ∈ tbX11_from_0, decode cX11_from q.1 = .ok q.2 := by decide +kernel
def tbX11_status_0 : List (Nat × Instr × Nat) := [(0, .iload_n 1, 1), (1, .iconst 0, 1), (2, .iconst 2, 1), (3, .invokestatic 40, 3), (6, .ifCond .eq 12, 3), (9, .aload_n 0, 1), (10, .getfield 26, 3), (13, .iload_n 1, 1), (14, .iaload, 1), (15, .goto 8, 3), (18, .aload_n 0, 1), (19, .iconst (-1), 1), (20, .invokevirtual 143, 3), (23, .ireturn, 1)]
theorem dtbX11_status_0 : ∀ q ∈ tbX11_status_0, decode cX11_status q.1 = .ok q.2 := by decide +kernel
def tbX11_counted_0 : List (Nat × Instr × Nat) := [(0, .iload_n 1, 1), (1, .ifCond .ne 13, 3), (4, .aload_n 0, 1), (5, .getfield 7, 3), (8, .bipush 6, 2), (10, .iaload, 1), (11, .goto 37, 3), (14, .iload_n 1, 1), (15, .iconst 1, 1), (16, .if_icmp .ne 13, 3), (19, .aload_n 0, 1), (20, .getfield 7, 3), (23, .bipush 28, 2), (25, .iaload, 1), (26, .goto 22, 3), (29, .iload_n 1, 1), (30, .iconst 2, 1), (31, .if_icmp .ne 13, 3), (34, .aload_n 0, 1), (35, .getfield 7, 3), (38, .bipush 59, 2), (40, .iaload, 1), (41, .goto 7, 3), (44, .aload_n 0, 1), (45, .getfield 55, 3), (48, .ireturn, 1)]
theorem dtbX11_counted_0 : ∀ q ∈ tbX11_counted_0, decode cX11_counted q.1 = .ok q.2 := by decide +kernel
def tbX11_count_0 : List (Nat × Instr × Nat) := [(0, .iload_n 1, 1), (1, .iconst 0, 1), (2, .iconst 3, 1), (3, .invokestatic 40, 3), (6, .ifCond .eq 11, 3), (9, .aload_n 0, 1), (10, .iload_n 1, 1), (11, .invokevirtual 185, 3), (14, .goto 7, 3), (17, .aload_n 0, 1), (18, .invokevirtual 44, 3), (21, .ireturn, 1)]
theorem dtbX11_count_0 : ∀ q ∈ tbX11_count_0, decode cX11_count q.1 = .ok q.2 := by decide +kernel
def tbX11_digest_0 : List (Nat × Instr × Nat) := [(0, .ldc2_w 188, 3), (3, .lstore_n 1, 1), (4, .iconst 0, 1), (5, .istore_n 3, 1), (6, .iload_n 3, 1), (7, .iconst 4, 1), (8, .if_icmp .ge 22, 3), (11, .ldc2_w 183, 3), (14, .lload_n 1, 1), (15, .lmul, 1), (16, .aload_n 0, 1), (17, .iload_n 3, 1), (18, .invokevirtual 185, 3), (21, .i2l, 1), (22, .ladd, 1), (23, .lstore_n 1, 1), (24, .iinc 3 1, 3), (27, .goto (-21), 3), (30, .iconst 0, 1), (31, .istore_n 3, 1), (32, .iload_n 3, 1), (33, .bipush 6, 2), (35, .if_icmp .ge 23, 3), (38, .ldc2_w 183, 3), (41, .lload_n 1, 1), (42, .lmul, 1), (43, .aload_n 0, 1), (44, .getfield 7, 3), (47, .iload_n 3, 1), (48, .iaload, 1), (49, .i2l, 1), (50, .ladd, 1), (51, .lstore_n 1, 1), (52, .iinc 3 1, 3), (55, .goto (-23), 3), (58, .iconst 0, 1), (59, .istore_n 3, 1), (60, .iload_n 3, 1), (61, .aload_n 0, 1), (62, .getfield 7, 3), (65, .bipush 6, 2), (67, .iaload, 1), (68, .if_icmp .ge 60, 3), (71, .ldc2_w 183, 3), (74, .lload_n 1, 1), (75, .lmul, 1), (76, .aload_n 0, 1), (77, .getfield 7, 3), (80, .bipush 7, 2), (82, .iload_n 3, 1), (83, .iadd, 1), (84, .iaload, 1), (85, .i2l, 1), (86, .ladd, 1), (87, .lstore_n 1, 1), (88, .ldc2_w 183, 3), (91, .lload_n 1, 1), (92, .lmul, 1), (93, .aload_n 0, 1), (94, .getfield 7, 3)]
theorem dtbX11_digest_0 : ∀ q ∈ tbX11_digest_0, decode cX11_digest q.1 = .ok q.2 := by decide +kernel
def tbX11_digest_1 : List (Nat × Instr × Nat) := [(97, .bipush 14, 2), (99, .iload_n 3, 1), (100, .iadd, 1), (101, .iaload, 1), (102, .i2l, 1), (103, .ladd, 1), (104, .lstore_n 1, 1), (105, .ldc2_w 183, 3), (108, .lload_n 1, 1), (109, .lmul, 1), (110, .aload_n 0, 1), (111, .getfield 7, 3), (114, .bipush 21, 2), (116, .iload_n 3, 1), (117, .iadd, 1), (118, .iaload, 1), (119, .i2l, 1), (120, .ladd, 1), (121, .lstore_n 1, 1), (122, .iinc 3 1, 3), (125, .goto (-65), 3), (128, .iconst 0, 1), (129, .istore_n 3, 1), (130, .iload_n 3, 1), (131, .iconst 5, 1), (132, .aload_n 0, 1), (133, .getfield 7, 3), (136, .bipush 28, 2), (138, .iaload, 1), (139, .imul, 1), (140, .if_icmp .ge 26, 3), (143, .ldc2_w 183, 3), (146, .lload_n 1, 1), (147, .lmul, 1), (148, .aload_n 0, 1), (149, .getfield 7, 3), (152, .bipush 29, 2), (154, .iload_n 3, 1), (155, .iadd, 1), (156, .iaload, 1), (157, .i2l, 1), (158, .ladd, 1), (159, .lstore_n 1, 1), (160, .iinc 3 1, 3), (163, .goto (-33), 3), (166, .ldc2_w 183, 3), (169, .ldc2_w 183, 3), (172, .lload_n 1, 1), (173, .lmul, 1), (174, .aload_n 0, 1), (175, .getfield 171, 3), (178, .ladd, 1), (179, .lmul, 1), (180, .aload_n 0, 1), (181, .getfield 29, 3), (184, .ladd, 1), (185, .lreturn, 1)]
theorem dtbX11_digest_1 : ∀ q ∈ tbX11_digest_1, decode cX11_digest q.1 = .ok q.2 := by decide +kernel
def tbJ9_floorDiv_7cf53_0 : List (Nat × Instr × Nat) := [(0, .iload_n 0, 1), (1, .iload_n 1, 1), (2, .idiv, 1), (3, .istore_n 2, 1), (4, .iload_n 0, 1), (5, .iload_n 1, 1), (6, .ixor, 1), (7, .ifCond .ge 14, 3), (10, .iload_n 2, 1), (11, .iload_n 1, 1), (12, .imul, 1), (13, .iload_n 0, 1), (14, .if_icmp .eq 7, 3), (17, .iload_n 2, 1), (18, .iconst 1, 1), (19, .isub, 1), (20, .ireturn, 1), (21, .iload_n 2, 1), (22, .ireturn, 1)]
theorem dtbJ9_floorDiv_7cf53_0 : ∀ q ∈ tbJ9_floorDiv_7cf53_0, decode cJ9_floorDiv_7cf53 q.1 = .ok q.2 := by decide +kernel
def tbJ9_floorMod_7cf53_0 : List (Nat × Instr × Nat) := [(0, .iload_n 0, 1), (1, .iload_n 1, 1), (2, .irem, 1), (3, .istore_n 2, 1), (4, .iload_n 0, 1), (5, .iload_n 1, 1), (6, .ixor, 1), (7, .ifCond .ge 11, 3), (10, .iload_n 2, 1), (11, .ifCond .eq 7, 3), (14, .iload_n 2, 1), (15, .iload_n 1, 1), (16, .iadd, 1), (17, .ireturn, 1), (18, .iload_n 2, 1), (19, .ireturn, 1)]
theorem dtbJ9_floorMod_7cf53_0 : ∀ q ∈ tbJ9_floorMod_7cf53_0, decode cJ9_floorMod_7cf53 q.1 = .ok q.2 := by decide +kernel
def tbJ9_max_7cf53_0 : List (Nat × Instr × Nat) := [(0, .iload_n 0, 1), (1, .iload_n 1, 1), (2, .if_icmp .lt 7, 3), (5, .iload_n 0, 1), (6, .goto 4, 3), (9, .iload_n 1, 1), (10, .ireturn, 1)]
theorem dtbJ9_max_7cf53_0 : ∀ q ∈ tbJ9_max_7cf53_0, decode cJ9_max_7cf53 q.1 = .ok q.2 := by decide +kernel
def tbJ9_min_7cf53_0 : List (Nat × Instr × Nat) := [(0, .iload_n 0, 1), (1, .iload_n 1, 1), (2, .if_icmp .gt 7, 3), (5, .iload_n 0, 1), (6, .goto 4, 3), (9, .iload_n 1, 1), (10, .ireturn, 1)]
theorem dtbJ9_min_7cf53_0 : ∀ q ∈ tbJ9_min_7cf53_0, decode cJ9_min_7cf53 q.1 = .ok q.2 := by decide +kernel
def tbJ0_length_8abf5_0 : List (Nat × Instr × Nat) := [(0, .aload_n 0, 1), (1, .getfield 9, 3), (4, .arraylength, 1), (5, .aload_n 0, 1), (6, .invokevirtual 335, 3), (9, .ishr, 1), (10, .ireturn, 1)]
theorem dtbJ0_length_8abf5_0 : ∀ q ∈ tbJ0_length_8abf5_0, decode cJ0_length_8abf5 q.1 = .ok q.2 := by decide +kernel
def tbJ0_charAt_5068e_0 : List (Nat × Instr × Nat) := [(0, .aload_n 0, 1), (1, .invokevirtual 492, 3), (4, .ifCond .eq 12, 3), (7, .aload_n 0, 1), (8, .getfield 9, 3), (11, .iload_n 1, 1), (12, .invokestatic 495, 3), (15, .ireturn, 1), (16, .aload_n 0, 1), (17, .getfield 9, 3), (20, .iload_n 1, 1), (21, .invokestatic 498, 3), (24, .ireturn, 1)]
theorem dtbJ0_charAt_5068e_0 : ∀ q ∈ tbJ0_charAt_5068e_0, decode cJ0_charAt_5068e q.1 = .ok q.2 := by decide +kernel
def tbJ0_coder_7d493_0 : List (Nat × Instr × Nat) := [(0, .getstatic 38, 3), (3, .ifCond .eq 10, 3), (6, .aload_n 0, 1), (7, .getfield 15, 3), (10, .goto 4, 3), (13, .iconst 1, 1), (14, .ireturn, 1)]
theorem dtbJ0_coder_7d493_0 : ∀ q ∈ tbJ0_coder_7d493_0, decode cJ0_coder_7d493 q.1 = .ok q.2 := by decide +kernel
def tbJ0_isLatin1_aae02_0 : List (Nat × Instr × Nat) := [(0, .getstatic 38, 3), (3, .ifCond .eq 14, 3), (6, .aload_n 0, 1), (7, .getfield 15, 3), (10, .ifCond .ne 7, 3), (13, .iconst 1, 1), (14, .goto 4, 3), (17, .iconst 0, 1), (18, .ireturn, 1)]
theorem dtbJ0_isLatin1_aae02_0 : ∀ q ∈ tbJ0_isLatin1_aae02_0, decode cJ0_isLatin1_aae02 q.1 = .ok q.2 := by decide +kernel
def tbJ0_checkIndex_df160_0 : List (Nat × Instr × Nat) := [(0, .iload_n 0, 1), (1, .iload_n 1, 1), (2, .getstatic 1053, 3), (5, .invokestatic 1059, 3), (8, .pop, 1), (9, .return_, 1)]
theorem dtbJ0_checkIndex_df160_0 : ∀ q ∈ tbJ0_checkIndex_df160_0, decode cJ0_checkIndex_df160 q.1 = .ok q.2 := by decide +kernel
def tbJ1_charAt_3b067_0 : List (Nat × Instr × Nat) := [(0, .iload_n 1, 1), (1, .aload_n 0, 1), (2, .arraylength, 1), (3, .invokestatic 9, 3), (6, .aload_n 0, 1), (7, .iload_n 1, 1), (8, .baload, 1), (9, .sipush 255, 3), (12, .iand, 1), (13, .i2c, 1), (14, .ireturn, 1)]
theorem dtbJ1_charAt_3b067_0 : ∀ q ∈ tbJ1_charAt_3b067_0, decode cJ1_charAt_3b067 q.1 = .ok q.2 := by decide +kernel
def tbJ2_getChar_3b067_0 : List (Nat × Instr × Nat) := [(0, .getstatic 44, 3), (3, .ifCond .ne 25, 3), (6, .iload_n 1, 1), (7, .ifCond .lt 11, 3), (10, .iload_n 1, 1), (11, .aload_n 0, 1), (12, .invokestatic 48, 3), (15, .if_icmp .lt 13, 3), (18, .new 52, 3), (21, .dup, 1), (22, .ldc 54, 2), (24, .invokespecial 56, 3), (27, .athrow, 1), (28, .iload_n 1, 1), (29, .iconst 1, 1), (30, .ishl, 1), (31, .istore_n 1, 1), (32, .aload_n 0, 1), (33, .iload_n 1, 1), (34, .iinc 1 1, 3), (37, .baload, 1), (38, .sipush 255, 3), (41, .iand, 1), (42, .getstatic 59, 3), (45, .ishl, 1), (46, .aload_n 0, 1), (47, .iload_n 1, 1), (48, .baload, 1), (49, .sipush 255, 3), (52, .iand, 1), (53, .getstatic 63, 3), (56, .ishl, 1), (57, .ior, 1), (58, .i2c, 1), (59, .ireturn, 1)]
theorem dtbJ2_getChar_3b067_0 : ∀ q ∈ tbJ2_getChar_3b067_0, decode cJ2_getChar_3b067 q.1 = .ok q.2 := by decide +kernel
def tbJ2_length_9d52b_0 : List (Nat × Instr × Nat) := [(0, .aload_n 0, 1), (1, .arraylength, 1), (2, .iconst 1, 1), (3, .ishr, 1), (4, .ireturn, 1)]
theorem dtbJ2_length_9d52b_0 : ∀ q ∈ tbJ2_length_9d52b_0, decode cJ2_length_9d52b q.1 = .ok q.2 := by decide +kernel
def tbJ2_charAt_3b067_0 : List (Nat × Instr × Nat) := [(0, .iload_n 1, 1), (1, .aload_n 0, 1), (2, .invokestatic 67, 3), (5, .aload_n 0, 1), (6, .iload_n 1, 1), (7, .invokestatic 71, 3), (10, .ireturn, 1)]
theorem dtbJ2_charAt_3b067_0 : ∀ q ∈ tbJ2_charAt_3b067_0, decode cJ2_charAt_3b067 q.1 = .ok q.2 := by decide +kernel
def tbJ2_checkIndex_2214a_0 : List (Nat × Instr × Nat) := [(0, .iload_n 0, 1), (1, .aload_n 1, 1), (2, .invokestatic 48, 3), (5, .invokestatic 414, 3), (8, .return_, 1)]
theorem dtbJ2_checkIndex_2214a_0 : ∀ q ∈ tbJ2_checkIndex_2214a_0, decode cJ2_checkIndex_2214a q.1 = .ok q.2 := by decide +kernel
def tbJ7_fill_53178_0 : List (Nat × Instr × Nat) := [(0, .iconst 0, 1), (1, .istore_n 2, 1), (2, .aload_n 0, 1), (3, .arraylength, 1), (4, .istore_n 3, 1), (5, .iload_n 2, 1), (6, .iload_n 3, 1), (7, .if_icmp .ge 13, 3), (10, .aload_n 0, 1), (11, .iload_n 2, 1), (12, .iload_n 1, 1), (13, .iastore, 1), (14, .iinc 2 1, 3), (17, .goto (-12), 3), (20, .return_, 1)]
theorem dtbJ7_fill_53178_0 : ∀ q ∈ tbJ7_fill_53178_0, decode cJ7_fill_53178 q.1 = .ok q.2 := by decide +kernel
def tbJ3_checkIndex_8e157_0 : List (Nat × Instr × Nat) := [(0, .iload_n 0, 1), (1, .ifCond .lt 8, 3), (4, .iload_n 0, 1), (5, .iload_n 1, 1), (6, .if_icmp .lt 10, 3), (9, .aload_n 2, 1), (10, .iload_n 0, 1), (11, .iload_n 1, 1), (12, .invokestatic 95, 3), (15, .athrow, 1), (16, .iload_n 0, 1), (17, .ireturn, 1)]
theorem dtbJ3_checkIndex_8e157_0 : ∀ q ∈ tbJ3_checkIndex_8e157_0, decode cJ3_checkIndex_8e157 q.1 = .ok q.2 := by decide +kernel
def tbL_law_0 : List (Nat × Instr × Nat) := [(0, .new 7, 3), (3, .dup, 1), (4, .invokespecial 9, 3), (7, .astore_n 1, 1), (8, .new 10, 3), (11, .dup, 1), (12, .invokespecial 12, 3), (15, .astore_n 2, 1), (16, .iconst 0, 1), (17, .istore_n 3, 1), (18, .iload_n 3, 1), (19, .aload_n 0, 1), (20, .arraylength, 1), (21, .bipush 6, 2), (23, .isub, 1), (24, .if_icmp .gt 963, 3), (27, .aload_n 0, 1), (28, .iload_n 3, 1), (29, .iaload, 1), (30, .bipush 63, 2), (32, .iand, 1), (33, .tableswitch 948 0 32 #[147, 170, 213, 236, 249, 262, 285, 308, 331, 344, 377, 400, 413, 446, 479, 492, 515, 538, 551, 574, 587, 650, 663, 686, 709, 742, 785, 818, 842, 865, 888, 911, 934], 147), (180, .aload_n 1, 1), (181, .aload_n 0, 1), (182, .iload_n 3, 1), (183, .iconst 1, 1), (184, .iadd, 1), (185, .iaload, 1), (186, .invokevirtual 13, 3), (189, .aload_n 2, 1), (190, .aload_n 0, 1), (191, .iload_n 3, 1), (192, .iconst 1, 1), (193, .iadd, 1), (194, .iaload, 1), (195, .invokevirtual 17, 3), (198, .if_icmp .eq 783, 3), (201, .iconst 0, 1), (202, .ireturn, 1), (203, .aload_n 1, 1), (204, .aload_n 0, 1), (205, .iload_n 3, 1), (206, .iconst 1, 1), (207, .iadd, 1), (208, .iaload, 1), (209, .aload_n 0, 1), (210, .iload_n 3, 1), (211, .iconst 2, 1), (212, .iadd, 1), (213, .iaload, 1), (214, .aload_n 0, 1), (215, .iload_n 3, 1), (216, .iconst 3, 1), (217, .iadd, 1), (218, .iaload, 1), (219, .invokevirtual 18, 3), (222, .aload_n 2, 1), (223, .aload_n 0, 1), (224, .iload_n 3, 1), (225, .iconst 1, 1)]
theorem dtbL_law_0 : ∀ q ∈ tbL_law_0, decode cL_law q.1 = .ok q.2 := by decide +kernel
def tbL_law_1 : List (Nat × Instr × Nat) := [(226, .iadd, 1), (227, .iaload, 1), (228, .aload_n 0, 1), (229, .iload_n 3, 1), (230, .iconst 2, 1), (231, .iadd, 1), (232, .iaload, 1), (233, .aload_n 0, 1), (234, .iload_n 3, 1), (235, .iconst 3, 1), (236, .iadd, 1), (237, .iaload, 1), (238, .invokevirtual 22, 3), (241, .if_icmp .eq 740, 3), (244, .iconst 0, 1), (245, .ireturn, 1), (246, .aload_n 1, 1), (247, .aload_n 0, 1), (248, .iload_n 3, 1), (249, .iconst 1, 1), (250, .iadd, 1), (251, .iaload, 1), (252, .invokevirtual 23, 3), (255, .aload_n 2, 1), (256, .aload_n 0, 1), (257, .iload_n 3, 1), (258, .iconst 1, 1), (259, .iadd, 1), (260, .iaload, 1), (261, .invokevirtual 26, 3), (264, .if_icmp .eq 717, 3), (267, .iconst 0, 1), (268, .ireturn, 1), (269, .aload_n 1, 1), (270, .invokevirtual 27, 3), (273, .aload_n 2, 1), (274, .invokevirtual 31, 3), (277, .if_icmp .eq 704, 3), (280, .iconst 0, 1), (281, .ireturn, 1), (282, .aload_n 1, 1), (283, .invokevirtual 32, 3), (286, .aload_n 2, 1), (287, .invokevirtual 35, 3), (290, .if_icmp .eq 691, 3), (293, .iconst 0, 1), (294, .ireturn, 1), (295, .aload_n 1, 1), (296, .aload_n 0, 1), (297, .iload_n 3, 1), (298, .iconst 1, 1), (299, .iadd, 1), (300, .iaload, 1), (301, .invokevirtual 36, 3), (304, .aload_n 2, 1), (305, .aload_n 0, 1), (306, .iload_n 3, 1), (307, .iconst 1, 1), (308, .iadd, 1), (309, .iaload, 1)]
theorem dtbL_law_1 : ∀ q ∈ tbL_law_1, decode cL_law q.1 = .ok q.2 := by decide +kernel
def tbL_law_2 : List (Nat × Instr × Nat) := [(310, .invokevirtual 39, 3), (313, .if_icmp .eq 668, 3), (316, .iconst 0, 1), (317, .ireturn, 1), (318, .aload_n 1, 1), (319, .aload_n 0, 1), (320, .iload_n 3, 1), (321, .iconst 1, 1), (322, .iadd, 1), (323, .iaload, 1), (324, .invokevirtual 40, 3), (327, .aload_n 2, 1), (328, .aload_n 0, 1), (329, .iload_n 3, 1), (330, .iconst 1, 1), (331, .iadd, 1), (332, .iaload, 1), (333, .invokevirtual 43, 3), (336, .if_icmp .eq 645, 3), (339, .iconst 0, 1), (340, .ireturn, 1), (341, .aload_n 1, 1), (342, .aload_n 0, 1), (343, .iload_n 3, 1), (344, .iconst 1, 1), (345, .iadd, 1), (346, .iaload, 1), (347, .invokevirtual 44, 3), (350, .aload_n 2, 1), (351, .aload_n 0, 1), (352, .iload_n 3, 1), (353, .iconst 1, 1), (354, .iadd, 1), (355, .iaload, 1), (356, .invokevirtual 47, 3), (359, .if_icmp .eq 622, 3), (362, .iconst 0, 1), (363, .ireturn, 1), (364, .aload_n 1, 1), (365, .invokevirtual 48, 3), (368, .aload_n 2, 1), (369, .invokevirtual 51, 3), (372, .if_icmp .eq 609, 3), (375, .iconst 0, 1), (376, .ireturn, 1), (377, .aload_n 1, 1), (378, .aload_n 0, 1), (379, .iload_n 3, 1), (380, .iconst 1, 1), (381, .iadd, 1), (382, .iaload, 1), (383, .aload_n 0, 1), (384, .iload_n 3, 1), (385, .iconst 2, 1), (386, .iadd, 1), (387, .iaload, 1), (388, .invokevirtual 52, 3), (391, .aload_n 2, 1), (392, .aload_n 0, 1), (393, .iload_n 3, 1)]
theorem dtbL_law_2 : ∀ q ∈ tbL_law_2, decode cL_law q.1 = .ok q.2 := by decide +kernel
def tbL_law_3 : List (Nat × Instr × Nat) := [(394, .iconst 1, 1), (395, .iadd, 1), (396, .iaload, 1), (397, .aload_n 0, 1), (398, .iload_n 3, 1), (399, .iconst 2, 1), (400, .iadd, 1), (401, .iaload, 1), (402, .invokevirtual 56, 3), (405, .if_icmp .eq 576, 3), (408, .iconst 0, 1), (409, .ireturn, 1), (410, .aload_n 1, 1), (411, .aload_n 0, 1), (412, .iload_n 3, 1), (413, .iconst 1, 1), (414, .iadd, 1), (415, .iaload, 1), (416, .invokevirtual 57, 3), (419, .aload_n 2, 1), (420, .aload_n 0, 1), (421, .iload_n 3, 1), (422, .iconst 1, 1), (423, .iadd, 1), (424, .iaload, 1), (425, .invokevirtual 60, 3), (428, .if_icmp .eq 553, 3), (431, .iconst 0, 1), (432, .ireturn, 1), (433, .aload_n 1, 1), (434, .invokevirtual 61, 3), (437, .aload_n 2, 1), (438, .invokevirtual 64, 3), (441, .if_icmp .eq 540, 3), (444, .iconst 0, 1), (445, .ireturn, 1), (446, .aload_n 1, 1), (447, .aload_n 0, 1), (448, .iload_n 3, 1), (449, .iconst 1, 1), (450, .iadd, 1), (451, .iaload, 1), (452, .aload_n 0, 1), (453, .iload_n 3, 1), (454, .iconst 2, 1), (455, .iadd, 1), (456, .iaload, 1), (457, .invokevirtual 65, 3), (460, .aload_n 2, 1), (461, .aload_n 0, 1), (462, .iload_n 3, 1), (463, .iconst 1, 1), (464, .iadd, 1), (465, .iaload, 1), (466, .aload_n 0, 1), (467, .iload_n 3, 1), (468, .iconst 2, 1), (469, .iadd, 1), (470, .iaload, 1), (471, .invokevirtual 68, 3)]
theorem dtbL_law_3 : ∀ q ∈ tbL_law_3, decode cL_law q.1 = .ok q.2 := by decide +kernel
def tbL_law_4 : List (Nat × Instr × Nat) := [(474, .if_icmp .eq 507, 3), (477, .iconst 0, 1), (478, .ireturn, 1), (479, .aload_n 1, 1), (480, .aload_n 0, 1), (481, .iload_n 3, 1), (482, .iconst 1, 1), (483, .iadd, 1), (484, .iaload, 1), (485, .aload_n 0, 1), (486, .iload_n 3, 1), (487, .iconst 2, 1), (488, .iadd, 1), (489, .iaload, 1), (490, .invokevirtual 69, 3), (493, .aload_n 2, 1), (494, .aload_n 0, 1), (495, .iload_n 3, 1), (496, .iconst 1, 1), (497, .iadd, 1), (498, .iaload, 1), (499, .aload_n 0, 1), (500, .iload_n 3, 1), (501, .iconst 2, 1), (502, .iadd, 1), (503, .iaload, 1), (504, .invokevirtual 72, 3), (507, .if_icmp .eq 474, 3), (510, .iconst 0, 1), (511, .ireturn, 1), (512, .aload_n 1, 1), (513, .invokevirtual 73, 3), (516, .aload_n 2, 1), (517, .invokevirtual 76, 3), (520, .if_icmp .eq 461, 3), (523, .iconst 0, 1), (524, .ireturn, 1), (525, .aload_n 1, 1), (526, .aload_n 0, 1), (527, .iload_n 3, 1), (528, .iconst 1, 1), (529, .iadd, 1), (530, .iaload, 1), (531, .invokevirtual 77, 3), (534, .aload_n 2, 1), (535, .aload_n 0, 1), (536, .iload_n 3, 1), (537, .iconst 1, 1), (538, .iadd, 1), (539, .iaload, 1), (540, .invokevirtual 80, 3), (543, .if_icmp .eq 438, 3), (546, .iconst 0, 1), (547, .ireturn, 1), (548, .aload_n 1, 1), (549, .aload_n 0, 1), (550, .iload_n 3, 1), (551, .iconst 1, 1), (552, .iadd, 1), (553, .iaload, 1)]
theorem dtbL_law_4 : ∀ q ∈ tbL_law_4, decode cL_law q.1 = .ok q.2 := by decide +kernel
def tbL_law_5 : List (Nat × Instr × Nat) := [(554, .invokevirtual 81, 3), (557, .aload_n 2, 1), (558, .aload_n 0, 1), (559, .iload_n 3, 1), (560, .iconst 1, 1), (561, .iadd, 1), (562, .iaload, 1), (563, .invokevirtual 84, 3), (566, .if_icmp .eq 415, 3), (569, .iconst 0, 1), (570, .ireturn, 1), (571, .aload_n 1, 1), (572, .invokevirtual 85, 3), (575, .aload_n 2, 1), (576, .invokevirtual 88, 3), (579, .if_icmp .eq 402, 3), (582, .iconst 0, 1), (583, .ireturn, 1), (584, .aload_n 1, 1), (585, .aload_n 0, 1), (586, .iload_n 3, 1), (587, .iconst 1, 1), (588, .iadd, 1), (589, .iaload, 1), (590, .invokevirtual 89, 3), (593, .aload_n 2, 1), (594, .aload_n 0, 1), (595, .iload_n 3, 1), (596, .iconst 1, 1), (597, .iadd, 1), (598, .iaload, 1), (599, .invokevirtual 92, 3), (602, .if_icmp .eq 379, 3), (605, .iconst 0, 1), (606, .ireturn, 1), (607, .aload_n 1, 1), (608, .invokevirtual 93, 3), (611, .aload_n 2, 1), (612, .invokevirtual 96, 3), (615, .if_icmp .eq 366, 3), (618, .iconst 0, 1), (619, .ireturn, 1), (620, .aload_n 1, 1), (621, .aload_n 0, 1), (622, .iload_n 3, 1), (623, .iconst 1, 1), (624, .iadd, 1), (625, .iaload, 1), (626, .aload_n 0, 1), (627, .iload_n 3, 1), (628, .iconst 2, 1), (629, .iadd, 1), (630, .iaload, 1), (631, .aload_n 0, 1), (632, .iload_n 3, 1), (633, .iconst 3, 1), (634, .iadd, 1), (635, .iaload, 1), (636, .aload_n 0, 1), (637, .iload_n 3, 1)]
theorem dtbL_law_5 : ∀ q ∈ tbL_law_5, decode cL_law q.1 = .ok q.2 := by decide +kernel
def tbL_law_6 : List (Nat × Instr × Nat) := [(638, .iconst 4, 1), (639, .iadd, 1), (640, .iaload, 1), (641, .aload_n 0, 1), (642, .iload_n 3, 1), (643, .iconst 5, 1), (644, .iadd, 1), (645, .iaload, 1), (646, .invokevirtual 97, 3), (649, .aload_n 2, 1), (650, .aload_n 0, 1), (651, .iload_n 3, 1), (652, .iconst 1, 1), (653, .iadd, 1), (654, .iaload, 1), (655, .aload_n 0, 1), (656, .iload_n 3, 1), (657, .iconst 2, 1), (658, .iadd, 1), (659, .iaload, 1), (660, .aload_n 0, 1), (661, .iload_n 3, 1), (662, .iconst 3, 1), (663, .iadd, 1), (664, .iaload, 1), (665, .aload_n 0, 1), (666, .iload_n 3, 1), (667, .iconst 4, 1), (668, .iadd, 1), (669, .iaload, 1), (670, .aload_n 0, 1), (671, .iload_n 3, 1), (672, .iconst 5, 1), (673, .iadd, 1), (674, .iaload, 1), (675, .invokevirtual 101, 3), (678, .if_icmp .eq 303, 3), (681, .iconst 0, 1), (682, .ireturn, 1), (683, .aload_n 1, 1), (684, .invokevirtual 102, 3), (687, .aload_n 2, 1), (688, .invokevirtual 105, 3), (691, .if_icmp .eq 290, 3), (694, .iconst 0, 1), (695, .ireturn, 1), (696, .aload_n 1, 1), (697, .aload_n 0, 1), (698, .iload_n 3, 1), (699, .iconst 1, 1), (700, .iadd, 1), (701, .iaload, 1), (702, .invokevirtual 106, 3), (705, .aload_n 2, 1), (706, .aload_n 0, 1), (707, .iload_n 3, 1), (708, .iconst 1, 1), (709, .iadd, 1), (710, .iaload, 1), (711, .invokevirtual 109, 3)]
theorem dtbL_law_6 : ∀ q ∈ tbL_law_6, decode cL_law q.1 = .ok q.2 := by decide +kernel
def tbL_law_7 : List (Nat × Instr × Nat) := [(714, .if_icmp .eq 267, 3), (717, .iconst 0, 1), (718, .ireturn, 1), (719, .aload_n 1, 1), (720, .aload_n 0, 1), (721, .iload_n 3, 1), (722, .iconst 1, 1), (723, .iadd, 1), (724, .iaload, 1), (725, .invokevirtual 110, 3), (728, .aload_n 2, 1), (729, .aload_n 0, 1), (730, .iload_n 3, 1), (731, .iconst 1, 1), (732, .iadd, 1), (733, .iaload, 1), (734, .invokevirtual 113, 3), (737, .if_icmp .eq 244, 3), (740, .iconst 0, 1), (741, .ireturn, 1), (742, .aload_n 1, 1), (743, .aload_n 0, 1), (744, .iload_n 3, 1), (745, .iconst 1, 1), (746, .iadd, 1), (747, .iaload, 1), (748, .aload_n 0, 1), (749, .iload_n 3, 1), (750, .iconst 2, 1), (751, .iadd, 1), (752, .iaload, 1), (753, .invokevirtual 114, 3), (756, .aload_n 2, 1), (757, .aload_n 0, 1), (758, .iload_n 3, 1), (759, .iconst 1, 1), (760, .iadd, 1), (761, .iaload, 1), (762, .aload_n 0, 1), (763, .iload_n 3, 1), (764, .iconst 2, 1), (765, .iadd, 1), (766, .iaload, 1), (767, .invokevirtual 117, 3), (770, .if_icmp .eq 211, 3), (773, .iconst 0, 1), (774, .ireturn, 1), (775, .aload_n 1, 1), (776, .aload_n 0, 1), (777, .iload_n 3, 1), (778, .iconst 1, 1), (779, .iadd, 1), (780, .iaload, 1), (781, .aload_n 0, 1), (782, .iload_n 3, 1), (783, .iconst 2, 1), (784, .iadd, 1), (785, .iaload, 1), (786, .aload_n 0, 1), (787, .iload_n 3, 1)]
theorem dtbL_law_7 : ∀ q ∈ tbL_law_7, decode cL_law q.1 = .ok q.2 := by decide +kernel
def tbL_law_8 : List (Nat × Instr × Nat) := [(788, .iconst 3, 1), (789, .iadd, 1), (790, .iaload, 1), (791, .invokevirtual 118, 3), (794, .aload_n 2, 1), (795, .aload_n 0, 1), (796, .iload_n 3, 1), (797, .iconst 1, 1), (798, .iadd, 1), (799, .iaload, 1), (800, .aload_n 0, 1), (801, .iload_n 3, 1), (802, .iconst 2, 1), (803, .iadd, 1), (804, .iaload, 1), (805, .aload_n 0, 1), (806, .iload_n 3, 1), (807, .iconst 3, 1), (808, .iadd, 1), (809, .iaload, 1), (810, .invokevirtual 121, 3), (813, .if_icmp .eq 168, 3), (816, .iconst 0, 1), (817, .ireturn, 1), (818, .aload_n 1, 1), (819, .aload_n 0, 1), (820, .iload_n 3, 1), (821, .iconst 1, 1), (822, .iadd, 1), (823, .iaload, 1), (824, .aload_n 0, 1), (825, .iload_n 3, 1), (826, .iconst 2, 1), (827, .iadd, 1), (828, .iaload, 1), (829, .invokevirtual 122, 3), (832, .aload_n 2, 1), (833, .aload_n 0, 1), (834, .iload_n 3, 1), (835, .iconst 1, 1), (836, .iadd, 1), (837, .iaload, 1), (838, .aload_n 0, 1), (839, .iload_n 3, 1), (840, .iconst 2, 1), (841, .iadd, 1), (842, .iaload, 1), (843, .invokevirtual 125, 3), (846, .if_icmp .eq 135, 3), (849, .iconst 0, 1), (850, .ireturn, 1), (851, .aload_n 1, 1), (852, .aload_n 0, 1), (853, .iload_n 3, 1), (854, .iconst 1, 1), (855, .iadd, 1), (856, .iaload, 1), (857, .invokevirtual 126, 3), (860, .aload_n 2, 1), (861, .aload_n 0, 1)]
theorem dtbL_law_8 : ∀ q ∈ tbL_law_8, decode cL_law q.1 = .ok q.2 := by decide +kernel
def tbL_law_9 : List (Nat × Instr × Nat) := [(862, .iload_n 3, 1), (863, .iconst 1, 1), (864, .iadd, 1), (865, .iaload, 1), (866, .invokevirtual 130, 3), (869, .lcmp, 1), (870, .ifCond .eq 111, 3), (873, .iconst 0, 1), (874, .ireturn, 1), (875, .aload_n 1, 1), (876, .aload_n 0, 1), (877, .iload_n 3, 1), (878, .iconst 1, 1), (879, .iadd, 1), (880, .iaload, 1), (881, .invokevirtual 131, 3), (884, .aload_n 2, 1), (885, .aload_n 0, 1), (886, .iload_n 3, 1), (887, .iconst 1, 1), (888, .iadd, 1), (889, .iaload, 1), (890, .invokevirtual 134, 3), (893, .if_icmp .eq 88, 3), (896, .iconst 0, 1), (897, .ireturn, 1), (898, .aload_n 1, 1), (899, .aload_n 0, 1), (900, .iload_n 3, 1), (901, .iconst 1, 1), (902, .iadd, 1), (903, .iaload, 1), (904, .invokevirtual 135, 3), (907, .aload_n 2, 1), (908, .aload_n 0, 1), (909, .iload_n 3, 1), (910, .iconst 1, 1), (911, .iadd, 1), (912, .iaload, 1), (913, .invokevirtual 138, 3), (916, .if_icmp .eq 65, 3), (919, .iconst 0, 1), (920, .ireturn, 1), (921, .aload_n 1, 1), (922, .aload_n 0, 1), (923, .iload_n 3, 1), (924, .iconst 1, 1), (925, .iadd, 1), (926, .iaload, 1), (927, .invokevirtual 139, 3), (930, .aload_n 2, 1), (931, .aload_n 0, 1), (932, .iload_n 3, 1), (933, .iconst 1, 1), (934, .iadd, 1), (935, .iaload, 1), (936, .invokevirtual 142, 3), (939, .if_icmp .eq 42, 3), (942, .iconst 0, 1), (943, .ireturn, 1)]
theorem dtbL_law_9 : ∀ q ∈ tbL_law_9, decode cL_law q.1 = .ok q.2 := by decide +kernel
def tbL_law_10 : List (Nat × Instr × Nat) := [(944, .aload_n 1, 1), (945, .aload_n 0, 1), (946, .iload_n 3, 1), (947, .iconst 1, 1), (948, .iadd, 1), (949, .iaload, 1), (950, .invokevirtual 143, 3), (953, .aload_n 2, 1), (954, .aload_n 0, 1), (955, .iload_n 3, 1), (956, .iconst 1, 1), (957, .iadd, 1), (958, .iaload, 1), (959, .invokevirtual 146, 3), (962, .if_icmp .eq 19, 3), (965, .iconst 0, 1), (966, .ireturn, 1), (967, .aload_n 1, 1), (968, .invokevirtual 147, 3), (971, .aload_n 2, 1), (972, .invokevirtual 151, 3), (975, .lcmp, 1), (976, .ifCond .eq 5, 3), (979, .iconst 0, 1), (980, .ireturn, 1), (981, .iinc 3 6, 3), (984, .goto (-966), 3), (987, .iconst 1, 1), (988, .ireturn, 1)]
theorem dtbL_law_10 : ∀ q ∈ tbL_law_10, decode cL_law q.1 = .ok q.2 := by decide +kernel
end
section
/-! the tables' words that every method keeps; the one world; what it is to run a method's body from a place on -/
def gw : List Cond := lw_tbl.filter goodWord
def g_isNest : Cond → Bool
  | .fieldLinkNest _ _ _ _ _ _ => true
  | .methodLinkNest _ _ _ _ => true
  | _ => false
def nw : List Cond := lw_tbl.filter g_isNest
theorem gw_in {w : Cond} (i : Nat) (h : lw_tbl[i]? = some w) (g : goodWord w = true) : w ∈ gw := List.mem_filter.mpr ⟨List.mem_of_getElem? h, g⟩
theorem nw_in {w : Cond} (i : Nat) (h : lw_tbl[i]? = some w) (g : g_isNest w = true) : w ∈ nw := List.mem_filter.mpr ⟨List.mem_of_getElem? h, g⟩
theorem gw_good : GoodIn gw gw := fun w h => ⟨h, good_of_word (List.mem_filter.mp h).2⟩
theorem gw_goodc {ws : List Cond} (h : ∀ w ∈ ws, w ∈ gw) : GoodIn gw ws := fun w hw => gw_good w (h w hw)
theorem nw_warm {s U : State} (hW : s.WarmedH U.vm) {w : Cond} (h : w ∈ nw) (hz : va_Nw w s) : va_Nw w U := by
  have h1 := (List.mem_filter.mp h).2
  cases w with
  | fieldLinkNest a b c d e f => exact va_Nw.warmF hW hz
  | methodLinkNest a b c d => exact va_Nw.warmM hW hz
  | _ => cases h1
theorem nw_same {s U : State} (hv : s.vm = U.vm) {w : Cond} (h : w ∈ nw) (hz : va_Nw w s) : va_Nw w U := by
  have h1 := (List.mem_filter.mp h).2
  cases w with
  | fieldLinkNest a b c d e f => exact va_Nw.same rfl hv hz
  | methodLinkNest a b c d => exact va_Nw.same rfl hv hz
  | _ => cases h1
/-- a state: ints by cell and place, longs, references (cells by number), how many cells there are -/
abbrev St : Type := (Nat → Nat → Int32) × (Nat → Nat → Int64) × (Nat → Nat → Option Nat) × Nat
/-- a method: name, bytes, locals, answer's type, frames and words below it -/
abbrev MD : Type := MethodName × ByteArray × Nat × Option FieldType × Nat × Nat
/-- launch, class numbers, slots, first address, array classes, the heap at first, addresses of what lies below it (0: the script), the script -/
abbrev Wd : Type := Launch × (Nat → ClassId) × (Nat → Nat → Nat) × Nat × (Nat → ClassId) × Heap × (Nat → Nat) × Nat × (Nat → Int32)
abbrev g_l (G : Wd) : Launch := G.1
abbrev g_D (G : Wd) : va_G := (G.2.1, G.2.2.1)
abbrev g_a (G : Wd) : Nat := G.2.2.2.1
abbrev g_c (G : Wd) : Nat → ClassId := G.2.2.2.2.1
abbrev g_H (G : Wd) : Heap := G.2.2.2.2.2.1
abbrev g_s (G : Wd) : Nat → Nat := G.2.2.2.2.2.2.1
abbrev g_L (G : Wd) : Nat := G.2.2.2.2.2.2.2.1
abbrev g_x (G : Wd) : Nat → Int32 := G.2.2.2.2.2.2.2.2
def g_ad (G : Wd) (k : Nat) : Nat := if k < 1000 then g_a G + k else g_s G (k - 1000)
def g_tr (G : Wd) (v : Value) : Value := match v with
  | .ref k => .ref (g_ad G k)
  | w => w
def g_rv (r : Option Nat) : Value := match r with
  | none => .null
  | some k => .ref k
def g_fty (ci : Nat) : Nat → FieldType := match ci with
  | 0 => tyX0
  | 1 => tyX1
  | 2 => tyX2
  | 3 => tyX3
  | 4 => tyX4
  | 5 => tyX5
  | 6 => tyX6
  | 7 => tyX7
  | 8 => tyX8
  | 9 => tyX9
  | 10 => tyX10
  | _ => tyX11
def g_nf (ci : Nat) : Nat := match classes[ci]? with
  | some q => q.2.2
  | none => 0
/-- what a cell is: an array (type, length), or an object of a class -/
def g_shL : List ((Nat × Nat) ⊕ Nat) := [.inr 10, .inr 0, .inl (0, 6), .inl (0, 21), .inl (0, 30), .inl (0, 48), .inr 0, .inl (0, 6), .inl (0, 21), .inl (0, 30), .inl (0, 48), .inr 0, .inl (0, 6), .inl (0, 21), .inl (0, 30), .inl (0, 48), .inl (2, 2), .inr 8, .inl (1, 150), .inr 0, .inl (0, 6), .inl (0, 21), .inl (0, 30), .inl (0, 48), .inr 4, .inr 2, .inr 6, .inr 3, .inr 7, .inr 1, .inr 9, .inr 5, .inl (0, 99), .inl (0, 7), .inr 11, .inl (0, 108), .inl (0, 108), .inl (0, 108), .inl (0, 216), .inl (2, 2), .inl (0, 3), .inl (0, 150)]
def g_sh (k : Nat) : (Nat × Nat) ⊕ Nat := g_shL.getD k (.inr 99)
def g_szk (k : Nat) : Nat := match g_sh k with
  | .inl q => q.2
  | .inr ci => g_nf ci
def g_sz : Nat → Nat
  | 0 => 0
  | n + 1 => g_sz n + g_szk n
theorem g_sz_le {a b : Nat} (h : a ≤ b) : g_sz a ≤ g_sz b := by
  induction h with
  | refl => exact Nat.le_refl _
  | step _ ih => exact Nat.le_trans ih (Nat.le_add_right _ _)
def g_fv (σ : St) (k : Nat) (ty : FieldType) (j : Nat) : Value := match ty with
  | .long => .long (σ.2.1 k j)
  | .array _ => g_rv (σ.2.2.1 k j)
  | .object _ => g_rv (σ.2.2.1 k j)
  | _ => .int (σ.1 k j)
def g_fl (G : Wd) (σ : St) (k ci : Nat) : List Value := (List.range (g_nf ci)).map (fun j => g_tr G (g_fv σ k (g_fty ci j) j))
def g_en (G : Wd) (σ : St) (k : Nat) : va_E := match g_sh k with
  | .inl q => .inl (g_c G q.1, q.2, .inl (σ.1 k))
  | .inr ci => .inr (ci, g_fl G σ k ci)
def g_ws (G : Wd) (σ : St) : va_W := (List.range σ.2.2.2).map (fun k => (g_a G + k, g_en G σ k))
def g_A (G : Wd) : Nat → Prop := fun q => g_a G ≤ q
def g_Wk (G : Wd) (σ : St) (H : Heap) : Prop := va_P (g_D G) classes (g_ws G σ) H ∧ H.size = g_a G + σ.2.2.2 ∧ (∀ q : Nat, q < g_a G → H[q]? = (g_H G)[q]?) ∧ σ.2.2.2 ≤ 1000
abbrev g_ty (G : Wd) : List (ClassId × FieldType) := [(g_c G 0, .int), (g_c G 1, .byte), (g_c G 2, .boolean)]
def g_slen : List Nat := [7, 4, 5, 3]
def g_sbyt : List (List Int32) := [[97, 99, 99, 111, 117, 110, 116], [98, 105, 108, 108], [115, 112, 101, 110, 100], [106, 97, 114]]
def g_stx (i : Nat) : String := match i with
  | 0 => "account"
  | 1 => "bill"
  | 2 => "spend"
  | _ => "jar"
def g_sidx (i : Nat) : Nat := match i with
  | 0 => 46
  | 1 => 56
  | 2 => 64
  | _ => 70
/-- what is known of the literals and the JDK's statics -/
def g_Str (G : Wd) (U : State) : Prop := vk_S 4 g_slen g_sbyt (fun i => g_s G (1 + i)) (fun i => g_s G (1001 + i)) (g_A G) U (g_H G) ∧ (∀ i, i < 4 → vk_R RX8 (g_sidx i) (g_stx i) (g_s G (1 + i)) U) ∧ va_Z RJ0 "COMPACT_STRINGS" "Z" (.int 1) (g_A G) U (g_H G) ∧ va_Zq RJ3 "SIOOBE_FORMATTER" "Ljava/util/function/BiFunction;" (g_A G) U (g_H G)
def g_Uw (G : Wd) (U : State) : Prop := va_K (g_D G) classes (g_ty G) U ∧ (∀ w ∈ nw, va_Nw w U) ∧ g_Str G U ∧ va_X (g_s G 0) (g_L G) (g_x G) U (g_H G) ∧ g_s G 0 < g_a G ∧ (g_H G).size = g_a G
theorem g_Uw.warm {G : Wd} {s U : State} (hW : s.WarmedH U.vm) (h : g_Uw G s) : g_Uw G U := by
  obtain ⟨h1, h2, ⟨h3, h4, h5, h6⟩, h7, h8⟩ := h
  exact ⟨va_K.moved hW.alike h1, fun w hw => nw_warm hW hw (h2 w hw), ⟨vk_S.moved hW.alike h3, fun i hi => vk_R.warm hW (h4 i hi), va_Z.moved hW.alike h5, va_Zq.moved hW.alike h6⟩, va_X.moved hW.alike h7, h8⟩
theorem g_Uw.same {G : Wd} {s U : State} (hv : s.vm = U.vm) (h : g_Uw G s) : g_Uw G U := by
  obtain ⟨h1, h2, ⟨h3, h4, h5, h6⟩, h7, h8⟩ := h
  have ha : s.vm.Alike U.vm := by rw [hv]; exact Vm.Alike.refl _
  exact ⟨va_K.moved ha h1, fun w hw => nw_same hv hw (h2 w hw), ⟨vk_S.moved ha h3, fun i hi => vk_R.same hv.symm (h4 i hi), va_Z.moved ha h5, va_Zq.moved ha h6⟩, va_X.moved ha h7, h8⟩
/-- the locals -/
def g_LO (G : Wd) (ls : Array Slot) (nL : Nat) (L : List (Option Value)) : Prop := ls.size = nL ∧ lv_wf ls ∧ ∀ (i : Nat) (v : Value), L[i]? = some (some v) → ls[i]? = some (.val (g_tr G v))
def g_ent : Nat → List Value → List (Option Value)
  | n, [] => List.replicate n none
  | n, v :: vs => match v.category with
    | 2 => some v :: none :: g_ent (n - 2) vs
    | _ => some v :: g_ent (n - 1) vs
def g_rti (v : Option Value) : Instr := match v with
  | none => .return_
  | some (.int _) => .ireturn
  | some (.long _) => .lreturn
  | some _ => .areturn
def g_rok (ret : Option FieldType) (v : Option Value) : Prop := match v with
  | none => ret = none
  | some (.int z) => ∃ ty, ret = some ty ∧ narrow ty (.int z) = .int z
  | some (.long _) => ret = some .long
  | some (.ref _) => ∃ n, ret = some (.object n)
  | some _ => False
def g_Fx (M : MD) (p : Program) (s : State) (m : MethodId) (args : Array Value) (meth : Method) (c : Code) : Prop :=
  p.tables.exec = Jvm.exec ∧ c.code = M.2.1 ∧ c.maxLocals = M.2.2.1 ∧ s.vm.findClass M.1.cls = some m.cls ∧ (∀ w ∈ gw, w.before args s = true) ∧ meth.sig.returnType = M.2.2.2.1 ∧ meth.locks = false ∧ meth.name = M.1.name
def g_Rm (M : MD) (nE n0 : Nat) (R : Room) : Prop := M.2.2.2.2.1 ≤ R.frames ∧ M.2.2.2.2.2 ≤ R.locals ∧ nE ≤ R.cells + n0 ∧ g_sz nE ≤ R.slots + g_sz n0 ∧ n0 ≤ nE
/-- FROM A PLACE ON: the body of M, at pc, with locals L, stack S, in the state σ, comes to its end, and there Q holds of its answer and the state -/
def Cc (G : Wd) (M : MD) (nE pc : Nat) (L : List (Option Value)) (S : List Value) (σ : St) (Q : Option Value → St → Prop) : Prop :=
  ∀ (p : Program) (e : Env) (R : Room) (s : State) (m : MethodId) (args : Array Value) (below : List Frame) (meth : Method) (c : Code) (H : Heap) (locs : List Loc) (ls : Array Slot) (cells slots n0 : Nat) (QQ : State → Prop),
    g_Fx M p s m args meth c → g_Uw G s → g_Rm M nE n0 R → g_a G ≤ s.heap.size → (∀ q : Nat, q < g_a G → s.heap[q]? = (g_H G)[q]?) →
    (∀ (v : Option Value) (σ' : St) (H' : Heap) (locs' : List Loc) (pc' : Nat) (ls' : Array Slot), Q v σ' → σ'.2.2.2 = nE → g_Wk G σ' H' → va_S (g_A G) s.heap H' locs' → decode M.2.1 pc' = .ok (g_rti v, 1) → g_rok M.2.2.2.1 v →
      W p (g_l G) e R s m args below meth c H' locs' (nE - n0) (g_sz nE - g_sz n0) QQ (F0 m pc' ls' (v.toList.map (g_tr G)))) →
    cells + n0 = σ.2.2.2 → slots + g_sz n0 = g_sz σ.2.2.2 → g_Wk G σ H → va_S (g_A G) s.heap H locs → g_LO G ls M.2.2.1 L →
    W p (g_l G) e R s m args below meth c H locs cells slots QQ (F0 m pc ls (S.map (g_tr G)))
theorem g_tr_cat (G : Wd) (v : Value) : (g_tr G v).category = v.category := by cases v <;> rfl
theorem g_ad_lt {G : Wd} {k : Nat} (h : k < 1000) : g_ad G k = g_a G + k := by simp [g_ad, h]
theorem g_ws_at {G : Wd} {σ : St} {k : Nat} (h : k < σ.2.2.2) : (g_ws G σ)[k]? = some (g_a G + k, g_en G σ k) := by
  simp [g_ws, h]
theorem g_ws_len {G : Wd} {σ : St} : (g_ws G σ).length = σ.2.2.2 := by simp [g_ws]
theorem g_ws_D {G : Wd} {σ : St} : va_D (g_A G) (g_ws G σ) := by
  refine ⟨fun i j p q hi hj hpq => ?_, fun k q hk => ?_⟩
  · have li : i < σ.2.2.2 := by rw [← g_ws_len (G := G)]; exact (List.getElem?_eq_some_iff.mp hi).1
    have lj : j < σ.2.2.2 := by rw [← g_ws_len (G := G)]; exact (List.getElem?_eq_some_iff.mp hj).1
    rw [g_ws_at li] at hi
    rw [g_ws_at lj] at hj
    cases hi; cases hj
    simp only at hpq
    omega
  · have lk : k < σ.2.2.2 := by rw [← g_ws_len (G := G)]; exact (List.getElem?_eq_some_iff.mp hk).1
    rw [g_ws_at lk] at hk
    cases hk
    exact Nat.le_add_right _ _
/-- two worlds with the same cells -/
theorem g_ws_ext {G : Wd} {σ' : St} {w : va_W} (hn : w.length = σ'.2.2.2) (h : ∀ k, k < σ'.2.2.2 → w[k]? = some (g_a G + k, g_en G σ' k)) : w = g_ws G σ' := by
  apply List.ext_getElem?
  intro i
  by_cases hi : i < σ'.2.2.2
  · rw [h i hi, g_ws_at hi]
  · rw [List.getElem?_eq_none (by omega), List.getElem?_eq_none (by rw [g_ws_len]; omega)]
/-- a row of ints is another -/
def g_pr (σ : St) (k : Nat) (f : Nat → Int32) : St := (fun a => if a = k then f else σ.1 a, σ.2)
def g_pl (σ : St) (k j : Nat) (v : Int64) : St := (σ.1, fun a b => if a = k then (if b = j then v else σ.2.1 a b) else σ.2.1 a b, σ.2.2)
def g_prf (σ : St) (k j : Nat) (v : Option Nat) : St := (σ.1, σ.2.1, fun a b => if a = k then (if b = j then v else σ.2.2.1 a b) else σ.2.2.1 a b, σ.2.2.2)
theorem g_en_pr {G : Wd} {σ : St} {k i : Nat} {f : Nat → Int32} (h : i ≠ k) : g_en G (g_pr σ k f) i = g_en G σ i := by
  simp [g_en, g_pr, h, g_fl, g_fv]
theorem g_en_pl {G : Wd} {σ : St} {k i j : Nat} {v : Int64} (h : i ≠ k) : g_en G (g_pl σ k j v) i = g_en G σ i := by
  simp [g_en, g_pl, h, g_fl, g_fv]
theorem g_en_prf {G : Wd} {σ : St} {k i j : Nat} {v : Option Nat} (h : i ≠ k) : g_en G (g_prf σ k j v) i = g_en G σ i := by
  simp [g_en, g_prf, h, g_fl, g_fv]
/-- a cell set anew is the state with it -/
theorem g_ws_set {G : Wd} {σ σ' : St} {k : Nat} {e : va_E} (hk : k < σ.2.2.2) (hn : σ'.2.2.2 = σ.2.2.2) (he : g_en G σ' k = e) (ho : ∀ i, i ≠ k → g_en G σ' i = g_en G σ i) : (g_ws G σ).set k (g_a G + k, e) = g_ws G σ' := by
  refine g_ws_ext (by rw [List.length_set, g_ws_len, hn]) (fun i hi => ?_)
  by_cases hik : i = k
  · subst hik
    rw [List.getElem?_set_self (by rw [g_ws_len]; exact hk), he]
  · rw [List.getElem?_set_ne (Ne.symm hik), g_ws_at (by omega), ho i hik]
end
section
/-! a rule an instruction -/
section
variable {G : Wd} {M : MD} {nE pc pc' : Nat} {L : List (Option Value)} {S : List Value} {σ : St} {Q : Option Value → St → Prop}
theorem cz_iconst {n : Int} {v : Int32} (hd : decode M.2.1 pc = .ok (.iconst n, 1)) (hv : Int32.ofInt n = v) (hp : pc + 1 = pc') (h : Cc G M nE pc' L (.int v :: S) σ Q) : Cc G M nE pc L (S) σ Q := by
  subst hp
  intro p e R s m args below meth c H locs ls cells slots n0 QQ hF hU hR ha hh hK hc1 hc2 hW hS hL
  exact lv_iconst hF.1 hF.2.1 hd hv (h p e R s m args below meth c H locs ls cells slots n0 QQ hF hU hR ha hh hK hc1 hc2 hW hS hL)
theorem cz_bipush {n : Int} {v : Int32} (hd : decode M.2.1 pc = .ok (.bipush n, 2)) (hv : (Int8.ofInt n).toInt32 = v) (hp : pc + 2 = pc') (h : Cc G M nE pc' L (.int v :: S) σ Q) : Cc G M nE pc L (S) σ Q := by
  subst hp
  intro p e R s m args below meth c H locs ls cells slots n0 QQ hF hU hR ha hh hK hc1 hc2 hW hS hL
  exact lv_bipush hF.1 hF.2.1 hd hv (h p e R s m args below meth c H locs ls cells slots n0 QQ hF hU hR ha hh hK hc1 hc2 hW hS hL)
theorem cz_sipush {n : Int} {v : Int32} (hd : decode M.2.1 pc = .ok (.sipush n, 3)) (hv : (Int16.ofInt n).toInt32 = v) (hp : pc + 3 = pc') (h : Cc G M nE pc' L (.int v :: S) σ Q) : Cc G M nE pc L (S) σ Q := by
  subst hp
  intro p e R s m args below meth c H locs ls cells slots n0 QQ hF hU hR ha hh hK hc1 hc2 hW hS hL
  exact lv_sipush hF.1 hF.2.1 hd hv (h p e R s m args below meth c H locs ls cells slots n0 QQ hF hU hR ha hh hK hc1 hc2 hW hS hL)
theorem cz_lconst {n : Fin 2} {v : Int64} (hd : decode M.2.1 pc = .ok (.lconst n, 1)) (hv : Int64.ofNat (n : Nat) = v) (hp : pc + 1 = pc') (h : Cc G M nE pc' L (.long v :: S) σ Q) : Cc G M nE pc L (S) σ Q := by
  subst hp
  intro p e R s m args below meth c H locs ls cells slots n0 QQ hF hU hR ha hh hK hc1 hc2 hW hS hL
  exact lv_lconst hF.1 hF.2.1 hd hv (h p e R s m args below meth c H locs ls cells slots n0 QQ hF hU hR ha hh hK hc1 hc2 hW hS hL)
theorem cz_iload {i : Nat} {x : Int32} (hd : decode M.2.1 pc = .ok (.iload i, 2)) (hl : L[i]? = some (some (.int x))) (hp : pc + 2 = pc') (h : Cc G M nE pc' L (.int x :: S) σ Q) : Cc G M nE pc L (S) σ Q := by
  subst hp
  intro p e R s m args below meth c H locs ls cells slots n0 QQ hF hU hR ha hh hK hc1 hc2 hW hS hL
  exact lv_iload hF.1 hF.2.1 hd (hL.2.2 _ _ hl) (h p e R s m args below meth c H locs ls cells slots n0 QQ hF hU hR ha hh hK hc1 hc2 hW hS hL)
theorem cz_iload_n {i : Fin 4} {x : Int32} (hd : decode M.2.1 pc = .ok (.iload_n i, 1)) (hl : L[(i : Nat)]? = some (some (.int x))) (hp : pc + 1 = pc') (h : Cc G M nE pc' L (.int x :: S) σ Q) : Cc G M nE pc L (S) σ Q := by
  subst hp
  intro p e R s m args below meth c H locs ls cells slots n0 QQ hF hU hR ha hh hK hc1 hc2 hW hS hL
  exact lv_iload_n hF.1 hF.2.1 hd rfl (hL.2.2 _ _ hl) (h p e R s m args below meth c H locs ls cells slots n0 QQ hF hU hR ha hh hK hc1 hc2 hW hS hL)
theorem cz_lload {i : Nat} {x : Int64} (hd : decode M.2.1 pc = .ok (.lload i, 2)) (hl : L[i]? = some (some (.long x))) (hp : pc + 2 = pc') (h : Cc G M nE pc' L (.long x :: S) σ Q) : Cc G M nE pc L (S) σ Q := by
  subst hp
  intro p e R s m args below meth c H locs ls cells slots n0 QQ hF hU hR ha hh hK hc1 hc2 hW hS hL
  exact lv_lload hF.1 hF.2.1 hd (hL.2.2 _ _ hl) (h p e R s m args below meth c H locs ls cells slots n0 QQ hF hU hR ha hh hK hc1 hc2 hW hS hL)
theorem cz_lload_n {i : Fin 4} {x : Int64} (hd : decode M.2.1 pc = .ok (.lload_n i, 1)) (hl : L[(i : Nat)]? = some (some (.long x))) (hp : pc + 1 = pc') (h : Cc G M nE pc' L (.long x :: S) σ Q) : Cc G M nE pc L (S) σ Q := by
  subst hp
  intro p e R s m args below meth c H locs ls cells slots n0 QQ hF hU hR ha hh hK hc1 hc2 hW hS hL
  exact lv_lload_n hF.1 hF.2.1 hd rfl (hL.2.2 _ _ hl) (h p e R s m args below meth c H locs ls cells slots n0 QQ hF hU hR ha hh hK hc1 hc2 hW hS hL)
theorem cz_aload {i : Nat} {x : Nat} (hd : decode M.2.1 pc = .ok (.aload i, 2)) (hl : L[i]? = some (some (.ref x))) (hp : pc + 2 = pc') (h : Cc G M nE pc' L (.ref x :: S) σ Q) : Cc G M nE pc L (S) σ Q := by
  subst hp
  intro p e R s m args below meth c H locs ls cells slots n0 QQ hF hU hR ha hh hK hc1 hc2 hW hS hL
  exact lv_aload hF.1 hF.2.1 hd (hL.2.2 _ _ hl) (h p e R s m args below meth c H locs ls cells slots n0 QQ hF hU hR ha hh hK hc1 hc2 hW hS hL)
theorem cz_aload_n {i : Fin 4} {x : Nat} (hd : decode M.2.1 pc = .ok (.aload_n i, 1)) (hl : L[(i : Nat)]? = some (some (.ref x))) (hp : pc + 1 = pc') (h : Cc G M nE pc' L (.ref x :: S) σ Q) : Cc G M nE pc L (S) σ Q := by
  subst hp
  intro p e R s m args below meth c H locs ls cells slots n0 QQ hF hU hR ha hh hK hc1 hc2 hW hS hL
  exact lv_aload_n hF.1 hF.2.1 hd rfl (hL.2.2 _ _ hl) (h p e R s m args below meth c H locs ls cells slots n0 QQ hF hU hR ha hh hK hc1 hc2 hW hS hL)
theorem cz_iadd {x y : Int32} (hd : decode M.2.1 pc = .ok (.iadd, 1))  (hp : pc + 1 = pc') (h : Cc G M nE pc' L (.int (x + y) :: S) σ Q) : Cc G M nE pc L (.int y :: .int x :: S) σ Q := by
  subst hp
  intro p e R s m args below meth c H locs ls cells slots n0 QQ hF hU hR ha hh hK hc1 hc2 hW hS hL
  exact lv_iadd hF.1 hF.2.1 hd (h p e R s m args below meth c H locs ls cells slots n0 QQ hF hU hR ha hh hK hc1 hc2 hW hS hL)
theorem cz_isub {x y : Int32} (hd : decode M.2.1 pc = .ok (.isub, 1))  (hp : pc + 1 = pc') (h : Cc G M nE pc' L (.int (x - y) :: S) σ Q) : Cc G M nE pc L (.int y :: .int x :: S) σ Q := by
  subst hp
  intro p e R s m args below meth c H locs ls cells slots n0 QQ hF hU hR ha hh hK hc1 hc2 hW hS hL
  exact lv_isub hF.1 hF.2.1 hd (h p e R s m args below meth c H locs ls cells slots n0 QQ hF hU hR ha hh hK hc1 hc2 hW hS hL)
theorem cz_imul {x y : Int32} (hd : decode M.2.1 pc = .ok (.imul, 1))  (hp : pc + 1 = pc') (h : Cc G M nE pc' L (.int (x * y) :: S) σ Q) : Cc G M nE pc L (.int y :: .int x :: S) σ Q := by
  subst hp
  intro p e R s m args below meth c H locs ls cells slots n0 QQ hF hU hR ha hh hK hc1 hc2 hW hS hL
  exact lv_imul hF.1 hF.2.1 hd (h p e R s m args below meth c H locs ls cells slots n0 QQ hF hU hR ha hh hK hc1 hc2 hW hS hL)
theorem cz_iand {x y : Int32} (hd : decode M.2.1 pc = .ok (.iand, 1))  (hp : pc + 1 = pc') (h : Cc G M nE pc' L (.int (x &&& y) :: S) σ Q) : Cc G M nE pc L (.int y :: .int x :: S) σ Q := by
  subst hp
  intro p e R s m args below meth c H locs ls cells slots n0 QQ hF hU hR ha hh hK hc1 hc2 hW hS hL
  exact lv_iand hF.1 hF.2.1 hd (h p e R s m args below meth c H locs ls cells slots n0 QQ hF hU hR ha hh hK hc1 hc2 hW hS hL)
theorem cz_ior {x y : Int32} (hd : decode M.2.1 pc = .ok (.ior, 1))  (hp : pc + 1 = pc') (h : Cc G M nE pc' L (.int (x ||| y) :: S) σ Q) : Cc G M nE pc L (.int y :: .int x :: S) σ Q := by
  subst hp
  intro p e R s m args below meth c H locs ls cells slots n0 QQ hF hU hR ha hh hK hc1 hc2 hW hS hL
  exact lv_ior hF.1 hF.2.1 hd (h p e R s m args below meth c H locs ls cells slots n0 QQ hF hU hR ha hh hK hc1 hc2 hW hS hL)
theorem cz_ixor {x y : Int32} (hd : decode M.2.1 pc = .ok (.ixor, 1))  (hp : pc + 1 = pc') (h : Cc G M nE pc' L (.int (x ^^^ y) :: S) σ Q) : Cc G M nE pc L (.int y :: .int x :: S) σ Q := by
  subst hp
  intro p e R s m args below meth c H locs ls cells slots n0 QQ hF hU hR ha hh hK hc1 hc2 hW hS hL
  exact lv_ixor hF.1 hF.2.1 hd (h p e R s m args below meth c H locs ls cells slots n0 QQ hF hU hR ha hh hK hc1 hc2 hW hS hL)
theorem cz_ishl {x y : Int32} (hd : decode M.2.1 pc = .ok (.ishl, 1))  (hp : pc + 1 = pc') (h : Cc G M nE pc' L (.int (x <<< (y &&& 31)) :: S) σ Q) : Cc G M nE pc L (.int y :: .int x :: S) σ Q := by
  subst hp
  intro p e R s m args below meth c H locs ls cells slots n0 QQ hF hU hR ha hh hK hc1 hc2 hW hS hL
  exact lv_ishl hF.1 hF.2.1 hd (h p e R s m args below meth c H locs ls cells slots n0 QQ hF hU hR ha hh hK hc1 hc2 hW hS hL)
theorem cz_ishr {x y : Int32} (hd : decode M.2.1 pc = .ok (.ishr, 1))  (hp : pc + 1 = pc') (h : Cc G M nE pc' L (.int (x >>> (y &&& 31)) :: S) σ Q) : Cc G M nE pc L (.int y :: .int x :: S) σ Q := by
  subst hp
  intro p e R s m args below meth c H locs ls cells slots n0 QQ hF hU hR ha hh hK hc1 hc2 hW hS hL
  exact lv_ishr hF.1 hF.2.1 hd (h p e R s m args below meth c H locs ls cells slots n0 QQ hF hU hR ha hh hK hc1 hc2 hW hS hL)
theorem cz_idiv {x y : Int32} (hd : decode M.2.1 pc = .ok (.idiv, 1)) (hz : ¬ y = 0) (hp : pc + 1 = pc') (h : Cc G M nE pc' L (.int (x / y) :: S) σ Q) : Cc G M nE pc L (.int y :: .int x :: S) σ Q := by
  subst hp
  intro p e R s m args below meth c H locs ls cells slots n0 QQ hF hU hR ha hh hK hc1 hc2 hW hS hL
  exact lv_idiv hF.1 hF.2.1 hd hz (h p e R s m args below meth c H locs ls cells slots n0 QQ hF hU hR ha hh hK hc1 hc2 hW hS hL)
theorem cz_irem {x y : Int32} (hd : decode M.2.1 pc = .ok (.irem, 1)) (hz : ¬ y = 0) (hp : pc + 1 = pc') (h : Cc G M nE pc' L (.int (x - x / y * y) :: S) σ Q) : Cc G M nE pc L (.int y :: .int x :: S) σ Q := by
  subst hp
  intro p e R s m args below meth c H locs ls cells slots n0 QQ hF hU hR ha hh hK hc1 hc2 hW hS hL
  exact lv_irem hF.1 hF.2.1 hd hz (h p e R s m args below meth c H locs ls cells slots n0 QQ hF hU hR ha hh hK hc1 hc2 hW hS hL)
theorem cz_ineg {x : Int32} (hd : decode M.2.1 pc = .ok (.ineg, 1))  (hp : pc + 1 = pc') (h : Cc G M nE pc' L (.int (-x) :: S) σ Q) : Cc G M nE pc L (.int x :: S) σ Q := by
  subst hp
  intro p e R s m args below meth c H locs ls cells slots n0 QQ hF hU hR ha hh hK hc1 hc2 hW hS hL
  exact lv_ineg hF.1 hF.2.1 hd (h p e R s m args below meth c H locs ls cells slots n0 QQ hF hU hR ha hh hK hc1 hc2 hW hS hL)
theorem cz_ladd {x y : Int64} (hd : decode M.2.1 pc = .ok (.ladd, 1))  (hp : pc + 1 = pc') (h : Cc G M nE pc' L (.long (x + y) :: S) σ Q) : Cc G M nE pc L (.long y :: .long x :: S) σ Q := by
  subst hp
  intro p e R s m args below meth c H locs ls cells slots n0 QQ hF hU hR ha hh hK hc1 hc2 hW hS hL
  exact lv_ladd hF.1 hF.2.1 hd (h p e R s m args below meth c H locs ls cells slots n0 QQ hF hU hR ha hh hK hc1 hc2 hW hS hL)
theorem cz_lsub {x y : Int64} (hd : decode M.2.1 pc = .ok (.lsub, 1))  (hp : pc + 1 = pc') (h : Cc G M nE pc' L (.long (x - y) :: S) σ Q) : Cc G M nE pc L (.long y :: .long x :: S) σ Q := by
  subst hp
  intro p e R s m args below meth c H locs ls cells slots n0 QQ hF hU hR ha hh hK hc1 hc2 hW hS hL
  exact lv_lsub hF.1 hF.2.1 hd (h p e R s m args below meth c H locs ls cells slots n0 QQ hF hU hR ha hh hK hc1 hc2 hW hS hL)
theorem cz_lmul {x y : Int64} (hd : decode M.2.1 pc = .ok (.lmul, 1))  (hp : pc + 1 = pc') (h : Cc G M nE pc' L (.long (x * y) :: S) σ Q) : Cc G M nE pc L (.long y :: .long x :: S) σ Q := by
  subst hp
  intro p e R s m args below meth c H locs ls cells slots n0 QQ hF hU hR ha hh hK hc1 hc2 hW hS hL
  exact lv_lmul hF.1 hF.2.1 hd (h p e R s m args below meth c H locs ls cells slots n0 QQ hF hU hR ha hh hK hc1 hc2 hW hS hL)
theorem cz_ldiv {x y : Int64} (hd : decode M.2.1 pc = .ok (.ldiv, 1)) (hz : ¬ y = 0) (hp : pc + 1 = pc') (h : Cc G M nE pc' L (.long (x / y) :: S) σ Q) : Cc G M nE pc L (.long y :: .long x :: S) σ Q := by
  subst hp
  intro p e R s m args below meth c H locs ls cells slots n0 QQ hF hU hR ha hh hK hc1 hc2 hW hS hL
  exact lv_ldiv hF.1 hF.2.1 hd hz (h p e R s m args below meth c H locs ls cells slots n0 QQ hF hU hR ha hh hK hc1 hc2 hW hS hL)
theorem cz_lrem {x y : Int64} (hd : decode M.2.1 pc = .ok (.lrem, 1)) (hz : ¬ y = 0) (hp : pc + 1 = pc') (h : Cc G M nE pc' L (.long (x - x / y * y) :: S) σ Q) : Cc G M nE pc L (.long y :: .long x :: S) σ Q := by
  subst hp
  intro p e R s m args below meth c H locs ls cells slots n0 QQ hF hU hR ha hh hK hc1 hc2 hW hS hL
  exact lv_lrem hF.1 hF.2.1 hd hz (h p e R s m args below meth c H locs ls cells slots n0 QQ hF hU hR ha hh hK hc1 hc2 hW hS hL)
theorem cz_lcmp {x y : Int64} (hd : decode M.2.1 pc = .ok (.lcmp, 1))  (hp : pc + 1 = pc') (h : Cc G M nE pc' L (.int (lg_cmp x y) :: S) σ Q) : Cc G M nE pc L (.long y :: .long x :: S) σ Q := by
  subst hp
  intro p e R s m args below meth c H locs ls cells slots n0 QQ hF hU hR ha hh hK hc1 hc2 hW hS hL
  exact W.lcmp hF.1 hF.2.1 hd (h p e R s m args below meth c H locs ls cells slots n0 QQ hF hU hR ha hh hK hc1 hc2 hW hS hL)
theorem cz_i2l {x : Int32} (hd : decode M.2.1 pc = .ok (.i2l, 1))  (hp : pc + 1 = pc') (h : Cc G M nE pc' L (.long x.toInt64 :: S) σ Q) : Cc G M nE pc L (.int x :: S) σ Q := by
  subst hp
  intro p e R s m args below meth c H locs ls cells slots n0 QQ hF hU hR ha hh hK hc1 hc2 hW hS hL
  exact lv_i2l hF.1 hF.2.1 hd rfl (h p e R s m args below meth c H locs ls cells slots n0 QQ hF hU hR ha hh hK hc1 hc2 hW hS hL)
theorem cz_l2i {x : Int64} (hd : decode M.2.1 pc = .ok (.l2i, 1))  (hp : pc + 1 = pc') (h : Cc G M nE pc' L (.int x.toInt32 :: S) σ Q) : Cc G M nE pc L (.long x :: S) σ Q := by
  subst hp
  intro p e R s m args below meth c H locs ls cells slots n0 QQ hF hU hR ha hh hK hc1 hc2 hW hS hL
  exact lv_l2i hF.1 hF.2.1 hd rfl (h p e R s m args below meth c H locs ls cells slots n0 QQ hF hU hR ha hh hK hc1 hc2 hW hS hL)
theorem cz_i2b {x : Int32} (hd : decode M.2.1 pc = .ok (.i2b, 1))  (hp : pc + 1 = pc') (h : Cc G M nE pc' L (.int x.toInt8.toInt32 :: S) σ Q) : Cc G M nE pc L (.int x :: S) σ Q := by
  subst hp
  intro p e R s m args below meth c H locs ls cells slots n0 QQ hF hU hR ha hh hK hc1 hc2 hW hS hL
  exact lv_i2b hF.1 hF.2.1 hd rfl (h p e R s m args below meth c H locs ls cells slots n0 QQ hF hU hR ha hh hK hc1 hc2 hW hS hL)
theorem cz_i2c {x : Int32} (hd : decode M.2.1 pc = .ok (.i2c, 1))  (hp : pc + 1 = pc') (h : Cc G M nE pc' L (.int (x.toUInt32 % 65536).toInt32 :: S) σ Q) : Cc G M nE pc L (.int x :: S) σ Q := by
  subst hp
  intro p e R s m args below meth c H locs ls cells slots n0 QQ hF hU hR ha hh hK hc1 hc2 hW hS hL
  exact lv_i2c hF.1 hF.2.1 hd rfl (h p e R s m args below meth c H locs ls cells slots n0 QQ hF hU hR ha hh hK hc1 hc2 hW hS hL)
theorem cz_dup {x : Value} (hd : decode M.2.1 pc = .ok (.dup, 1)) (hv : x.category = 1) (hp : pc + 1 = pc') (h : Cc G M nE pc' L (x :: x :: S) σ Q) : Cc G M nE pc L (x :: S) σ Q := by
  subst hp
  intro p e R s m args below meth c H locs ls cells slots n0 QQ hF hU hR ha hh hK hc1 hc2 hW hS hL
  exact lv_dup hF.1 hF.2.1 hd (by rw [g_tr_cat]; exact hv) (h p e R s m args below meth c H locs ls cells slots n0 QQ hF hU hR ha hh hK hc1 hc2 hW hS hL)
theorem cz_dup2 {x y : Value} (hd : decode M.2.1 pc = .ok (.dup2, 1)) (hx : x.category = 1) (hy : y.category = 1) (hp : pc + 1 = pc') (h : Cc G M nE pc' L (x :: y :: x :: y :: S) σ Q) : Cc G M nE pc L (x :: y :: S) σ Q := by
  subst hp
  intro p e R s m args below meth c H locs ls cells slots n0 QQ hF hU hR ha hh hK hc1 hc2 hW hS hL
  exact lv_dup2_11 hF.1 hF.2.1 hd (by rw [g_tr_cat]; exact hx) (by rw [g_tr_cat]; exact hy) (h p e R s m args below meth c H locs ls cells slots n0 QQ hF hU hR ha hh hK hc1 hc2 hW hS hL)
theorem cz_dup2l {x : Value} (hd : decode M.2.1 pc = .ok (.dup2, 1)) (hx : x.category = 2) (hp : pc + 1 = pc') (h : Cc G M nE pc' L (x :: x :: S) σ Q) : Cc G M nE pc L (x :: S) σ Q := by
  subst hp
  intro p e R s m args below meth c H locs ls cells slots n0 QQ hF hU hR ha hh hK hc1 hc2 hW hS hL
  exact lv_dup2_2 hF.1 hF.2.1 hd (by rw [g_tr_cat]; exact hx) (h p e R s m args below meth c H locs ls cells slots n0 QQ hF hU hR ha hh hK hc1 hc2 hW hS hL)
theorem cz_pop {x : Value} (hd : decode M.2.1 pc = .ok (.pop, 1)) (hv : x.category = 1) (hp : pc + 1 = pc') (h : Cc G M nE pc' L (S) σ Q) : Cc G M nE pc L (x :: S) σ Q := by
  subst hp
  intro p e R s m args below meth c H locs ls cells slots n0 QQ hF hU hR ha hh hK hc1 hc2 hW hS hL
  exact lv_pop hF.1 hF.2.1 hd (by rw [g_tr_cat]; exact hv) (h p e R s m args below meth c H locs ls cells slots n0 QQ hF hU hR ha hh hK hc1 hc2 hW hS hL)
theorem cz_ldc {i : Nat} {v : Int32} (hd : decode M.2.1 pc = .ok (.ldc i, 2)) (hw : Cond.constant M.1.cls i v ∈ gw) (hp : pc + 2 = pc') (h : Cc G M nE pc' L (.int v :: S) σ Q) : Cc G M nE pc L S σ Q := by
  subst hp
  intro p e R s m args below meth c H locs ls cells slots n0 QQ hF hU hR ha hh hK hc1 hc2 hW hS hL
  exact lv_ldc hF.1 hF.2.1 hF.2.2.2.1 (hF.2.2.2.2.1 _ hw) hd (h p e R s m args below meth c H locs ls cells slots n0 QQ hF hU hR ha hh hK hc1 hc2 hW hS hL)
theorem cz_ldc2 {i : Nat} {v : Int64} (hd : decode M.2.1 pc = .ok (.ldc2_w i, 3)) (hw : Cond.constantLong M.1.cls i v ∈ gw) (hp : pc + 3 = pc') (h : Cc G M nE pc' L (.long v :: S) σ Q) : Cc G M nE pc L S σ Q := by
  subst hp
  intro p e R s m args below meth c H locs ls cells slots n0 QQ hF hU hR ha hh hK hc1 hc2 hW hS hL
  exact lv_ldc2 hF.1 hF.2.1 hF.2.2.2.1 (hF.2.2.2.2.1 _ hw) hd (h p e R s m args below meth c H locs ls cells slots n0 QQ hF hU hR ha hh hK hc1 hc2 hW hS hL)
theorem cz_ldcs {i : Nat} (hi : i < 4) (hd : decode M.2.1 pc = .ok (.ldc (g_sidx i), 2)) (hw : M.1.cls = RX8) (hp : pc + 2 = pc') (h : Cc G M nE pc' L (.ref (1001 + i) :: S) σ Q) : Cc G M nE pc L S σ Q := by
  subst hp
  intro p e R s m args below meth c H locs ls cells slots n0 QQ hF hU hR ha hh hK hc1 hc2 hW hS hL
  have hq := hU.2.2.1.2.1 i hi
  rw [← hw] at hq
  refine va_ldcS hF.1 hF.2.1 hF.2.2.2.1 hq hd (W.eq (congrArg (F0 m (pc + 2) ls) ?_) (h p e R s m args below meth c H locs ls cells slots n0 QQ hF hU hR ha hh hK hc1 hc2 hW hS hL))
  show _ = Value.ref (g_ad G (1001 + i)) :: _
  rw [show g_ad G (1001 + i) = g_s G (1 + i) by unfold g_ad; rw [if_neg (by omega), show 1001 + i - 1000 = 1 + i by omega]]
theorem cz_goto {off : Int} (hd : decode M.2.1 pc = .ok (.goto off, 3)) (ht : (pc : Int) + off = (pc' : Int)) (h : Cc G M nE pc' L S σ Q) : Cc G M nE pc L S σ Q := by
  intro p e R s m args below meth c H locs ls cells slots n0 QQ hF hU hR ha hh hK hc1 hc2 hW hS hL
  exact lv_goto hF.1 hF.2.1 hd ht (h p e R s m args below meth c H locs ls cells slots n0 QQ hF hU hR ha hh hK hc1 hc2 hW hS hL)
theorem cz_if_eq {x : Int32} {off : Int} {tgt : Nat} (hd : decode M.2.1 pc = .ok (.ifCond .eq off, 3)) (ht : (pc : Int) + off = (tgt : Int)) (hp : pc + 3 = pc') (kt : x = 0 → Cc G M nE tgt L S σ Q) (kf : ¬ x = 0 → Cc G M nE pc' L S σ Q) : Cc G M nE pc L (.int x :: S) σ Q := by
  subst hp
  intro p e R s m args below meth c H locs ls cells slots n0 QQ hF hU hR ha hh hK hc1 hc2 hW hS hL
  exact lv_if_eq hF.1 hF.2.1 hd ht (fun q => kt q p e R s m args below meth c H locs ls cells slots n0 QQ hF hU hR ha hh hK hc1 hc2 hW hS hL) (fun q => kf q p e R s m args below meth c H locs ls cells slots n0 QQ hF hU hR ha hh hK hc1 hc2 hW hS hL)
theorem cz_icmp_eq {x y : Int32} {off : Int} {tgt : Nat} (hd : decode M.2.1 pc = .ok (.if_icmp .eq off, 3)) (ht : (pc : Int) + off = (tgt : Int)) (hp : pc + 3 = pc') (kt : x = y → Cc G M nE tgt L S σ Q) (kf : ¬ x = y → Cc G M nE pc' L S σ Q) : Cc G M nE pc L (.int y :: .int x :: S) σ Q := by
  subst hp
  intro p e R s m args below meth c H locs ls cells slots n0 QQ hF hU hR ha hh hK hc1 hc2 hW hS hL
  exact lv_icmp_eq hF.1 hF.2.1 hd ht (fun q => kt q p e R s m args below meth c H locs ls cells slots n0 QQ hF hU hR ha hh hK hc1 hc2 hW hS hL) (fun q => kf q p e R s m args below meth c H locs ls cells slots n0 QQ hF hU hR ha hh hK hc1 hc2 hW hS hL)
theorem cz_if_ne {x : Int32} {off : Int} {tgt : Nat} (hd : decode M.2.1 pc = .ok (.ifCond .ne off, 3)) (ht : (pc : Int) + off = (tgt : Int)) (hp : pc + 3 = pc') (kt : ¬ x = 0 → Cc G M nE tgt L S σ Q) (kf : x = 0 → Cc G M nE pc' L S σ Q) : Cc G M nE pc L (.int x :: S) σ Q := by
  subst hp
  intro p e R s m args below meth c H locs ls cells slots n0 QQ hF hU hR ha hh hK hc1 hc2 hW hS hL
  exact lv_if_ne hF.1 hF.2.1 hd ht (fun q => kt q p e R s m args below meth c H locs ls cells slots n0 QQ hF hU hR ha hh hK hc1 hc2 hW hS hL) (fun q => kf q p e R s m args below meth c H locs ls cells slots n0 QQ hF hU hR ha hh hK hc1 hc2 hW hS hL)
theorem cz_icmp_ne {x y : Int32} {off : Int} {tgt : Nat} (hd : decode M.2.1 pc = .ok (.if_icmp .ne off, 3)) (ht : (pc : Int) + off = (tgt : Int)) (hp : pc + 3 = pc') (kt : ¬ x = y → Cc G M nE tgt L S σ Q) (kf : x = y → Cc G M nE pc' L S σ Q) : Cc G M nE pc L (.int y :: .int x :: S) σ Q := by
  subst hp
  intro p e R s m args below meth c H locs ls cells slots n0 QQ hF hU hR ha hh hK hc1 hc2 hW hS hL
  exact lv_icmp_ne hF.1 hF.2.1 hd ht (fun q => kt q p e R s m args below meth c H locs ls cells slots n0 QQ hF hU hR ha hh hK hc1 hc2 hW hS hL) (fun q => kf q p e R s m args below meth c H locs ls cells slots n0 QQ hF hU hR ha hh hK hc1 hc2 hW hS hL)
theorem cz_if_lt {x : Int32} {off : Int} {tgt : Nat} (hd : decode M.2.1 pc = .ok (.ifCond .lt off, 3)) (ht : (pc : Int) + off = (tgt : Int)) (hp : pc + 3 = pc') (kt : x < 0 → Cc G M nE tgt L S σ Q) (kf : ¬ x < 0 → Cc G M nE pc' L S σ Q) : Cc G M nE pc L (.int x :: S) σ Q := by
  subst hp
  intro p e R s m args below meth c H locs ls cells slots n0 QQ hF hU hR ha hh hK hc1 hc2 hW hS hL
  exact lv_if_lt hF.1 hF.2.1 hd ht (fun q => kt q p e R s m args below meth c H locs ls cells slots n0 QQ hF hU hR ha hh hK hc1 hc2 hW hS hL) (fun q => kf q p e R s m args below meth c H locs ls cells slots n0 QQ hF hU hR ha hh hK hc1 hc2 hW hS hL)
theorem cz_icmp_lt {x y : Int32} {off : Int} {tgt : Nat} (hd : decode M.2.1 pc = .ok (.if_icmp .lt off, 3)) (ht : (pc : Int) + off = (tgt : Int)) (hp : pc + 3 = pc') (kt : x < y → Cc G M nE tgt L S σ Q) (kf : ¬ x < y → Cc G M nE pc' L S σ Q) : Cc G M nE pc L (.int y :: .int x :: S) σ Q := by
  subst hp
  intro p e R s m args below meth c H locs ls cells slots n0 QQ hF hU hR ha hh hK hc1 hc2 hW hS hL
  exact lv_icmp_lt hF.1 hF.2.1 hd ht (fun q => kt q p e R s m args below meth c H locs ls cells slots n0 QQ hF hU hR ha hh hK hc1 hc2 hW hS hL) (fun q => kf q p e R s m args below meth c H locs ls cells slots n0 QQ hF hU hR ha hh hK hc1 hc2 hW hS hL)
theorem cz_if_ge {x : Int32} {off : Int} {tgt : Nat} (hd : decode M.2.1 pc = .ok (.ifCond .ge off, 3)) (ht : (pc : Int) + off = (tgt : Int)) (hp : pc + 3 = pc') (kt : 0 ≤ x → Cc G M nE tgt L S σ Q) (kf : ¬ 0 ≤ x → Cc G M nE pc' L S σ Q) : Cc G M nE pc L (.int x :: S) σ Q := by
  subst hp
  intro p e R s m args below meth c H locs ls cells slots n0 QQ hF hU hR ha hh hK hc1 hc2 hW hS hL
  exact lv_if_ge hF.1 hF.2.1 hd ht (fun q => kt q p e R s m args below meth c H locs ls cells slots n0 QQ hF hU hR ha hh hK hc1 hc2 hW hS hL) (fun q => kf q p e R s m args below meth c H locs ls cells slots n0 QQ hF hU hR ha hh hK hc1 hc2 hW hS hL)
theorem cz_icmp_ge {x y : Int32} {off : Int} {tgt : Nat} (hd : decode M.2.1 pc = .ok (.if_icmp .ge off, 3)) (ht : (pc : Int) + off = (tgt : Int)) (hp : pc + 3 = pc') (kt : y ≤ x → Cc G M nE tgt L S σ Q) (kf : ¬ y ≤ x → Cc G M nE pc' L S σ Q) : Cc G M nE pc L (.int y :: .int x :: S) σ Q := by
  subst hp
  intro p e R s m args below meth c H locs ls cells slots n0 QQ hF hU hR ha hh hK hc1 hc2 hW hS hL
  exact lv_icmp_ge hF.1 hF.2.1 hd ht (fun q => kt q p e R s m args below meth c H locs ls cells slots n0 QQ hF hU hR ha hh hK hc1 hc2 hW hS hL) (fun q => kf q p e R s m args below meth c H locs ls cells slots n0 QQ hF hU hR ha hh hK hc1 hc2 hW hS hL)
theorem cz_if_gt {x : Int32} {off : Int} {tgt : Nat} (hd : decode M.2.1 pc = .ok (.ifCond .gt off, 3)) (ht : (pc : Int) + off = (tgt : Int)) (hp : pc + 3 = pc') (kt : 0 < x → Cc G M nE tgt L S σ Q) (kf : ¬ 0 < x → Cc G M nE pc' L S σ Q) : Cc G M nE pc L (.int x :: S) σ Q := by
  subst hp
  intro p e R s m args below meth c H locs ls cells slots n0 QQ hF hU hR ha hh hK hc1 hc2 hW hS hL
  exact lv_if_gt hF.1 hF.2.1 hd ht (fun q => kt q p e R s m args below meth c H locs ls cells slots n0 QQ hF hU hR ha hh hK hc1 hc2 hW hS hL) (fun q => kf q p e R s m args below meth c H locs ls cells slots n0 QQ hF hU hR ha hh hK hc1 hc2 hW hS hL)
theorem cz_icmp_gt {x y : Int32} {off : Int} {tgt : Nat} (hd : decode M.2.1 pc = .ok (.if_icmp .gt off, 3)) (ht : (pc : Int) + off = (tgt : Int)) (hp : pc + 3 = pc') (kt : y < x → Cc G M nE tgt L S σ Q) (kf : ¬ y < x → Cc G M nE pc' L S σ Q) : Cc G M nE pc L (.int y :: .int x :: S) σ Q := by
  subst hp
  intro p e R s m args below meth c H locs ls cells slots n0 QQ hF hU hR ha hh hK hc1 hc2 hW hS hL
  exact lv_icmp_gt hF.1 hF.2.1 hd ht (fun q => kt q p e R s m args below meth c H locs ls cells slots n0 QQ hF hU hR ha hh hK hc1 hc2 hW hS hL) (fun q => kf q p e R s m args below meth c H locs ls cells slots n0 QQ hF hU hR ha hh hK hc1 hc2 hW hS hL)
theorem cz_if_le {x : Int32} {off : Int} {tgt : Nat} (hd : decode M.2.1 pc = .ok (.ifCond .le off, 3)) (ht : (pc : Int) + off = (tgt : Int)) (hp : pc + 3 = pc') (kt : x ≤ 0 → Cc G M nE tgt L S σ Q) (kf : ¬ x ≤ 0 → Cc G M nE pc' L S σ Q) : Cc G M nE pc L (.int x :: S) σ Q := by
  subst hp
  intro p e R s m args below meth c H locs ls cells slots n0 QQ hF hU hR ha hh hK hc1 hc2 hW hS hL
  exact lv_if_le hF.1 hF.2.1 hd ht (fun q => kt q p e R s m args below meth c H locs ls cells slots n0 QQ hF hU hR ha hh hK hc1 hc2 hW hS hL) (fun q => kf q p e R s m args below meth c H locs ls cells slots n0 QQ hF hU hR ha hh hK hc1 hc2 hW hS hL)
theorem cz_icmp_le {x y : Int32} {off : Int} {tgt : Nat} (hd : decode M.2.1 pc = .ok (.if_icmp .le off, 3)) (ht : (pc : Int) + off = (tgt : Int)) (hp : pc + 3 = pc') (kt : x ≤ y → Cc G M nE tgt L S σ Q) (kf : ¬ x ≤ y → Cc G M nE pc' L S σ Q) : Cc G M nE pc L (.int y :: .int x :: S) σ Q := by
  subst hp
  intro p e R s m args below meth c H locs ls cells slots n0 QQ hF hU hR ha hh hK hc1 hc2 hW hS hL
  exact lv_icmp_le hF.1 hF.2.1 hd ht (fun q => kt q p e R s m args below meth c H locs ls cells slots n0 QQ hF hU hR ha hh hK hc1 hc2 hW hS hL) (fun q => kf q p e R s m args below meth c H locs ls cells slots n0 QQ hF hU hR ha hh hK hc1 hc2 hW hS hL)
theorem cz_tabIn {dflt lo hi off : Int} {offs : Array Int} {len tgt : Nat} {x : Int32} (hd : decode M.2.1 pc = .ok (.tableswitch dflt lo hi offs, len)) (h1 : lo ≤ x.toInt) (h2 : x.toInt ≤ hi) (ho : offs[(x.toInt - lo).toNat]? = some off) (ht : (pc : Int) + off = (tgt : Int)) (h : Cc G M nE tgt L S σ Q) : Cc G M nE pc L (.int x :: S) σ Q := by
  intro p e R s m args below meth c H locs ls cells slots n0 QQ hF hU hR ha hh hK hc1 hc2 hW hS hL
  exact lv_tableIn hF.1 hF.2.1 hd (by omega) (by omega) ho ht (h p e R s m args below meth c H locs ls cells slots n0 QQ hF hU hR ha hh hK hc1 hc2 hW hS hL)
theorem cz_tabOut {dflt lo hi : Int} {offs : Array Int} {len tgt : Nat} {x : Int32} (hd : decode M.2.1 pc = .ok (.tableswitch dflt lo hi offs, len)) (h1 : x.toInt < lo ∨ hi < x.toInt) (ht : (pc : Int) + dflt = (tgt : Int)) (h : Cc G M nE tgt L S σ Q) : Cc G M nE pc L (.int x :: S) σ Q := by
  intro p e R s m args below meth c H locs ls cells slots n0 QQ hF hU hR ha hh hK hc1 hc2 hW hS hL
  exact lv_tableOut hF.1 hF.2.1 hd h1 ht (h p e R s m args below meth c H locs ls cells slots n0 QQ hF hU hR ha hh hK hc1 hc2 hW hS hL)
theorem cz_ret {v : Option Value} (hd : decode M.2.1 pc = .ok (g_rti v, 1)) (hr : g_rok M.2.2.2.1 v) (hn : σ.2.2.2 = nE) (hq : Q v σ) : Cc G M nE pc L v.toList σ Q := by
  intro p e R s m args below meth c H locs ls cells slots n0 QQ hF hU hR ha hh hK hc1 hc2 hW hS hL
  have e1 : cells = nE - n0 := by omega
  have e2 : slots = g_sz nE - g_sz n0 := by rw [← hn]; omega
  subst e1; subst e2
  exact hK v σ H locs pc ls hq hn hW hS hd hr
theorem cz_iret {x : Int32} {ty : FieldType} (hd : decode M.2.1 pc = .ok (.ireturn, 1)) (hr : M.2.2.2.1 = some ty) (hx : narrow ty (.int x) = .int x) (hn : σ.2.2.2 = nE) (hq : Q (some (.int x)) σ) : Cc G M nE pc L [.int x] σ Q := cz_ret (v := some (.int x)) hd ⟨ty, hr, hx⟩ hn hq
theorem cz_lret {x : Int64} (hd : decode M.2.1 pc = .ok (.lreturn, 1)) (hr : M.2.2.2.1 = some .long) (hn : σ.2.2.2 = nE) (hq : Q (some (.long x)) σ) : Cc G M nE pc L [.long x] σ Q := cz_ret (v := some (.long x)) hd hr hn hq
theorem cz_aret {x : Nat} {n : String} (hd : decode M.2.1 pc = .ok (.areturn, 1)) (hr : M.2.2.2.1 = some (.object n)) (hn : σ.2.2.2 = nE) (hq : Q (some (.ref x)) σ) : Cc G M nE pc L [.ref x] σ Q := cz_ret (v := some (.ref x)) hd ⟨n, hr⟩ hn hq
theorem cz_vret (hd : decode M.2.1 pc = .ok (.return_, 1)) (hr : M.2.2.2.1 = none) (hn : σ.2.2.2 = nE) (hq : Q none σ) : Cc G M nE pc L [] σ Q := cz_ret (v := none) hd hr hn hq
theorem cz_mono {Q' : Option Value → St → Prop} (h : Cc G M nE pc L S σ Q') (hq : ∀ v τ, Q' v τ → τ.2.2.2 = nE → Q v τ) : Cc G M nE pc L S σ Q := by
  intro p e R s m args below meth c H locs ls cells slots n0 QQ hF hU hR ha hh hK hc1 hc2 hW hS hL
  exact h p e R s m args below meth c H locs ls cells slots n0 QQ hF hU hR ha hh (fun v τ H' locs' pc' ls' a b => hK v τ H' locs' pc' ls' (hq v τ a b) b) hc1 hc2 hW hS hL
theorem cz_less {L' : List (Option Value)} (hl : ∀ (i : Nat) (v : Value), L'[i]? = some (some v) → L[i]? = some (some v)) (h : Cc G M nE pc L' S σ Q) : Cc G M nE pc L S σ Q := by
  intro p e R s m args below meth c H locs ls cells slots n0 QQ hF hU hR ha hh hK hc1 hc2 hW hS hL
  exact h p e R s m args below meth c H locs ls cells slots n0 QQ hF hU hR ha hh hK hc1 hc2 hW hS ⟨hL.1, hL.2.1, fun i v q => hL.2.2 i v (hl i v q)⟩
end
def g_la (G : Wd) (L : List (Option Value)) : List (Nat × Value) := L.zipIdx.filterMap (fun q => q.1.map (fun v => (q.2, g_tr G v)))
theorem g_la_mem {G : Wd} {L : List (Option Value)} {j : Nat} {u : Value} : (j, u) ∈ g_la G L ↔ ∃ w, L[j]? = some (some w) ∧ u = g_tr G w := by
  unfold g_la
  rw [List.mem_filterMap]
  constructor
  · rintro ⟨⟨a, i⟩, h1, h2⟩
    have h3 := List.mem_zipIdx_iff_getElem?.mp h1
    cases a with
    | none => cases h2
    | some w =>
      simp only [Option.map_some, Option.some.injEq, Prod.mk.injEq] at h2
      obtain ⟨rfl, rfl⟩ := h2
      exact ⟨w, h3, rfl⟩
  · rintro ⟨w, h1, rfl⟩
    exact ⟨(some w, j), List.mem_zipIdx_iff_getElem?.mpr h1, rfl⟩
theorem g_LO_has {G : Wd} {ls : Array Slot} {nL : Nat} {L : List (Option Value)} (h : g_LO G ls nL L) : lv_has ls nL (g_la G L) := by
  refine ⟨h.1, h.2.1, fun q hq => ?_⟩
  obtain ⟨j, u⟩ := q
  obtain ⟨w, h1, rfl⟩ := g_la_mem.mp hq
  exact h.2.2 j w h1
/-- a long that begins just ahead of a place is lost -/
def g_dl (L : List (Option Value)) (i : Nat) : List (Option Value) := match i with
  | 0 => L
  | j + 1 => match L[j]? with
    | some (some w) => if w.category = 2 then L.set j none else L
    | _ => L
theorem g_dl_at {L : List (Option Value)} {i j : Nat} {w : Value} (h : (g_dl L i)[j]? = some (some w)) : L[j]? = some (some w) ∧ ¬ (j + 1 = i ∧ w.category = 2) := by
  cases i with
  | zero => exact ⟨h, fun q => absurd q.1 (by omega)⟩
  | succ a =>
    unfold g_dl at h
    simp only at h
    split at h
    · rename_i w0 hw
      by_cases hc : w0.category = 2
      · rw [if_pos hc] at h
        by_cases hj : j = a
        · subst hj
          have hl := (List.getElem?_eq_some_iff.mp hw).1
          rw [List.getElem?_set_self hl] at h
          cases h
        · rw [List.getElem?_set_ne (Ne.symm hj)] at h
          exact ⟨h, fun q => hj (by omega)⟩
      · rw [if_neg hc] at h
        refine ⟨h, fun q => ?_⟩
        have : j = a := by omega
        subst this
        rw [hw] at h
        cases h
        exact hc q.2
    · rename_i hne
      refine ⟨h, fun q => ?_⟩
      have : j = a := by omega
      subst this
      exact hne w h
def g_st1 (L : List (Option Value)) (i : Nat) (v : Value) : List (Option Value) := (g_dl L i).set i (some v)
def g_st2 (L : List (Option Value)) (i : Nat) (v : Value) : List (Option Value) := ((g_dl L i).set i (some v)).set (i + 1) none
theorem g_st1_at {L : List (Option Value)} {i j : Nat} {v w : Value} (h : (g_st1 L i v)[j]? = some (some w)) : (j = i ∧ w = v) ∨ (j ≠ i ∧ L[j]? = some (some w) ∧ ¬ (j + 1 = i ∧ w.category = 2)) := by
  unfold g_st1 at h
  by_cases hj : j = i
  · subst hj
    rw [List.getElem?_set] at h
    simp only [if_true] at h
    split at h
    · cases h; exact Or.inl ⟨rfl, rfl⟩
    · cases h
  · rw [List.getElem?_set_ne (Ne.symm hj)] at h
    exact Or.inr ⟨hj, g_dl_at h⟩
theorem g_st2_at {L : List (Option Value)} {i j : Nat} {v w : Value} (h : (g_st2 L i v)[j]? = some (some w)) : (j = i ∧ w = v) ∨ (j ≠ i ∧ j ≠ i + 1 ∧ L[j]? = some (some w) ∧ ¬ (j + 1 = i ∧ w.category = 2)) := by
  unfold g_st2 at h
  by_cases hj : j = i + 1
  · subst hj
    rw [List.getElem?_set] at h
    simp only [if_true] at h
    split at h <;> cases h
  · rw [List.getElem?_set_ne (Ne.symm hj)] at h
    rcases g_st1_at h with q | q
    · exact Or.inl q
    · exact Or.inr ⟨q.1, hj, q.2⟩
theorem g_LO_st1 {G : Wd} {ls : Array Slot} {nL i : Nat} {v : Value} {L : List (Option Value)} (h : lv_has ls nL ((i, g_tr G v) :: (g_la G L).filter (fun q => !(q.1 == i) && !(q.1 + 1 == i && q.2.category == 2)))) : g_LO G ls nL (g_st1 L i v) := by
  refine ⟨h.1, h.2.1, fun j w hj => h.2.2 (j, g_tr G w) ?_⟩
  rcases g_st1_at hj with ⟨rfl, rfl⟩ | ⟨h1, h2, h3⟩
  · exact List.mem_cons_self
  · refine List.mem_cons_of_mem _ (List.mem_filter.mpr ⟨g_la_mem.mpr ⟨w, h2, rfl⟩, ?_⟩)
    simp only [g_tr_cat]
    simp only [Bool.and_eq_true, Bool.not_eq_true', beq_eq_false_iff_ne, ne_eq, Bool.and_eq_false_iff, h1, not_false_eq_true, true_and]
    by_cases q : j + 1 = i
    · exact Or.inr (fun z => h3 ⟨q, z⟩)
    · exact Or.inl q
theorem g_LO_st2 {G : Wd} {ls : Array Slot} {nL i : Nat} {v : Value} {L : List (Option Value)} (h : lv_has ls nL ((i, g_tr G v) :: (g_la G L).filter (fun q => !(q.1 == i) && (!(q.1 == i + 1) && !(q.1 + 1 == i && q.2.category == 2))))) : g_LO G ls nL (g_st2 L i v) := by
  refine ⟨h.1, h.2.1, fun j w hj => h.2.2 (j, g_tr G w) ?_⟩
  rcases g_st2_at hj with ⟨rfl, rfl⟩ | ⟨h1, h0, h2, h3⟩
  · exact List.mem_cons_self
  · refine List.mem_cons_of_mem _ (List.mem_filter.mpr ⟨g_la_mem.mpr ⟨w, h2, rfl⟩, ?_⟩)
    simp only [g_tr_cat]
    simp only [Bool.and_eq_true, Bool.not_eq_true', beq_eq_false_iff_ne, ne_eq, Bool.and_eq_false_iff, h1, h0, not_false_eq_true, true_and]
    by_cases q : j + 1 = i
    · exact Or.inr (fun z => h3 ⟨q, z⟩)
    · exact Or.inl q

section
variable {G : Wd} {M : MD} {nE pc pc' : Nat} {L L' : List (Option Value)} {S : List Value} {σ : St} {Q : Option Value → St → Prop}
theorem cz_istore {i : Nat} {x : Int32} (hd : decode M.2.1 pc = .ok (.istore i, 2)) (hi : i < M.2.2.1) (hl : g_st1 L i (.int x) = L') (hp : pc + 2 = pc') (h : Cc G M nE pc' L' S σ Q) : Cc G M nE pc L (.int x :: S) σ Q := by
  subst hp; subst hl
  intro p e R s m args below meth c H locs ls cells slots n0 QQ hF hU hR ha hh hK hc1 hc2 hW hS hL
  refine lv_istore hF.1 hF.2.1 hd (g_LO_has hL) hi rfl (fun ls' hl => ?_)
  exact h p e R s m args below meth c H locs ls' cells slots n0 QQ hF hU hR ha hh hK hc1 hc2 hW hS (g_LO_st1 (v := .int x) hl)
theorem cz_istore_n {i : Fin 4} {x : Int32} (hd : decode M.2.1 pc = .ok (.istore_n i, 1)) (hi : (i : Nat) < M.2.2.1) (hl : g_st1 L (i : Nat) (.int x) = L') (hp : pc + 1 = pc') (h : Cc G M nE pc' L' S σ Q) : Cc G M nE pc L (.int x :: S) σ Q := by
  subst hp; subst hl
  intro p e R s m args below meth c H locs ls cells slots n0 QQ hF hU hR ha hh hK hc1 hc2 hW hS hL
  refine lv_istore_n hF.1 hF.2.1 hd rfl (g_LO_has hL) hi rfl (fun ls' hl => ?_)
  exact h p e R s m args below meth c H locs ls' cells slots n0 QQ hF hU hR ha hh hK hc1 hc2 hW hS (g_LO_st1 (v := .int x) hl)
theorem cz_lstore {i : Nat} {x : Int64} (hd : decode M.2.1 pc = .ok (.lstore i, 2)) (hi : i + 1 < M.2.2.1) (hl : g_st2 L i (.long x) = L') (hp : pc + 2 = pc') (h : Cc G M nE pc' L' S σ Q) : Cc G M nE pc L (.long x :: S) σ Q := by
  subst hp; subst hl
  intro p e R s m args below meth c H locs ls cells slots n0 QQ hF hU hR ha hh hK hc1 hc2 hW hS hL
  refine lv_lstore hF.1 hF.2.1 hd (g_LO_has hL) hi rfl (fun ls' hl => ?_)
  exact h p e R s m args below meth c H locs ls' cells slots n0 QQ hF hU hR ha hh hK hc1 hc2 hW hS (g_LO_st2 (v := .long x) hl)
theorem cz_lstore_n {i : Fin 4} {x : Int64} (hd : decode M.2.1 pc = .ok (.lstore_n i, 1)) (hi : (i : Nat) + 1 < M.2.2.1) (hl : g_st2 L (i : Nat) (.long x) = L') (hp : pc + 1 = pc') (h : Cc G M nE pc' L' S σ Q) : Cc G M nE pc L (.long x :: S) σ Q := by
  subst hp; subst hl
  intro p e R s m args below meth c H locs ls cells slots n0 QQ hF hU hR ha hh hK hc1 hc2 hW hS hL
  refine lv_lstore_n hF.1 hF.2.1 hd rfl (g_LO_has hL) hi rfl (fun ls' hl => ?_)
  exact h p e R s m args below meth c H locs ls' cells slots n0 QQ hF hU hR ha hh hK hc1 hc2 hW hS (g_LO_st2 (v := .long x) hl)
theorem cz_astore {i : Nat} {x : Nat} (hd : decode M.2.1 pc = .ok (.astore i, 2)) (hi : i < M.2.2.1) (hl : g_st1 L i (.ref x) = L') (hp : pc + 2 = pc') (h : Cc G M nE pc' L' S σ Q) : Cc G M nE pc L (.ref x :: S) σ Q := by
  subst hp; subst hl
  intro p e R s m args below meth c H locs ls cells slots n0 QQ hF hU hR ha hh hK hc1 hc2 hW hS hL
  refine lv_astore hF.1 hF.2.1 hd (g_LO_has hL) hi rfl (fun ls' hl => ?_)
  exact h p e R s m args below meth c H locs ls' cells slots n0 QQ hF hU hR ha hh hK hc1 hc2 hW hS (g_LO_st1 (v := .ref x) hl)
theorem cz_astore_n {i : Fin 4} {x : Nat} (hd : decode M.2.1 pc = .ok (.astore_n i, 1)) (hi : (i : Nat) < M.2.2.1) (hl : g_st1 L (i : Nat) (.ref x) = L') (hp : pc + 1 = pc') (h : Cc G M nE pc' L' S σ Q) : Cc G M nE pc L (.ref x :: S) σ Q := by
  subst hp; subst hl
  intro p e R s m args below meth c H locs ls cells slots n0 QQ hF hU hR ha hh hK hc1 hc2 hW hS hL
  refine lv_astore_n hF.1 hF.2.1 hd rfl (g_LO_has hL) hi rfl (fun ls' hl => ?_)
  exact h p e R s m args below meth c H locs ls' cells slots n0 QQ hF hU hR ha hh hK hc1 hc2 hW hS (g_LO_st1 (v := .ref x) hl)
theorem cz_iinc {i : Nat} {n : Int} {x v : Int32} (hd : decode M.2.1 pc = .ok (.iinc i n, 3)) (hi : i < M.2.2.1) (hx : L[i]? = some (some (.int x))) (hv : x + Int32.ofInt n = v) (hl : g_st1 L i (.int v) = L') (hp : pc + 3 = pc') (h : Cc G M nE pc' L' S σ Q) : Cc G M nE pc L S σ Q := by
  subst hp; subst hl
  intro p e R s m args below meth c H locs ls cells slots n0 QQ hF hU hR ha hh hK hc1 hc2 hW hS hL
  obtain ⟨k, hk⟩ := List.getElem?_of_mem (g_la_mem.mpr ⟨_, hx, rfl⟩ : (i, g_tr G (.int x)) ∈ g_la G L)
  refine lv_iinc (v := v) hF.1 hF.2.1 hd (g_LO_has hL) hk hv hi rfl (fun ls' hl => ?_)
  exact h p e R s m args below meth c H locs ls' cells slots n0 QQ hF hU hR ha hh hK hc1 hc2 hW hS (g_LO_st1 (v := .int v) hl)
end
end
section
/-! fields, arrays, what is made -/
theorem g_uin (ci : Nat) (q : vw_C) (h : classes[ci]? = some q) : ∀ w ∈ u_ws q.1 q.2.1 q.2.2, w ∈ gw := by
  have key : (classes.all fun q => (u_ws q.1 q.2.1 q.2.2).all fun w => gw.contains w) = true := by decide +kernel
  intro w hw
  have h1 := List.all_eq_true.mp key q (List.mem_of_getElem? h)
  have h2 := List.all_eq_true.mp h1 w hw
  exact List.contains_iff_mem.mp h2
theorem g_typ (ci : Nat) (q : vw_C) (h : classes[ci]? = some q) : ∀ k, k < q.2.2 → parseFieldDescriptor (q.2.1 k).2.2.1 = some (g_fty ci k) := by
  match ci, h with
  | 0, h => cases h; exact tyX0_ok
  | 1, h => cases h; exact tyX1_ok
  | 2, h => cases h; exact tyX2_ok
  | 3, h => cases h; exact tyX3_ok
  | 4, h => cases h; exact tyX4_ok
  | 5, h => cases h; exact tyX5_ok
  | 6, h => cases h; exact tyX6_ok
  | 7, h => cases h; exact tyX7_ok
  | 8, h => cases h; exact tyX8_ok
  | 9, h => cases h; exact tyX9_ok
  | 10, h => cases h; exact tyX10_ok
  | 11, h => cases h; exact tyX11_ok
  | n + 12, h => simp [classes] at h
theorem g_nam (ci : Nat) (q : vw_C) (h : classes[ci]? = some q) : ∀ a, a < q.2.2 → ∀ b, b < q.2.2 → a ≠ b → (q.2.1 a).2.1 ≠ (q.2.1 b).2.1 := by
  match ci, h with
  | 0, h => cases h; exact nmX0
  | 1, h => cases h; exact nmX1
  | 2, h => cases h; exact nmX2
  | 3, h => cases h; exact nmX3
  | 4, h => cases h; exact nmX4
  | 5, h => cases h; exact nmX5
  | 6, h => cases h; exact nmX6
  | 7, h => cases h; exact nmX7
  | 8, h => cases h; exact nmX8
  | 9, h => cases h; exact nmX9
  | 10, h => cases h; exact nmX10
  | 11, h => cases h; exact nmX11
  | n + 12, h => simp [classes] at h
/-- a field's link: class, place -/
def g_Gf (own : String) (idx ci j : Nat) : Prop := ∃ (C : String) (T : u_T) (N : Nat), classes[ci]? = some (C, T, N) ∧ j < N ∧ (Cond.fieldLink own idx (T j).1 (T j).2.1 (T j).2.2.1 ∈ gw ∨ ∃ host, Cond.fieldLinkNest own idx (T j).1 (T j).2.1 (T j).2.2.1 host ∈ nw)
def g_Pf (own : String) (idx ci j : Nat) : Prop := ∃ (C : String) (T : u_T) (N : Nat), classes[ci]? = some (C, T, N) ∧ j < N ∧ (T j).2.2.2 = false ∧ (Cond.fieldLink own idx (T j).1 (T j).2.1 (T j).2.2.1 ∈ gw ∨ ∃ host, Cond.fieldLinkNest own idx (T j).1 (T j).2.1 (T j).2.2.1 host ∈ nw)
def g_Ff (own : String) (idx ci j : Nat) : Prop := ∃ (C : String) (T : u_T) (N : Nat), classes[ci]? = some (C, T, N) ∧ j < N ∧ (T j).2.2.2 = true ∧ (T j).1 = own ∧ Cond.fieldLink own idx (T j).1 (T j).2.1 (T j).2.2.1 ∈ gw
theorem g_fl_at {G : Wd} {σ : St} {k ci j : Nat} (h : j < g_nf ci) : (g_fl G σ k ci)[j]? = some (g_tr G (g_fv σ k (g_fty ci j) j)) := by simp [g_fl, h]
theorem g_nf_eq {ci : Nat} {C : String} {T : u_T} {N : Nat} (h : classes[ci]? = some (C, T, N)) : g_nf ci = N := by simp only [g_nf, h]
theorem g_ws_o {G : Wd} {σ : St} {k ci : Nat} (hk : k < σ.2.2.2) (hs : g_sh k = .inr ci) : (g_ws G σ)[k]? = some (g_a G + k, .inr (ci, g_fl G σ k ci)) := by
  rw [g_ws_at hk]
  simp only [g_en, hs]
theorem g_ws_r {G : Wd} {σ : St} {k t n : Nat} (hk : k < σ.2.2.2) (hs : g_sh k = .inl (t, n)) : (g_ws G σ)[k]? = some (g_a G + k, .inl (g_c G t, n, .inl (σ.1 k))) := by
  rw [g_ws_at hk]
  simp only [g_en, hs]
theorem g_tr_own {G : Wd} {k : Nat} (h : k < 1000) : g_tr G (.ref k) = .ref (g_a G + k) := by
  show Value.ref (g_ad G k) = _
  rw [g_ad_lt h]
section
variable {G : Wd} {M : MD} {nE pc pc' : Nat} {L L' : List (Option Value)} {S : List Value} {σ : St} {Q : Option Value → St → Prop}
theorem cz_getf {idx k ci j : Nat} {v : Value} (hd : decode M.2.1 pc = .ok (.getfield idx, 3)) (hg : g_Gf M.1.cls idx ci j) (hk : k < σ.2.2.2) (hs : g_sh k = .inr ci) (hv : g_fv σ k (g_fty ci j) j = v) (hp : pc + 3 = pc') (h : Cc G M nE pc' L (v :: S) σ Q) : Cc G M nE pc L (.ref k :: S) σ Q := by
  subst hp; subst hv
  intro p e R s m args below meth c H locs ls cells slots n0 QQ hF hU hR ha hh hK hc1 hc2 hW hS hL
  obtain ⟨C, T, N, hc, hj, hl⟩ := hg
  have hk1 : k < 1000 := Nat.lt_of_lt_of_le hk hW.2.2.2
  have hgo := h p e R s m args below meth c H locs ls cells slots n0 QQ hF hU hR ha hh hK hc1 hc2 hW hS hL
  refine W.eq (g2 := F0 m pc ls (.ref (g_a G + k) :: S.map (g_tr G))) (by rw [List.map_cons, g_tr_own hk1]) ?_
  have hv : (g_fl G σ k ci)[j]? = some (g_tr G (g_fv σ k (g_fty ci j) j)) := g_fl_at (by rw [g_nf_eq hc]; exact hj)
  rcases hl with hl | ⟨host, hl⟩
  · exact va_get hF.1 hF.2.1 hF.2.2.2.2.1 (g_uin ci _ hc) hF.2.2.2.1 hU.1 hW.1 k (g_ws_o hk hs) hc j hj (hF.2.2.2.2.1 _ hl) (fun _ h9 => h9) hv hd hgo
  · exact va_getN hF.1 hF.2.1 hF.2.2.2.2.1 (g_uin ci _ hc) hF.2.2.2.1 hU.1 hW.1 k (g_ws_o hk hs) hc j hj (va_Nw.use rfl (hU.2.1 _ hl)) (fun _ h9 => h9) hv hd hgo
/-- one cell of the world set anew -/
theorem g_Wk_set {σ' : St} {H0 H H1 : Heap} {locs : List Loc} {k sl : Nat} {en : va_E} (hW : g_Wk G σ H) (hS : va_S (g_A G) H0 H locs) (hk : k < σ.2.2.2) (hn : σ'.2.2.2 = σ.2.2.2) (he : g_en G σ' k = en) (ho : ∀ i, i ≠ k → g_en G σ' i = g_en G σ i) (hat : va_at (g_D G) classes (g_a G + k, en) H1) (hz : H1.size = H.size) (oq : ∀ q : Nat, q ≠ g_a G + k → H1[q]? = H[q]?) : g_Wk G σ' H1 ∧ va_S (g_A G) H0 H1 (locs ++ [⟨g_a G + k, sl⟩]) := by
  refine ⟨⟨?_, by rw [hz, hn]; exact hW.2.1, fun q hq => ?_, by rw [hn]; exact hW.2.2.2⟩, hS.put hz oq (Nat.le_add_right _ _)⟩
  · rw [← g_ws_set hk hn he ho]
    exact hW.1.set g_ws_D (g_ws_at hk) hat oq
  · rw [oq q (by omega)]
    exact hW.2.2.1 q hq
theorem cz_putA {idx k ci j : Nat} {v : Value} {σ' : St} (hd : decode M.2.1 pc = .ok (.putfield idx, 3)) (hg : g_Pf M.1.cls idx ci j) (hk : k < σ.2.2.2) (hs : g_sh k = .inr ci)
    (hnr : narrow (g_fty ci j) (g_tr G v) = g_tr G v) (hft : fits (g_fty ci j) (g_tr G v) = true) (hn : σ'.2.2.2 = σ.2.2.2) (he : g_fl G σ' k ci = (g_fl G σ k ci).set j (g_tr G v)) (ho : ∀ i, i ≠ k → g_en G σ' i = g_en G σ i) (hp : pc + 3 = pc') (h : Cc G M nE pc' L S σ' Q) : Cc G M nE pc L (v :: .ref k :: S) σ Q := by
  subst hp
  intro p e R s m args below meth c H locs ls cells slots n0 QQ hF hU hR ha hh hK hc1 hc2 hW hS hL
  obtain ⟨C, T, N, hc, hj, hfin, hl⟩ := hg
  have hk1 : k < 1000 := Nat.lt_of_lt_of_le hk hW.2.2.2
  have hjl : j < (g_fl G σ k ci).length := by simp only [g_fl, List.length_map, List.length_range, g_nf_eq hc]; exact hj
  refine W.eq (g2 := F0 m pc ls (g_tr G v :: .ref (g_a G + k) :: S.map (g_tr G))) (by rw [List.map_cons, List.map_cons, g_tr_own hk1]) ?_
  have hap := va_apart (own := M.1.cls) hF.2.2.2.2.1 (g_uin ci _ hc) (g_fty ci) (g_typ ci _ hc) (g_nam ci _ hc) hU.1 hc
  obtain ⟨r, h1, cell, q1, q2, q3, q4⟩ := hW.1 k _ (g_ws_o hk hs)
  cases h1.symm.trans hc
  obtain ⟨hSl, hfc, kC, hkC, hkind⟩ := hU.1.1 ci _ hc
  obtain ⟨cf, kf, fi, f, hi, hsl⟩ := hSl j hj
  have hlay := hF.2.2.2.2.1 _ (g_uin ci _ hc _ (u_in_lay hj))
  unfold u_lay at hlay
  rw [if_neg (by rw [hfin]; decide)] at hlay
  have hst := (u_facts hfc hkC (u_lays hF.2.2.2.2.1 (g_uin ci _ hc) hj) hi).1
  have h6 := u_store hfc hkC hkind hlay hi (g_typ ci _ hc j hj) hnr hft
  have go : ∀ H' : Heap, H'[g_a G + k]? = some (cell.setSlot f.slot (g_tr G v)) → H'.size = H.size → (∀ q, q ≠ g_a G + k → H'[q]? = H[q]?) → W p (g_l G) e R s m args below meth c H' (locs ++ [⟨g_a G + k, f.slot⟩]) cells slots QQ (F0 m (pc + 3) ls (S.map (g_tr G))) := by
    intro H' e1 e2 e3
    rw [hsl] at e1
    obtain ⟨hW', hS'⟩ := g_Wk_set (σ' := σ') (sl := f.slot) hW hS hk hn (by simp only [g_en, hs, he]; rfl) ho ⟨_, hc, t_OB.to (V := updV (vp_V (g_fl G σ k ci)) j (g_tr G v)) ⟨_, e1, q2, q3, t_set q4 hap hj (g_tr G v)⟩ (fun a _ => vp_updV_set hjl (g_tr G v) a)⟩ e2 e3
    exact h p e R s m args below meth c H' _ ls cells slots n0 QQ hF hU hR ha hh hK (by rw [hn]; exact hc1) (by rw [hn]; exact hc2) hW' hS' hL
  rcases hl with hl | ⟨host, hl⟩
  · exact W.putK hF.1 hF.2.1 (f := f) ⟨hF.2.2.2.1, hF.2.2.2.2.1 _ hl, ⟨_, _, _, hi⟩, hst⟩ (by rw [q2]; exact h6) q1 q3 (by rw [hsl]; exact k2_hasslot (q4 j hj)) rfl rfl hd go
  · exact va_WputK hF.1 hF.2.1 (f := f) hF.2.2.2.1 (va_Nw.use rfl (hU.2.1 _ hl)) hi hst (by rw [q2]; exact h6) q1 q3 (by rw [hsl]; exact k2_hasslot (q4 j hj)) rfl rfl hd go
theorem g_fl_set {σ' : St} {k ci j : Nat} {v : Value} (h1 : g_fv σ' k (g_fty ci j) j = v) (h2 : ∀ a, a ≠ j → g_fv σ' k (g_fty ci a) a = g_fv σ k (g_fty ci a) a) : g_fl G σ' k ci = (g_fl G σ k ci).set j (g_tr G v) := by
  apply List.ext_getElem?
  intro a
  by_cases ha : a < g_nf ci
  · rw [g_fl_at ha]
    by_cases haj : a = j
    · subst haj
      rw [List.getElem?_set_self (by simp [g_fl, ha]), h1]
    · rw [List.getElem?_set_ne (Ne.symm haj), g_fl_at ha, h2 a haj]
  · rw [List.getElem?_eq_none (by simp [g_fl]; omega), List.getElem?_eq_none (by simp [g_fl]; omega)]
theorem cz_puti {idx k ci j : Nat} {x : Int32} (hd : decode M.2.1 pc = .ok (.putfield idx, 3)) (hg : g_Pf M.1.cls idx ci j) (hty : g_fty ci j = .int) (hk : k < σ.2.2.2) (hs : g_sh k = .inr ci) (hp : pc + 3 = pc') (h : Cc G M nE pc' L S (g_pr σ k (upd (σ.1 k) j x)) Q) : Cc G M nE pc L (.int x :: .ref k :: S) σ Q := by
  refine cz_putA hd hg hk hs (by rw [hty]; rfl) (by rw [hty]; rfl) (σ' := g_pr σ k (upd (σ.1 k) j x)) rfl (g_fl_set ?_ ?_) (fun i hi => g_en_pr hi) hp h
  · rw [hty]; simp [g_fv, g_pr, upd]
  · intro a ha
    cases g_fty ci a <;> simp [g_fv, g_pr, upd, ha]
theorem cz_putl {idx k ci j : Nat} {x : Int64} (hd : decode M.2.1 pc = .ok (.putfield idx, 3)) (hg : g_Pf M.1.cls idx ci j) (hty : g_fty ci j = .long) (hk : k < σ.2.2.2) (hs : g_sh k = .inr ci) (hp : pc + 3 = pc') (h : Cc G M nE pc' L S (g_pl σ k j x) Q) : Cc G M nE pc L (.long x :: .ref k :: S) σ Q := by
  refine cz_putA hd hg hk hs (by rw [hty]; rfl) (by rw [hty]; rfl) (σ' := g_pl σ k j x) rfl (g_fl_set ?_ ?_) (fun i hi => g_en_pl hi) hp h
  · rw [hty]; simp [g_fv, g_pl]
  · intro a ha
    cases g_fty ci a <;> simp [g_fv, g_pl, ha]
/-- a final field, in a constructor -/
theorem cz_putf {idx k ci j r : Nat} (hd : decode M.2.1 pc = .ok (.putfield idx, 3)) (hg : g_Ff M.1.cls idx ci j) (hin : M.1.name = "<init>") (hty : (∃ n, g_fty ci j = .object n) ∨ ∃ t, g_fty ci j = .array t) (hk : k < σ.2.2.2) (hs : g_sh k = .inr ci) (hp : pc + 3 = pc') (h : Cc G M nE pc' L S (g_prf σ k j (some r)) Q) : Cc G M nE pc L (.ref r :: .ref k :: S) σ Q := by
  subst hp
  intro p e R s m args below meth c H locs ls cells slots n0 QQ hF hU hR ha hh hK hc1 hc2 hW hS hL
  obtain ⟨C, T, N, hc, hj, hfin, hdecl, hl⟩ := hg
  have hk1 : k < 1000 := Nat.lt_of_lt_of_le hk hW.2.2.2
  have hjl : j < (g_fl G σ k ci).length := by simp only [g_fl, List.length_map, List.length_range, g_nf_eq hc]; exact hj
  refine W.eq (g2 := F0 m pc ls (.ref (g_ad G r) :: .ref (g_a G + k) :: S.map (g_tr G))) (by rw [List.map_cons, List.map_cons, g_tr_own hk1]; rfl) ?_
  have hap := va_apart (own := M.1.cls) hF.2.2.2.2.1 (g_uin ci _ hc) (g_fty ci) (g_typ ci _ hc) (g_nam ci _ hc) hU.1 hc
  obtain ⟨r0, h1, cell, q1, q2, q3, q4⟩ := hW.1 k _ (g_ws_o hk hs)
  cases h1.symm.trans hc
  obtain ⟨hSl, hfc, kC, hkC, hkind⟩ := hU.1.1 ci _ hc
  obtain ⟨cf, kf, fi, f, hi, hsl⟩ := hSl j hj
  have hlay := hF.2.2.2.2.1 _ (g_uin ci _ hc _ (u_in_lay hj))
  unfold u_lay at hlay
  rw [if_pos hfin] at hlay
  have hst := (u_facts hfc hkC (u_lays hF.2.2.2.2.1 (g_uin ci _ hc) hj) hi).1
  have hcf : m.cls = cf := by
    obtain ⟨_, _, c', _, _, _, -, -, hf', -, -, -, hown2, -⟩ := Cond.laysFinal_spec hlay
    have e1 : c' = cf := by have := hi.symm.trans hf'; simp at this; exact this.1.symm
    rw [hdecl] at hown2
    rw [← e1]; exact Option.some.inj (hF.2.2.2.1.symm.trans hown2)
  have hnr : narrow (g_fty ci j) (.ref (g_ad G r)) = .ref (g_ad G r) := by rcases hty with ⟨n, e⟩ | ⟨t, e⟩ <;> rw [e] <;> rfl
  have hft : fits (g_fty ci j) (.ref (g_ad G r)) = true := by rcases hty with ⟨n, e⟩ | ⟨t, e⟩ <;> rw [e] <;> rfl
  have h6 := u_fits hfc hkC hkind (Or.inr hlay) hi (g_typ ci _ hc j hj) hnr hft
  refine W.putFinK hF.1 hF.2.1 hF.2.2.2.1 (hF.2.2.2.2.1 _ hl) hi hst hcf (hF.2.2.2.2.2.2.2.trans hin) (by rw [q2]; exact h6) q1 q3 (by rw [hsl]; exact k2_hasslot (q4 j hj)) rfl rfl hd fun H' e1 e2 e3 => ?_
  rw [hsl] at e1
  have he : g_fl G (g_prf σ k j (some r)) k ci = (g_fl G σ k ci).set j (g_tr G (.ref r)) := by
    refine g_fl_set ?_ ?_
    · rcases hty with ⟨n, e⟩ | ⟨t, e⟩ <;> rw [e] <;> simp [g_fv, g_prf, g_rv]
    · intro a ha
      cases g_fty ci a <;> simp [g_fv, g_prf, ha]
  obtain ⟨hW', hS'⟩ := g_Wk_set (σ' := g_prf σ k j (some r)) (sl := f.slot) hW hS hk rfl (by simp only [g_en, hs, he]; rfl) (fun i hi => g_en_prf hi) ⟨_, hc, t_OB.to (V := updV (vp_V (g_fl G σ k ci)) j (g_tr G (.ref r))) ⟨_, e1, q2, q3, t_set q4 hap hj (g_tr G (.ref r))⟩ (fun a _ => vp_updV_set hjl (g_tr G (.ref r)) a)⟩ e2 e3
  exact h p e R s m args below meth c H' _ ls cells slots n0 QQ hF hU hR ha hh hK hc1 hc2 hW' hS' hL
/-! arrays -/
theorem g_in {i : Int32} {j n : Nat} (hj : i.toInt = (j : Int)) (hn : j < n) : vp_in i n ∧ i.toNatClampNeg = j := by
  refine ⟨vp_in_iff.mpr (by omega), ?_⟩
  show i.toInt.toNat = j
  omega
theorem g_en_arr {σ' : St} {k t n : Nat} {f : Nat → Int32} (hs : g_sh k = .inl (t, n)) (h : σ'.1 k = f) : g_en G σ' k = .inl (g_c G t, n, .inl f) := by
  simp only [g_en, hs, h]
theorem cz_iald {k n j : Nat} {i : Int32} (hd : decode M.2.1 pc = .ok (.iaload, 1)) (hk : k < σ.2.2.2) (hs : g_sh k = .inl (0, n)) (hj : i.toInt = (j : Int)) (hn : j < n) (hp : pc + 1 = pc') (h : Cc G M nE pc' L (.int (σ.1 k j) :: S) σ Q) : Cc G M nE pc L (.int i :: .ref k :: S) σ Q := by
  subst hp
  intro p e R s m args below meth c H locs ls cells slots n0 QQ hF hU hR ha hh hK hc1 hc2 hW hS hL
  obtain ⟨h1, h2⟩ := g_in hj hn
  refine W.eq (g2 := F0 m pc ls (.int i :: .ref (g_a G + k) :: S.map (g_tr G))) (by rw [List.map_cons, List.map_cons, g_tr_own (Nat.lt_of_lt_of_le hk hW.2.2.2)]; rfl) ?_
  refine va_iald hF.1 hF.2.1 hU.1 hW.1 k 0 (g_ws_r hk hs) rfl h1 hd ?_
  rw [h2]
  exact h p e R s m args below meth c H locs ls cells slots n0 QQ hF hU hR ha hh hK hc1 hc2 hW hS hL
theorem cz_bald {k n j : Nat} {i : Int32} (hd : decode M.2.1 pc = .ok (.baload, 1)) (hk : k < σ.2.2.2) (hs : g_sh k = .inl (1, n)) (hj : i.toInt = (j : Int)) (hn : j < n) (hp : pc + 1 = pc') (h : Cc G M nE pc' L (.int (σ.1 k j) :: S) σ Q) : Cc G M nE pc L (.int i :: .ref k :: S) σ Q := by
  subst hp
  intro p e R s m args below meth c H locs ls cells slots n0 QQ hF hU hR ha hh hK hc1 hc2 hW hS hL
  obtain ⟨h1, h2⟩ := g_in hj hn
  refine W.eq (g2 := F0 m pc ls (.int i :: .ref (g_a G + k) :: S.map (g_tr G))) (by rw [List.map_cons, List.map_cons, g_tr_own (Nat.lt_of_lt_of_le hk hW.2.2.2)]; rfl) ?_
  refine va_bald hF.1 hF.2.1 hU.1 hW.1 k 1 (g_ws_r hk hs) rfl h1 hd ?_
  rw [h2]
  exact h p e R s m args below meth c H locs ls cells slots n0 QQ hF hU hR ha hh hK hc1 hc2 hW hS hL
theorem cz_zald {k n j : Nat} {i : Int32} (hd : decode M.2.1 pc = .ok (.baload, 1)) (hk : k < σ.2.2.2) (hs : g_sh k = .inl (2, n)) (hj : i.toInt = (j : Int)) (hn : j < n) (hp : pc + 1 = pc') (h : Cc G M nE pc' L (.int (σ.1 k j) :: S) σ Q) : Cc G M nE pc L (.int i :: .ref k :: S) σ Q := by
  subst hp
  intro p e R s m args below meth c H locs ls cells slots n0 QQ hF hU hR ha hh hK hc1 hc2 hW hS hL
  obtain ⟨h1, h2⟩ := g_in hj hn
  refine W.eq (g2 := F0 m pc ls (.int i :: .ref (g_a G + k) :: S.map (g_tr G))) (by rw [List.map_cons, List.map_cons, g_tr_own (Nat.lt_of_lt_of_le hk hW.2.2.2)]; rfl) ?_
  refine va_zald hF.1 hF.2.1 hU.1 hW.1 k 2 (g_ws_r hk hs) rfl h1 hd ?_
  rw [h2]
  exact h p e R s m args below meth c H locs ls cells slots n0 QQ hF hU hR ha hh hK hc1 hc2 hW hS hL
theorem cz_alen {k n t : Nat} {v : Int32} (hd : decode M.2.1 pc = .ok (.arraylength, 1)) (hk : k < σ.2.2.2) (hs : g_sh k = .inl (t, n)) (ht : t < 3) (hv : Int32.ofNat n = v) (hp : pc + 1 = pc') (h : Cc G M nE pc' L (.int v :: S) σ Q) : Cc G M nE pc L (.ref k :: S) σ Q := by
  subst hp
  intro p e R s m args below meth c H locs ls cells slots n0 QQ hF hU hR ha hh hK hc1 hc2 hW hS hL
  have hgo := h p e R s m args below meth c H locs ls cells slots n0 QQ hF hU hR ha hh hK hc1 hc2 hW hS hL
  refine W.eq (g2 := F0 m pc ls (.ref (g_a G + k) :: S.map (g_tr G))) (by rw [List.map_cons, g_tr_own (Nat.lt_of_lt_of_le hk hW.2.2.2)]) ?_
  rcases (show t = 0 ∨ t = 1 ∨ t = 2 by omega) with rfl | rfl | rfl
  · exact va_alen hF.1 hF.2.1 hU.1 hW.1 k 0 (g_ws_r hk hs) (ty := .int) rfl hv hd hgo
  · exact va_alen hF.1 hF.2.1 hU.1 hW.1 k 1 (g_ws_r hk hs) (ty := .byte) rfl hv hd hgo
  · exact va_alen hF.1 hF.2.1 hU.1 hW.1 k 2 (g_ws_r hk hs) (ty := .boolean) rfl hv hd hgo
theorem g_at_arr {H1 : Heap} {a cA n j : Nat} {f : Nat → Int32} {x : Int32} (e : H1[a]? = some ((vp_cell cA (n, .inl f)).setSlot j (.int x))) : va_at (g_D G) classes (a, .inl (cA, n, .inl (upd f j x))) H1 := by
  show H1[a]? = some (vp_cell _ _)
  rw [e]
  rw [vp_cell_i, vp_cell_i, arrV_store]
  congr 2
  funext q
  by_cases hq : q = j
  · subst hq
    simp [updV, upd]
  · simp [updV, upd, hq]
theorem cz_iast {k n j : Nat} {i x : Int32} (hd : decode M.2.1 pc = .ok (.iastore, 1)) (hk : k < σ.2.2.2) (hs : g_sh k = .inl (0, n)) (hj : i.toInt = (j : Int)) (hn : j < n) (hp : pc + 1 = pc') (h : Cc G M nE pc' L S (g_pr σ k (upd (σ.1 k) j x)) Q) : Cc G M nE pc L (.int x :: .int i :: .ref k :: S) σ Q := by
  subst hp
  intro p e R s m args below meth c H locs ls cells slots n0 QQ hF hU hR ha hh hK hc1 hc2 hW hS hL
  obtain ⟨h1, h2⟩ := g_in hj hn
  refine W.eq (g2 := F0 m pc ls (.int x :: .int i :: .ref (g_a G + k) :: S.map (g_tr G))) (by rw [List.map_cons, List.map_cons, List.map_cons, g_tr_own (Nat.lt_of_lt_of_le hk hW.2.2.2)]; rfl) ?_
  refine W.iast hF.1 hF.2.1 (hW.1 k _ (g_ws_r hk hs)) ((hU.1.2 0 _ rfl).1 n (fun j => .int (σ.1 k j))) (fun q => by cases q) (by show ¬ (i < 0 ∨ (arrV _ _ _).slots.size ≤ _); rw [arrV_size]; exact h1) rfl rfl hd fun H1 e1 z oq => ?_
  rw [h2] at e1 ⊢
  obtain ⟨hW', hS'⟩ := g_Wk_set (σ' := g_pr σ k (upd (σ.1 k) j x)) (sl := j) hW hS hk rfl (g_en_arr hs (by simp [g_pr])) (fun i hi => g_en_pr hi) (g_at_arr e1) z oq
  exact h p e R s m args below meth c H1 _ ls cells slots n0 QQ hF hU hR ha hh hK hc1 hc2 hW' hS' hL
theorem cz_bast {k n j : Nat} {i x y : Int32} (hd : decode M.2.1 pc = .ok (.bastore, 1)) (hk : k < σ.2.2.2) (hs : g_sh k = .inl (1, n)) (hj : i.toInt = (j : Int)) (hn : j < n) (hx : narrow .byte (.int x) = .int y) (hp : pc + 1 = pc') (h : Cc G M nE pc' L S (g_pr σ k (upd (σ.1 k) j y)) Q) : Cc G M nE pc L (.int x :: .int i :: .ref k :: S) σ Q := by
  subst hp
  intro p e R s m args below meth c H locs ls cells slots n0 QQ hF hU hR ha hh hK hc1 hc2 hW hS hL
  obtain ⟨h1, h2⟩ := g_in hj hn
  refine W.eq (g2 := F0 m pc ls (.int x :: .int i :: .ref (g_a G + k) :: S.map (g_tr G))) (by rw [List.map_cons, List.map_cons, List.map_cons, g_tr_own (Nat.lt_of_lt_of_le hk hW.2.2.2)]; rfl) ?_
  refine W.bast hF.1 hF.2.1 (hW.1 k _ (g_ws_r hk hs)) ((hU.1.2 1 _ rfl).1 n (fun j => .int (σ.1 k j))) (fun q => by cases q) (by show ¬ (i < 0 ∨ (arrV _ _ _).slots.size ≤ _); rw [arrV_size]; exact h1) rfl rfl hd fun H1 e1 z oq => ?_
  rw [h2] at e1 ⊢
  rw [hx] at e1
  obtain ⟨hW', hS'⟩ := g_Wk_set (σ' := g_pr σ k (upd (σ.1 k) j y)) (sl := j) hW hS hk rfl (g_en_arr hs (by simp [g_pr])) (fun i hi => g_en_pr hi) (g_at_arr e1) z oq
  exact h p e R s m args below meth c H1 _ ls cells slots n0 QQ hF hU hR ha hh hK hc1 hc2 hW' hS' hL
theorem cz_zast {k n j : Nat} {i x y : Int32} (hd : decode M.2.1 pc = .ok (.bastore, 1)) (hk : k < σ.2.2.2) (hs : g_sh k = .inl (2, n)) (hj : i.toInt = (j : Int)) (hn : j < n) (hx : narrow .boolean (.int x) = .int y) (hp : pc + 1 = pc') (h : Cc G M nE pc' L S (g_pr σ k (upd (σ.1 k) j y)) Q) : Cc G M nE pc L (.int x :: .int i :: .ref k :: S) σ Q := by
  subst hp
  intro p e R s m args below meth c H locs ls cells slots n0 QQ hF hU hR ha hh hK hc1 hc2 hW hS hL
  obtain ⟨h1, h2⟩ := g_in hj hn
  refine W.eq (g2 := F0 m pc ls (.int x :: .int i :: .ref (g_a G + k) :: S.map (g_tr G))) (by rw [List.map_cons, List.map_cons, List.map_cons, g_tr_own (Nat.lt_of_lt_of_le hk hW.2.2.2)]; rfl) ?_
  refine W.zast hF.1 hF.2.1 (hW.1 k _ (g_ws_r hk hs)) ((hU.1.2 2 _ rfl).1 n (fun j => .int (σ.1 k j))) (fun q => by cases q) (by show ¬ (i < 0 ∨ (arrV _ _ _).slots.size ≤ _); rw [arrV_size]; exact h1) rfl rfl hd fun H1 e1 z oq => ?_
  rw [h2] at e1 ⊢
  rw [hx] at e1
  obtain ⟨hW', hS'⟩ := g_Wk_set (σ' := g_pr σ k (upd (σ.1 k) j y)) (sl := j) hW hS hk rfl (g_en_arr hs (by simp [g_pr])) (fun i hi => g_en_pr hi) (g_at_arr e1) z oq
  exact h p e R s m args below meth c H1 _ ls cells slots n0 QQ hF hU hR ha hh hK hc1 hc2 hW' hS' hL
/-- the script -/
theorem cz_sld {j : Nat} {i : Int32} (hd : decode M.2.1 pc = .ok (.iaload, 1)) (hj : i.toInt = (j : Int)) (hn : j < g_L G) (hp : pc + 1 = pc') (h : Cc G M nE pc' L (.int (g_x G j) :: S) σ Q) : Cc G M nE pc L (.int i :: .ref 1000 :: S) σ Q := by
  subst hp
  intro p e R s m args below meth c H locs ls cells slots n0 QQ hF hU hR ha hh hK hc1 hc2 hW hS hL
  obtain ⟨h1, h2⟩ := g_in hj hn
  have hX : va_X (g_s G 0) (g_L G) (g_x G) s s.heap := hU.2.2.2.1.kept (hh _ hU.2.2.2.2.1)
  refine va_sld hF.1 hF.2.1 hX (Nat.lt_of_lt_of_le hU.2.2.2.2.1 ha) (Nat.not_le.mpr hU.2.2.2.2.1) hS h1 hd ?_
  rw [h2]
  exact h p e R s m args below meth c H locs ls cells slots n0 QQ hF hU hR ha hh hK hc1 hc2 hW hS hL
theorem cz_slen (hd : decode M.2.1 pc = .ok (.arraylength, 1)) (hp : pc + 1 = pc') (h : Cc G M nE pc' L (.int (Int32.ofNat (g_L G)) :: S) σ Q) : Cc G M nE pc L (.ref 1000 :: S) σ Q := by
  subst hp
  intro p e R s m args below meth c H locs ls cells slots n0 QQ hF hU hR ha hh hK hc1 hc2 hW hS hL
  have hX : va_X (g_s G 0) (g_L G) (g_x G) s s.heap := hU.2.2.2.1.kept (hh _ hU.2.2.2.2.1)
  exact va_slen hF.1 hF.2.1 hX (Nat.lt_of_lt_of_le hU.2.2.2.2.1 ha) (Nat.not_le.mpr hU.2.2.2.2.1) hS hd (h p e R s m args below meth c H locs ls cells slots n0 QQ hF hU hR ha hh hK hc1 hc2 hW hS hL)
end
end
