section
-- ===== PART A: goes FIRST, ahead of the names: the tables' words, and 'selects' of the private methods out of them =====
/-- a private method of a class that the tables say can be made, by its rows of tables_1 -/
def lw_okq (q : MethodName × Nat) : Prop := (q.1.cls ≠ "java/lang/invoke/MethodHandle" ∧ q.1.cls ≠ "java/lang/invoke/VarHandle") ∧ Cond.instantiable q.1.cls q.2 ∈ tables_1 ∧ Cond.privateMethod q.1 ∈ tables_1 ∧ Cond.instanceMethod q.1 ∈ tables_1
theorem lw_p0 : lw_okq (⟨"ChildPay", "isPast", "(I)Z"⟩, 10) := ⟨⟨by decide +kernel, by decide +kernel⟩, List.mem_of_getElem? (i := 20) (by decide +kernel), List.mem_of_getElem? (i := 313) (by decide +kernel), List.mem_of_getElem? (i := 314) (by decide +kernel)⟩
theorem lw_p1 : lw_okq (⟨"ChildPay$Changes", "latest", "(III)I"⟩, 6) := ⟨⟨by decide +kernel, by decide +kernel⟩, List.mem_of_getElem? (i := 28) (by decide +kernel), List.mem_of_getElem? (i := 321) (by decide +kernel), List.mem_of_getElem? (i := 322) (by decide +kernel)⟩
theorem lw_p2 : lw_okq (⟨"ChildPay$Changes", "counts", "(III)Z"⟩, 6) := ⟨⟨by decide +kernel, by decide +kernel⟩, List.mem_of_getElem? (i := 28) (by decide +kernel), List.mem_of_getElem? (i := 325) (by decide +kernel), List.mem_of_getElem? (i := 326) (by decide +kernel)⟩
theorem lw_p3 : lw_okq (⟨"ChildPay$Nights", "atEnd", "(IZ)I"⟩, 2) := ⟨⟨by decide +kernel, by decide +kernel⟩, List.mem_of_getElem? (i := 151) (by decide +kernel), List.mem_of_getElem? (i := 358) (by decide +kernel), List.mem_of_getElem? (i := 359) (by decide +kernel)⟩
theorem lw_p4 : lw_okq (⟨"ChildPay", "addLaw", "(I)I"⟩, 10) := ⟨⟨by decide +kernel, by decide +kernel⟩, List.mem_of_getElem? (i := 20) (by decide +kernel), List.mem_of_getElem? (i := 397) (by decide +kernel), List.mem_of_getElem? (i := 398) (by decide +kernel)⟩
theorem lw_p5 : lw_okq (⟨"ChildPay$Reader", "step", "()V"⟩, 4) := ⟨⟨by decide +kernel, by decide +kernel⟩, List.mem_of_getElem? (i := 77) (by decide +kernel), List.mem_of_getElem? (i := 406) (by decide +kernel), List.mem_of_getElem? (i := 407) (by decide +kernel)⟩
theorem lw_p6 : lw_okq (⟨"ChildPay$Reader", "need", "(Ljava/lang/String;)V"⟩, 4) := ⟨⟨by decide +kernel, by decide +kernel⟩, List.mem_of_getElem? (i := 77) (by decide +kernel), List.mem_of_getElem? (i := 411) (by decide +kernel), List.mem_of_getElem? (i := 412) (by decide +kernel)⟩
theorem lw_p7 : lw_okq (⟨"ChildPay$Reader", "skip", "(Ljava/lang/String;)Z"⟩, 4) := ⟨⟨by decide +kernel, by decide +kernel⟩, List.mem_of_getElem? (i := 77) (by decide +kernel), List.mem_of_getElem? (i := 415) (by decide +kernel), List.mem_of_getElem? (i := 416) (by decide +kernel)⟩
theorem lw_p8 : lw_okq (⟨"ChildPay$Reader", "isAt", "(Ljava/lang/String;)Z"⟩, 4) := ⟨⟨by decide +kernel, by decide +kernel⟩, List.mem_of_getElem? (i := 77) (by decide +kernel), List.mem_of_getElem? (i := 419) (by decide +kernel), List.mem_of_getElem? (i := 420) (by decide +kernel)⟩
theorem lw_p9 : lw_okq (⟨"ChildPay$Reader", "number", "(II)I"⟩, 4) := ⟨⟨by decide +kernel, by decide +kernel⟩, List.mem_of_getElem? (i := 77) (by decide +kernel), List.mem_of_getElem? (i := 471) (by decide +kernel), List.mem_of_getElem? (i := 472) (by decide +kernel)⟩
theorem lw_p10 : lw_okq (⟨"ChildPay$Reader", "digits", "()I"⟩, 4) := ⟨⟨by decide +kernel, by decide +kernel⟩, List.mem_of_getElem? (i := 77) (by decide +kernel), List.mem_of_getElem? (i := 475) (by decide +kernel), List.mem_of_getElem? (i := 476) (by decide +kernel)⟩
theorem lw_p11 : lw_okq (⟨"ChildPay$Reader", "option", "(Ljava/lang/String;III)I"⟩, 4) := ⟨⟨by decide +kernel, by decide +kernel⟩, List.mem_of_getElem? (i := 77) (by decide +kernel), List.mem_of_getElem? (i := 486) (by decide +kernel), List.mem_of_getElem? (i := 487) (by decide +kernel)⟩
theorem lw_p12 : lw_okq (⟨"ChildPay", "sumOf", "(III)I"⟩, 10) := ⟨⟨by decide +kernel, by decide +kernel⟩, List.mem_of_getElem? (i := 20) (by decide +kernel), List.mem_of_getElem? (i := 507) (by decide +kernel), List.mem_of_getElem? (i := 508) (by decide +kernel)⟩
theorem lw_p13 : lw_okq (⟨"ChildPay", "dueOf", "(III)I"⟩, 10) := ⟨⟨by decide +kernel, by decide +kernel⟩, List.mem_of_getElem? (i := 20) (by decide +kernel), List.mem_of_getElem? (i := 532) (by decide +kernel), List.mem_of_getElem? (i := 533) (by decide +kernel)⟩
theorem lw_p14 : lw_okq (⟨"ChildPay$Bank", "isPay", "(I)Z"⟩, 5) := ⟨⟨by decide +kernel, by decide +kernel⟩, List.mem_of_getElem? (i := 186) (by decide +kernel), List.mem_of_getElem? (i := 563) (by decide +kernel), List.mem_of_getElem? (i := 564) (by decide +kernel)⟩
theorem lw_p15 : lw_okq (⟨"ChildPay", "settle", "(II)V"⟩, 10) := ⟨⟨by decide +kernel, by decide +kernel⟩, List.mem_of_getElem? (i := 20) (by decide +kernel), List.mem_of_getElem? (i := 571) (by decide +kernel), List.mem_of_getElem? (i := 572) (by decide +kernel)⟩
def lw_privs_1 : List (MethodName × Nat) := [(⟨"ChildPay", "isPast", "(I)Z"⟩, 10), (⟨"ChildPay$Changes", "latest", "(III)I"⟩, 6), (⟨"ChildPay$Changes", "counts", "(III)Z"⟩, 6), (⟨"ChildPay$Nights", "atEnd", "(IZ)I"⟩, 2), (⟨"ChildPay", "addLaw", "(I)I"⟩, 10), (⟨"ChildPay$Reader", "step", "()V"⟩, 4), (⟨"ChildPay$Reader", "need", "(Ljava/lang/String;)V"⟩, 4), (⟨"ChildPay$Reader", "skip", "(Ljava/lang/String;)Z"⟩, 4), (⟨"ChildPay$Reader", "isAt", "(Ljava/lang/String;)Z"⟩, 4), (⟨"ChildPay$Reader", "number", "(II)I"⟩, 4), (⟨"ChildPay$Reader", "digits", "()I"⟩, 4), (⟨"ChildPay$Reader", "option", "(Ljava/lang/String;III)I"⟩, 4), (⟨"ChildPay", "sumOf", "(III)I"⟩, 10), (⟨"ChildPay", "dueOf", "(III)I"⟩, 10), (⟨"ChildPay$Bank", "isPay", "(I)Z"⟩, 5), (⟨"ChildPay", "settle", "(II)V"⟩, 10)]
theorem lw_r1 : ∀ q ∈ lw_privs_1, lw_okq q := List.forall_mem_cons.mpr ⟨lw_p0, List.forall_mem_cons.mpr ⟨lw_p1, List.forall_mem_cons.mpr ⟨lw_p2, List.forall_mem_cons.mpr ⟨lw_p3, List.forall_mem_cons.mpr ⟨lw_p4, List.forall_mem_cons.mpr ⟨lw_p5, List.forall_mem_cons.mpr ⟨lw_p6, List.forall_mem_cons.mpr ⟨lw_p7, List.forall_mem_cons.mpr ⟨lw_p8, List.forall_mem_cons.mpr ⟨lw_p9, List.forall_mem_cons.mpr ⟨lw_p10, List.forall_mem_cons.mpr ⟨lw_p11, List.forall_mem_cons.mpr ⟨lw_p12, List.forall_mem_cons.mpr ⟨lw_p13, List.forall_mem_cons.mpr ⟨lw_p14, List.forall_mem_cons.mpr ⟨lw_p15, fun _ h => absurd h List.not_mem_nil⟩⟩⟩⟩⟩⟩⟩⟩⟩⟩⟩⟩⟩⟩⟩⟩
theorem lw_p16 : lw_okq (⟨"ChildPay", "forgivenWeeks", "()I"⟩, 10) := ⟨⟨by decide +kernel, by decide +kernel⟩, List.mem_of_getElem? (i := 20) (by decide +kernel), List.mem_of_getElem? (i := 683) (by decide +kernel), List.mem_of_getElem? (i := 684) (by decide +kernel)⟩
theorem lw_p17 : lw_okq (⟨"ChildPayModel", "isChange", "(I)Z"⟩, 36) := ⟨⟨by decide +kernel, by decide +kernel⟩, List.mem_of_getElem? (i := 692) (by decide +kernel), List.mem_of_getElem? (i := 827) (by decide +kernel), List.mem_of_getElem? (i := 828) (by decide +kernel)⟩
theorem lw_p18 : lw_okq (⟨"ChildPayModel", "isPast", "(I)Z"⟩, 36) := ⟨⟨by decide +kernel, by decide +kernel⟩, List.mem_of_getElem? (i := 692) (by decide +kernel), List.mem_of_getElem? (i := 845) (by decide +kernel), List.mem_of_getElem? (i := 846) (by decide +kernel)⟩
theorem lw_p19 : lw_okq (⟨"ChildPayModel", "income", "(II)I"⟩, 36) := ⟨⟨by decide +kernel, by decide +kernel⟩, List.mem_of_getElem? (i := 692) (by decide +kernel), List.mem_of_getElem? (i := 849) (by decide +kernel), List.mem_of_getElem? (i := 850) (by decide +kernel)⟩
theorem lw_p20 : lw_okq (⟨"ChildPayModel", "latest", "(III)I"⟩, 36) := ⟨⟨by decide +kernel, by decide +kernel⟩, List.mem_of_getElem? (i := 692) (by decide +kernel), List.mem_of_getElem? (i := 853) (by decide +kernel), List.mem_of_getElem? (i := 854) (by decide +kernel)⟩
theorem lw_p21 : lw_okq (⟨"ChildPayModel", "holds", "(III)Z"⟩, 36) := ⟨⟨by decide +kernel, by decide +kernel⟩, List.mem_of_getElem? (i := 692) (by decide +kernel), List.mem_of_getElem? (i := 857) (by decide +kernel), List.mem_of_getElem? (i := 858) (by decide +kernel)⟩
theorem lw_p22 : lw_okq (⟨"ChildPayModel", "children", "(II)I"⟩, 36) := ⟨⟨by decide +kernel, by decide +kernel⟩, List.mem_of_getElem? (i := 692) (by decide +kernel), List.mem_of_getElem? (i := 861) (by decide +kernel), List.mem_of_getElem? (i := 862) (by decide +kernel)⟩
theorem lw_p23 : lw_okq (⟨"ChildPayModel", "others", "(II)I"⟩, 36) := ⟨⟨by decide +kernel, by decide +kernel⟩, List.mem_of_getElem? (i := 692) (by decide +kernel), List.mem_of_getElem? (i := 865) (by decide +kernel), List.mem_of_getElem? (i := 866) (by decide +kernel)⟩
theorem lw_p24 : lw_okq (⟨"ChildPayModel", "end", "(IZ)I"⟩, 36) := ⟨⟨by decide +kernel, by decide +kernel⟩, List.mem_of_getElem? (i := 692) (by decide +kernel), List.mem_of_getElem? (i := 877) (by decide +kernel), List.mem_of_getElem? (i := 878) (by decide +kernel)⟩
theorem lw_p25 : lw_okq (⟨"ChildPayModel", "diary", "(II)I"⟩, 36) := ⟨⟨by decide +kernel, by decide +kernel⟩, List.mem_of_getElem? (i := 692) (by decide +kernel), List.mem_of_getElem? (i := 881) (by decide +kernel), List.mem_of_getElem? (i := 882) (by decide +kernel)⟩
theorem lw_p26 : lw_okq (⟨"ChildPayModel", "four", "(I)V"⟩, 36) := ⟨⟨by decide +kernel, by decide +kernel⟩, List.mem_of_getElem? (i := 692) (by decide +kernel), List.mem_of_getElem? (i := 889) (by decide +kernel), List.mem_of_getElem? (i := 890) (by decide +kernel)⟩
theorem lw_p27 : lw_okq (⟨"ChildPayModel", "keepAside", "(I)V"⟩, 36) := ⟨⟨by decide +kernel, by decide +kernel⟩, List.mem_of_getElem? (i := 692) (by decide +kernel), List.mem_of_getElem? (i := 901) (by decide +kernel), List.mem_of_getElem? (i := 902) (by decide +kernel)⟩
theorem lw_p28 : lw_okq (⟨"ChildPayModel", "readLaw", "(I)Z"⟩, 36) := ⟨⟨by decide +kernel, by decide +kernel⟩, List.mem_of_getElem? (i := 692) (by decide +kernel), List.mem_of_getElem? (i := 905) (by decide +kernel), List.mem_of_getElem? (i := 906) (by decide +kernel)⟩
theorem lw_p29 : lw_okq (⟨"ChildPayModel", "next", "()V"⟩, 36) := ⟨⟨by decide +kernel, by decide +kernel⟩, List.mem_of_getElem? (i := 692) (by decide +kernel), List.mem_of_getElem? (i := 909) (by decide +kernel), List.mem_of_getElem? (i := 910) (by decide +kernel)⟩
theorem lw_p30 : lw_okq (⟨"ChildPayModel", "isTake", "()Z"⟩, 36) := ⟨⟨by decide +kernel, by decide +kernel⟩, List.mem_of_getElem? (i := 692) (by decide +kernel), List.mem_of_getElem? (i := 913) (by decide +kernel), List.mem_of_getElem? (i := 914) (by decide +kernel)⟩
theorem lw_p31 : lw_okq (⟨"ChildPayModel", "isWord", "(IIIII)Z"⟩, 36) := ⟨⟨by decide +kernel, by decide +kernel⟩, List.mem_of_getElem? (i := 692) (by decide +kernel), List.mem_of_getElem? (i := 917) (by decide +kernel), List.mem_of_getElem? (i := 918) (by decide +kernel)⟩
def lw_privs_2 : List (MethodName × Nat) := [(⟨"ChildPay", "forgivenWeeks", "()I"⟩, 10), (⟨"ChildPayModel", "isChange", "(I)Z"⟩, 36), (⟨"ChildPayModel", "isPast", "(I)Z"⟩, 36), (⟨"ChildPayModel", "income", "(II)I"⟩, 36), (⟨"ChildPayModel", "latest", "(III)I"⟩, 36), (⟨"ChildPayModel", "holds", "(III)Z"⟩, 36), (⟨"ChildPayModel", "children", "(II)I"⟩, 36), (⟨"ChildPayModel", "others", "(II)I"⟩, 36), (⟨"ChildPayModel", "end", "(IZ)I"⟩, 36), (⟨"ChildPayModel", "diary", "(II)I"⟩, 36), (⟨"ChildPayModel", "four", "(I)V"⟩, 36), (⟨"ChildPayModel", "keepAside", "(I)V"⟩, 36), (⟨"ChildPayModel", "readLaw", "(I)Z"⟩, 36), (⟨"ChildPayModel", "next", "()V"⟩, 36), (⟨"ChildPayModel", "isTake", "()Z"⟩, 36), (⟨"ChildPayModel", "isWord", "(IIIII)Z"⟩, 36)]
theorem lw_r2 : ∀ q ∈ lw_privs_2, lw_okq q := List.forall_mem_cons.mpr ⟨lw_p16, List.forall_mem_cons.mpr ⟨lw_p17, List.forall_mem_cons.mpr ⟨lw_p18, List.forall_mem_cons.mpr ⟨lw_p19, List.forall_mem_cons.mpr ⟨lw_p20, List.forall_mem_cons.mpr ⟨lw_p21, List.forall_mem_cons.mpr ⟨lw_p22, List.forall_mem_cons.mpr ⟨lw_p23, List.forall_mem_cons.mpr ⟨lw_p24, List.forall_mem_cons.mpr ⟨lw_p25, List.forall_mem_cons.mpr ⟨lw_p26, List.forall_mem_cons.mpr ⟨lw_p27, List.forall_mem_cons.mpr ⟨lw_p28, List.forall_mem_cons.mpr ⟨lw_p29, List.forall_mem_cons.mpr ⟨lw_p30, List.forall_mem_cons.mpr ⟨lw_p31, fun _ h => absurd h List.not_mem_nil⟩⟩⟩⟩⟩⟩⟩⟩⟩⟩⟩⟩⟩⟩⟩⟩
theorem lw_p32 : lw_okq (⟨"ChildPayModel", "isNumber", "(II)Z"⟩, 36) := ⟨⟨by decide +kernel, by decide +kernel⟩, List.mem_of_getElem? (i := 692) (by decide +kernel), List.mem_of_getElem? (i := 921) (by decide +kernel), List.mem_of_getElem? (i := 922) (by decide +kernel)⟩
theorem lw_p33 : lw_okq (⟨"ChildPayModel", "number", "()I"⟩, 36) := ⟨⟨by decide +kernel, by decide +kernel⟩, List.mem_of_getElem? (i := 692) (by decide +kernel), List.mem_of_getElem? (i := 925) (by decide +kernel), List.mem_of_getElem? (i := 926) (by decide +kernel)⟩
theorem lw_p34 : lw_okq (⟨"ChildPayModel", "readOver", "(I)Z"⟩, 36) := ⟨⟨by decide +kernel, by decide +kernel⟩, List.mem_of_getElem? (i := 692) (by decide +kernel), List.mem_of_getElem? (i := 930) (by decide +kernel), List.mem_of_getElem? (i := 931) (by decide +kernel)⟩
theorem lw_p35 : lw_okq (⟨"ChildPayModel", "here", "()I"⟩, 36) := ⟨⟨by decide +kernel, by decide +kernel⟩, List.mem_of_getElem? (i := 692) (by decide +kernel), List.mem_of_getElem? (i := 934) (by decide +kernel), List.mem_of_getElem? (i := 935) (by decide +kernel)⟩
theorem lw_p36 : lw_okq (⟨"ChildPayModel", "putBack", "(I)V"⟩, 36) := ⟨⟨by decide +kernel, by decide +kernel⟩, List.mem_of_getElem? (i := 692) (by decide +kernel), List.mem_of_getElem? (i := 938) (by decide +kernel), List.mem_of_getElem? (i := 939) (by decide +kernel)⟩
theorem lw_p37 : lw_okq (⟨"ChildPayModel", "lawOf", "(I)I"⟩, 36) := ⟨⟨by decide +kernel, by decide +kernel⟩, List.mem_of_getElem? (i := 692) (by decide +kernel), List.mem_of_getElem? (i := 946) (by decide +kernel), List.mem_of_getElem? (i := 947) (by decide +kernel)⟩
theorem lw_p38 : lw_okq (⟨"ChildPayModel", "sumOf", "(III)I"⟩, 36) := ⟨⟨by decide +kernel, by decide +kernel⟩, List.mem_of_getElem? (i := 692) (by decide +kernel), List.mem_of_getElem? (i := 954) (by decide +kernel), List.mem_of_getElem? (i := 955) (by decide +kernel)⟩
theorem lw_p39 : lw_okq (⟨"ChildPayModel", "dueOf", "(III)I"⟩, 36) := ⟨⟨by decide +kernel, by decide +kernel⟩, List.mem_of_getElem? (i := 692) (by decide +kernel), List.mem_of_getElem? (i := 965) (by decide +kernel), List.mem_of_getElem? (i := 966) (by decide +kernel)⟩
theorem lw_p40 : lw_okq (⟨"ChildPayModel", "isPay", "(I)Z"⟩, 36) := ⟨⟨by decide +kernel, by decide +kernel⟩, List.mem_of_getElem? (i := 692) (by decide +kernel), List.mem_of_getElem? (i := 985) (by decide +kernel), List.mem_of_getElem? (i := 986) (by decide +kernel)⟩
theorem lw_p41 : lw_okq (⟨"ChildPayModel", "isAsked", "(II)Z"⟩, 36) := ⟨⟨by decide +kernel, by decide +kernel⟩, List.mem_of_getElem? (i := 692) (by decide +kernel), List.mem_of_getElem? (i := 993) (by decide +kernel), List.mem_of_getElem? (i := 994) (by decide +kernel)⟩
theorem lw_p42 : lw_okq (⟨"ChildPayModel", "findDues", "(II)V"⟩, 36) := ⟨⟨by decide +kernel, by decide +kernel⟩, List.mem_of_getElem? (i := 692) (by decide +kernel), List.mem_of_getElem? (i := 997) (by decide +kernel), List.mem_of_getElem? (i := 998) (by decide +kernel)⟩
theorem lw_p43 : lw_okq (⟨"ChildPayModel", "paysUpTo", "(I)I"⟩, 36) := ⟨⟨by decide +kernel, by decide +kernel⟩, List.mem_of_getElem? (i := 692) (by decide +kernel), List.mem_of_getElem? (i := 1001) (by decide +kernel), List.mem_of_getElem? (i := 1002) (by decide +kernel)⟩
theorem lw_p44 : lw_okq (⟨"ChildPayModel", "leftBy", "(II)I"⟩, 36) := ⟨⟨by decide +kernel, by decide +kernel⟩, List.mem_of_getElem? (i := 692) (by decide +kernel), List.mem_of_getElem? (i := 1013) (by decide +kernel), List.mem_of_getElem? (i := 1014) (by decide +kernel)⟩
def lw_privs_3 : List (MethodName × Nat) := [(⟨"ChildPayModel", "isNumber", "(II)Z"⟩, 36), (⟨"ChildPayModel", "number", "()I"⟩, 36), (⟨"ChildPayModel", "readOver", "(I)Z"⟩, 36), (⟨"ChildPayModel", "here", "()I"⟩, 36), (⟨"ChildPayModel", "putBack", "(I)V"⟩, 36), (⟨"ChildPayModel", "lawOf", "(I)I"⟩, 36), (⟨"ChildPayModel", "sumOf", "(III)I"⟩, 36), (⟨"ChildPayModel", "dueOf", "(III)I"⟩, 36), (⟨"ChildPayModel", "isPay", "(I)Z"⟩, 36), (⟨"ChildPayModel", "isAsked", "(II)Z"⟩, 36), (⟨"ChildPayModel", "findDues", "(II)V"⟩, 36), (⟨"ChildPayModel", "paysUpTo", "(I)I"⟩, 36), (⟨"ChildPayModel", "leftBy", "(II)I"⟩, 36)]
theorem lw_r3 : ∀ q ∈ lw_privs_3, lw_okq q := List.forall_mem_cons.mpr ⟨lw_p32, List.forall_mem_cons.mpr ⟨lw_p33, List.forall_mem_cons.mpr ⟨lw_p34, List.forall_mem_cons.mpr ⟨lw_p35, List.forall_mem_cons.mpr ⟨lw_p36, List.forall_mem_cons.mpr ⟨lw_p37, List.forall_mem_cons.mpr ⟨lw_p38, List.forall_mem_cons.mpr ⟨lw_p39, List.forall_mem_cons.mpr ⟨lw_p40, List.forall_mem_cons.mpr ⟨lw_p41, List.forall_mem_cons.mpr ⟨lw_p42, List.forall_mem_cons.mpr ⟨lw_p43, List.forall_mem_cons.mpr ⟨lw_p44, fun _ h => absurd h List.not_mem_nil⟩⟩⟩⟩⟩⟩⟩⟩⟩⟩⟩⟩⟩
def lw_privs : List (MethodName × Nat) := lw_privs_1 ++ (lw_privs_2 ++ (lw_privs_3))
def lw_tbl : List Cond := k2_sels lw_privs ++ tables_1
theorem lw_privs_ok : ∀ q ∈ lw_privs, lw_okq q := by
  show ∀ q ∈ lw_privs_1 ++ (lw_privs_2 ++ (lw_privs_3)), lw_okq q
  exact List.forall_mem_append.mpr ⟨lw_r1, List.forall_mem_append.mpr ⟨lw_r2, lw_r3⟩⟩
end
section
def RX0 : String := "ChildPay$Account"
def TX0 : u_T := fun k => match k with
  | 0 => ("ChildPay$Account", "dues", "[I", true)
  | 1 => ("ChildPay$Account", "lefts", "[I", true)
  | 2 => ("ChildPay$Account", "weeks", "I", false)
  | _ => ("ChildPay$Account", "rest", "I", false)
def tyX0 : Nat → FieldType := fun k => match k with
  | 0 => .array .int
  | 1 => .array .int
  | 2 => .int
  | _ => .int
abbrev wsX00 : List Cond := u_ws RX0 TX0 4
theorem nmX0 : ∀ a, a < 4 → ∀ b, b < 4 → a ≠ b → (TX0 a).2.1 ≠ (TX0 b).2.1 := by decide +kernel
theorem tyX0_ok : ∀ k, k < 4 → parseFieldDescriptor (TX0 k).2.2.1 = some (tyX0 k) := by decide +kernel
abbrev cX0_init : ByteArray := prog_2_method_1_code
def yX0_init : MethodName := ⟨RX0, "<init>", "()V"⟩
abbrev cX0_payOldestFirst : ByteArray := prog_2_method_2_code
def yX0_payOldestFirst : MethodName := ⟨RX0, "payOldestFirst", "(I)V"⟩
abbrev cX0_dueUpTo : ByteArray := prog_2_method_3_code
def yX0_dueUpTo : MethodName := ⟨RX0, "dueUpTo", "(I)I"⟩
abbrev cX0_leftInAll : ByteArray := prog_2_method_4_code
def yX0_leftInAll : MethodName := ⟨RX0, "leftInAll", "()I"⟩
abbrev cX0_firstLeft : ByteArray := prog_2_method_5_code
def yX0_firstLeft : MethodName := ⟨RX0, "firstLeft", "()I"⟩
abbrev cX0_interestUpTo : ByteArray := prog_2_method_6_code
def yX0_interestUpTo : MethodName := ⟨RX0, "interestUpTo", "(II)I"⟩
def RX1 : String := "ChildPay$Bank"
def TX1 : u_T := fun k => match k with
  | 0 => ("ChildPay$Bank", "weeks", "[I", true)
  | 1 => ("ChildPay$Bank", "coins", "[I", true)
  | 2 => ("ChildPay$Bank", "marks", "[I", true)
  | 3 => ("ChildPay$Bank", "size", "I", false)
  | _ => ("ChildPay$Bank", "payMarks", "I", false)
def tyX1 : Nat → FieldType := fun k => match k with
  | 0 => .array .int
  | 1 => .array .int
  | 2 => .array .int
  | 3 => .int
  | _ => .int
abbrev wsX10 : List Cond := u_ws RX1 TX1 5
theorem nmX1 : ∀ a, a < 5 → ∀ b, b < 5 → a ≠ b → (TX1 a).2.1 ≠ (TX1 b).2.1 := by decide +kernel
theorem tyX1_ok : ∀ k, k < 5 → parseFieldDescriptor (TX1 k).2.2.1 = some (tyX1 k) := by decide +kernel
abbrev cX1_init : ByteArray := prog_3_method_1_code
def yX1_init : MethodName := ⟨RX1, "<init>", "()V"⟩
abbrev cX1_add : ByteArray := prog_3_method_2_code
def yX1_add : MethodName := ⟨RX1, "add", "(III)I"⟩
abbrev cX1_coinsIn : ByteArray := prog_3_method_3_code
def yX1_coinsIn : MethodName := ⟨RX1, "coinsIn", "(IZ)I"⟩
abbrev cX1_paysUpTo : ByteArray := prog_3_method_4_code
def yX1_paysUpTo : MethodName := ⟨RX1, "paysUpTo", "(I)I"⟩
abbrev cX1_lineWithCoin : ByteArray := prog_3_method_5_code
def yX1_lineWithCoin : MethodName := ⟨RX1, "lineWithCoin", "(II)I"⟩
abbrev cX1_isPay : ByteArray := prog_3_method_6_code
def yX1_isPay : MethodName := ⟨RX1, "isPay", "(I)Z"⟩
def RX2 : String := "ChildPay$Changes"
def TX2 : u_T := fun k => match k with
  | 0 => ("ChildPay$Changes", "kinds", "[I", true)
  | 1 => ("ChildPay$Changes", "values", "[I", true)
  | 2 => ("ChildPay$Changes", "starts", "[I", true)
  | 3 => ("ChildPay$Changes", "tellings", "[I", true)
  | 4 => ("ChildPay$Changes", "backs", "[I", true)
  | _ => ("ChildPay$Changes", "size", "I", false)
def tyX2 : Nat → FieldType := fun k => match k with
  | 0 => .array .int
  | 1 => .array .int
  | 2 => .array .int
  | 3 => .array .int
  | 4 => .array .int
  | _ => .int
abbrev wsX20 : List Cond := u_ws RX2 TX2 6
theorem nmX2 : ∀ a, a < 6 → ∀ b, b < 6 → a ≠ b → (TX2 a).2.1 ≠ (TX2 b).2.1 := by decide +kernel
theorem tyX2_ok : ∀ k, k < 6 → parseFieldDescriptor (TX2 k).2.2.1 = some (tyX2 k) := by decide +kernel
abbrev cX2_init : ByteArray := prog_4_method_1_code
def yX2_init : MethodName := ⟨RX2, "<init>", "()V"⟩
abbrev cX2_mayHold : ByteArray := prog_4_method_2_code
def yX2_mayHold : MethodName := ⟨RX2, "mayHold", "(II)Z"⟩
abbrev cX2_add : ByteArray := prog_4_method_3_code
def yX2_add : MethodName := ⟨RX2, "add", "(IIII)I"⟩
abbrev cX2_has : ByteArray := prog_4_method_4_code
def yX2_has : MethodName := ⟨RX2, "has", "(I)Z"⟩
abbrev cX2_isOfKind : ByteArray := prog_4_method_5_code
def yX2_isOfKind : MethodName := ⟨RX2, "isOfKind", "(II)Z"⟩
abbrev cX2_notTakenBack : ByteArray := prog_4_method_6_code
def yX2_notTakenBack : MethodName := ⟨RX2, "notTakenBack", "()I"⟩
abbrev cX2_incomeAt : ByteArray := prog_4_method_7_code
def yX2_incomeAt : MethodName := ⟨RX2, "incomeAt", "(II)I"⟩
abbrev cX2_childrenAt : ByteArray := prog_4_method_8_code
def yX2_childrenAt : MethodName := ⟨RX2, "childrenAt", "(II)I"⟩
abbrev cX2_othersAt : ByteArray := prog_4_method_9_code
def yX2_othersAt : MethodName := ⟨RX2, "othersAt", "(II)I"⟩
abbrev cX2_latest : ByteArray := prog_4_method_10_code
def yX2_latest : MethodName := ⟨RX2, "latest", "(III)I"⟩
abbrev cX2_counts : ByteArray := prog_4_method_11_code
def yX2_counts : MethodName := ⟨RX2, "counts", "(III)Z"⟩
def RX3 : String := "ChildPay$Law"
def TX3 : u_T := fun k => match k with
  | 0 => ("ChildPay$Law", "from", "I", false)
  | 1 => ("ChildPay$Law", "share", "I", false)
  | 2 => ("ChildPay$Law", "bound", "I", false)
  | 3 => ("ChildPay$Law", "shareAbove", "I", false)
  | 4 => ("ChildPay$Law", "perNight", "I", false)
  | 5 => ("ChildPay$Law", "perOther", "I", false)
  | 6 => ("ChildPay$Law", "least", "I", false)
  | _ => ("ChildPay$Law", "most", "I", false)
def tyX3 : Nat → FieldType := fun k => match k with
  | 0 => .int
  | 1 => .int
  | 2 => .int
  | 3 => .int
  | 4 => .int
  | 5 => .int
  | 6 => .int
  | _ => .int
abbrev wsX30 : List Cond := u_ws RX3 TX3 8
theorem nmX3 : ∀ a, a < 8 → ∀ b, b < 8 → a ≠ b → (TX3 a).2.1 ≠ (TX3 b).2.1 := by decide +kernel
theorem tyX3_ok : ∀ k, k < 8 → parseFieldDescriptor (TX3 k).2.2.1 = some (tyX3 k) := by decide +kernel
abbrev cX3_init : ByteArray := prog_5_method_1_code
def yX3_init : MethodName := ⟨RX3, "<init>", "()V"⟩
abbrev cX3_incomeLess : ByteArray := prog_5_method_2_code
def yX3_incomeLess : MethodName := ⟨RX3, "incomeLess", "(II)I"⟩
abbrev cX3_forChildren : ByteArray := prog_5_method_3_code
def yX3_forChildren : MethodName := ⟨RX3, "forChildren", "(II)I"⟩
abbrev cX3_withNights : ByteArray := prog_5_method_4_code
def yX3_withNights : MethodName := ⟨RX3, "withNights", "(II)I"⟩
def RX4 : String := "ChildPay$Laws"
def TX4 : u_T := fun k => match k with
  | 0 => ("ChildPay$Laws", "rows", "[LChildPay$Law;", true)
  | _ => ("ChildPay$Laws", "size", "I", false)
def tyX4 : Nat → FieldType := fun k => match k with
  | 0 => .array (.object "ChildPay$Law")
  | _ => .int
abbrev wsX40 : List Cond := u_ws RX4 TX4 2
theorem nmX4 : ∀ a, a < 2 → ∀ b, b < 2 → a ≠ b → (TX4 a).2.1 ≠ (TX4 b).2.1 := by decide +kernel
theorem tyX4_ok : ∀ k, k < 2 → parseFieldDescriptor (TX4 k).2.2.1 = some (tyX4 k) := by decide +kernel
abbrev cX4_init : ByteArray := prog_6_method_1_code
def yX4_init : MethodName := ⟨RX4, "<init>", "()V"⟩
abbrev cX4_numberAt : ByteArray := prog_6_method_2_code
def yX4_numberAt : MethodName := ⟨RX4, "numberAt", "(I)I"⟩
def RX5 : String := "ChildPay$Nights"
def TX5 : u_T := fun k => match k with
  | 0 => ("ChildPay$Nights", "sheets", "[LChildPay$Sheet;", true)
  | _ => ("ChildPay$Nights", "bySchool", "[I", true)
def tyX5 : Nat → FieldType := fun k => match k with
  | 0 => .array (.object "ChildPay$Sheet")
  | _ => .array .int
abbrev wsX50 : List Cond := u_ws RX5 TX5 2
theorem nmX5 : ∀ a, a < 2 → ∀ b, b < 2 → a ≠ b → (TX5 a).2.1 ≠ (TX5 b).2.1 := by decide +kernel
theorem tyX5_ok : ∀ k, k < 2 → parseFieldDescriptor (TX5 k).2.2.1 = some (tyX5 k) := by decide +kernel
abbrev cX5_init : ByteArray := prog_7_method_1_code
def yX5_init : MethodName := ⟨RX5, "<init>", "()V"⟩
abbrev cX5_lesser : ByteArray := prog_7_method_2_code
def yX5_lesser : MethodName := ⟨RX5, "lesser", "(I)I"⟩
abbrev cX5_greater : ByteArray := prog_7_method_3_code
def yX5_greater : MethodName := ⟨RX5, "greater", "(I)I"⟩
abbrev cX5_areUnlike : ByteArray := prog_7_method_4_code
def yX5_areUnlike : MethodName := ⟨RX5, "areUnlike", "(I)Z"⟩
abbrev cX5_unlikeWeeks : ByteArray := prog_7_method_5_code
def yX5_unlikeWeeks : MethodName := ⟨RX5, "unlikeWeeks", "(I)I"⟩
abbrev cX5_atEnd : ByteArray := prog_7_method_6_code
def yX5_atEnd : MethodName := ⟨RX5, "atEnd", "(IZ)I"⟩
def RX6 : String := "ChildPay$Reader"
def TX6 : u_T := fun k => match k with
  | 0 => ("ChildPay$Reader", "tape", "LChildPay$Tape;", true)
  | 1 => ("ChildPay$Reader", "start", "I", false)
  | 2 => ("ChildPay$Reader", "end", "I", false)
  | _ => ("ChildPay$Reader", "fault", "I", false)
def tyX6 : Nat → FieldType := fun k => match k with
  | 0 => .object "ChildPay$Tape"
  | 1 => .int
  | 2 => .int
  | _ => .int
abbrev wsX60 : List Cond := u_ws RX6 TX6 4
theorem nmX6 : ∀ a, a < 4 → ∀ b, b < 4 → a ≠ b → (TX6 a).2.1 ≠ (TX6 b).2.1 := by decide +kernel
theorem tyX6_ok : ∀ k, k < 4 → parseFieldDescriptor (TX6 k).2.2.1 = some (tyX6 k) := by decide +kernel
abbrev cX6_init : ByteArray := prog_8_method_1_code
def yX6_init : MethodName := ⟨RX6, "<init>", "(LChildPay$Tape;)V"⟩
abbrev cX6_readInto : ByteArray := prog_8_method_2_code
def yX6_readInto : MethodName := ⟨RX6, "readInto", "(LChildPay$Law;)I"⟩
abbrev cX6_step : ByteArray := prog_8_method_3_code
def yX6_step : MethodName := ⟨RX6, "step", "()V"⟩
abbrev cX6_skip : ByteArray := prog_8_method_4_code
def yX6_skip : MethodName := ⟨RX6, "skip", "(Ljava/lang/String;)Z"⟩
abbrev cX6_need : ByteArray := prog_8_method_5_code
def yX6_need : MethodName := ⟨RX6, "need", "(Ljava/lang/String;)V"⟩
abbrev cX6_option : ByteArray := prog_8_method_6_code
def yX6_option : MethodName := ⟨RX6, "option", "(Ljava/lang/String;III)I"⟩
abbrev cX6_number : ByteArray := prog_8_method_7_code
def yX6_number : MethodName := ⟨RX6, "number", "(II)I"⟩
abbrev cX6_isAt : ByteArray := prog_8_method_8_code
def yX6_isAt : MethodName := ⟨RX6, "isAt", "(Ljava/lang/String;)Z"⟩
abbrev cX6_digits : ByteArray := prog_8_method_9_code
def yX6_digits : MethodName := ⟨RX6, "digits", "()I"⟩
def RX7 : String := "ChildPay$Sheet"
def TX7 : u_T := fun k => match k with
  | 0 => ("ChildPay$Sheet", "places", "[B", true)
  | _ => ("ChildPay$Sheet", "size", "I", false)
def tyX7 : Nat → FieldType := fun k => match k with
  | 0 => .array .byte
  | _ => .int
abbrev wsX70 : List Cond := u_ws RX7 TX7 2
theorem nmX7 : ∀ a, a < 2 → ∀ b, b < 2 → a ≠ b → (TX7 a).2.1 ≠ (TX7 b).2.1 := by decide +kernel
theorem tyX7_ok : ∀ k, k < 2 → parseFieldDescriptor (TX7 k).2.2.1 = some (tyX7 k) := by decide +kernel
abbrev cX7_init : ByteArray := prog_9_method_1_code
def yX7_init : MethodName := ⟨RX7, "<init>", "()V"⟩
abbrev cX7_makeAnew : ByteArray := prog_9_method_2_code
def yX7_makeAnew : MethodName := ⟨RX7, "makeAnew", "(I)V"⟩
abbrev cX7_isMissing : ByteArray := prog_9_method_3_code
def yX7_isMissing : MethodName := ⟨RX7, "isMissing", "()Z"⟩
abbrev cX7_hasRun : ByteArray := prog_9_method_4_code
def yX7_hasRun : MethodName := ⟨RX7, "hasRun", "(II)Z"⟩
abbrev cX7_toldFor : ByteArray := prog_9_method_5_code
def yX7_toldFor : MethodName := ⟨RX7, "toldFor", "(I)I"⟩
def RX8 : String := "ChildPay$Tape"
def TX8 : u_T := fun k => match k with
  | 0 => ("ChildPay$Tape", "bytes", "[B", true)
  | _ => ("ChildPay$Tape", "size", "I", false)
def tyX8 : Nat → FieldType := fun k => match k with
  | 0 => .array .byte
  | _ => .int
abbrev wsX80 : List Cond := u_ws RX8 TX8 2
theorem nmX8 : ∀ a, a < 2 → ∀ b, b < 2 → a ≠ b → (TX8 a).2.1 ≠ (TX8 b).2.1 := by decide +kernel
theorem tyX8_ok : ∀ k, k < 2 → parseFieldDescriptor (TX8 k).2.2.1 = some (tyX8 k) := by decide +kernel
abbrev cX8_init : ByteArray := prog_10_method_1_code
def yX8_init : MethodName := ⟨RX8, "<init>", "()V"⟩
abbrev cX8_put : ByteArray := prog_10_method_2_code
def yX8_put : MethodName := ⟨RX8, "put", "(I)V"⟩
def RX9 : String := "ChildPay"
def TX9 : u_T := fun k => match k with
  | 0 => ("ChildPay", "changes", "LChildPay$Changes;", true)
  | 1 => ("ChildPay", "tape", "LChildPay$Tape;", true)
  | 2 => ("ChildPay", "reader", "LChildPay$Reader;", true)
  | 3 => ("ChildPay", "laws", "LChildPay$Laws;", true)
  | 4 => ("ChildPay", "nightsTold", "LChildPay$Nights;", true)
  | 5 => ("ChildPay", "bank", "LChildPay$Bank;", true)
  | 6 => ("ChildPay", "account", "LChildPay$Account;", true)
  | 7 => ("ChildPay", "forgiven", "[Z", true)
  | 8 => ("ChildPay", "rateNow", "I", false)
  | _ => ("ChildPay", "now", "I", false)
def tyX9 : Nat → FieldType := fun k => match k with
  | 0 => .object "ChildPay$Changes"
  | 1 => .object "ChildPay$Tape"
  | 2 => .object "ChildPay$Reader"
  | 3 => .object "ChildPay$Laws"
  | 4 => .object "ChildPay$Nights"
  | 5 => .object "ChildPay$Bank"
  | 6 => .object "ChildPay$Account"
  | 7 => .array .boolean
  | 8 => .int
  | _ => .int
abbrev wsX90 : List Cond := u_ws RX9 TX9 10
theorem nmX9 : ∀ a, a < 10 → ∀ b, b < 10 → a ≠ b → (TX9 a).2.1 ≠ (TX9 b).2.1 := by decide +kernel
theorem tyX9_ok : ∀ k, k < 10 → parseFieldDescriptor (TX9 k).2.2.1 = some (tyX9 k) := by decide +kernel
abbrev cX9_init : ByteArray := prog_1_method_1_code
def yX9_init : MethodName := ⟨RX9, "<init>", "()V"⟩
abbrev cX9_change : ByteArray := prog_1_method_2_code
def yX9_change : MethodName := ⟨RX9, "change", "(III)I"⟩
abbrev cX9_isOf : ByteArray := prog_1_method_3_code
def yX9_isOf : MethodName := ⟨RX9, "isOf", "(II)I"⟩
abbrev cX9_takeBack : ByteArray := prog_1_method_4_code
def yX9_takeBack : MethodName := ⟨RX9, "takeBack", "(I)I"⟩
abbrev cX9_told : ByteArray := prog_1_method_5_code
def yX9_told : MethodName := ⟨RX9, "told", "(II)I"⟩
abbrev cX9_known : ByteArray := prog_1_method_6_code
def yX9_known : MethodName := ⟨RX9, "known", "(III)I"⟩
abbrev cX9_school : ByteArray := prog_1_method_7_code
def yX9_school : MethodName := ⟨RX9, "school", "(II)I"⟩
abbrev cX9_nights : ByteArray := prog_1_method_8_code
def yX9_nights : MethodName := ⟨RX9, "nights", "(II)I"⟩
abbrev cX9_feed : ByteArray := prog_1_method_9_code
def yX9_feed : MethodName := ⟨RX9, "feed", "(III)I"⟩
abbrev cX9_trim : ByteArray := prog_1_method_10_code
def yX9_trim : MethodName := ⟨RX9, "trim", "(I)I"⟩
abbrev cX9_law : ByteArray := prog_1_method_11_code
def yX9_law : MethodName := ⟨RX9, "law", "(I)I"⟩
abbrev cX9_addLaw : ByteArray := prog_1_method_12_code
def yX9_addLaw : MethodName := ⟨RX9, "addLaw", "(I)I"⟩
abbrev cX9_inForce : ByteArray := prog_1_method_13_code
def yX9_inForce : MethodName := ⟨RX9, "inForce", "(I)I"⟩
abbrev cX9_sum : ByteArray := prog_1_method_14_code
def yX9_sum : MethodName := ⟨RX9, "sum", "(III)I"⟩
abbrev cX9_due : ByteArray := prog_1_method_15_code
def yX9_due : MethodName := ⟨RX9, "due", "(III)I"⟩
abbrev cX9_edge : ByteArray := prog_1_method_16_code
def yX9_edge : MethodName := ⟨RX9, "edge", "(II)I"⟩
abbrev cX9_sumOf : ByteArray := prog_1_method_17_code
def yX9_sumOf : MethodName := ⟨RX9, "sumOf", "(III)I"⟩
abbrev cX9_dueOf : ByteArray := prog_1_method_18_code
def yX9_dueOf : MethodName := ⟨RX9, "dueOf", "(III)I"⟩
abbrev cX9_line : ByteArray := prog_1_method_19_code
def yX9_line : MethodName := ⟨RX9, "line", "(III)I"⟩
abbrev cX9_marks : ByteArray := prog_1_method_20_code
def yX9_marks : MethodName := ⟨RX9, "marks", "(I)I"⟩
abbrev cX9_paid : ByteArray := prog_1_method_21_code
def yX9_paid : MethodName := ⟨RX9, "paid", "(II)I"⟩
abbrev cX9_owed : ByteArray := prog_1_method_22_code
def yX9_owed : MethodName := ⟨RX9, "owed", "(II)I"⟩
abbrev cX9_over : ByteArray := prog_1_method_23_code
def yX9_over : MethodName := ⟨RX9, "over", "(II)I"⟩
abbrev cX9_left : ByteArray := prog_1_method_24_code
def yX9_left : MethodName := ⟨RX9, "left", "(III)I"⟩
abbrev cX9_oldest : ByteArray := prog_1_method_25_code
def yX9_oldest : MethodName := ⟨RX9, "oldest", "(II)I"⟩
abbrev cX9_payer : ByteArray := prog_1_method_26_code
def yX9_payer : MethodName := ⟨RX9, "payer", "(II)I"⟩
abbrev cX9_interest : ByteArray := prog_1_method_27_code
def yX9_interest : MethodName := ⟨RX9, "interest", "(II)I"⟩
abbrev cX9_forgive : ByteArray := prog_1_method_28_code
def yX9_forgive : MethodName := ⟨RX9, "forgive", "(II)I"⟩
abbrev cX9_rate : ByteArray := prog_1_method_29_code
def yX9_rate : MethodName := ⟨RX9, "rate", "(I)I"⟩
abbrev cX9_weeks : ByteArray := prog_1_method_30_code
def yX9_weeks : MethodName := ⟨RX9, "weeks", "(I)I"⟩
abbrev cX9_settle : ByteArray := prog_1_method_31_code
def yX9_settle : MethodName := ⟨RX9, "settle", "(II)V"⟩
abbrev cX9_sheet : ByteArray := prog_1_method_32_code
def yX9_sheet : MethodName := ⟨RX9, "sheet", "(II)I"⟩
abbrev cX9_mark : ByteArray := prog_1_method_33_code
def yX9_mark : MethodName := ⟨RX9, "mark", "(III)I"⟩
abbrev cX9_copy : ByteArray := prog_1_method_34_code
def yX9_copy : MethodName := ⟨RX9, "copy", "(IIIII)I"⟩
abbrev cX9_lose : ByteArray := prog_1_method_35_code
def yX9_lose : MethodName := ⟨RX9, "lose", "(I)I"⟩
abbrev cX9_count : ByteArray := prog_1_method_36_code
def yX9_count : MethodName := ⟨RX9, "count", "(I)I"⟩
abbrev cX9_forgivenWeeks : ByteArray := prog_1_method_37_code
def yX9_forgivenWeeks : MethodName := ⟨RX9, "forgivenWeeks", "()I"⟩
abbrev cX9_isBelow : ByteArray := prog_1_method_38_code
def yX9_isBelow : MethodName := ⟨RX9, "isBelow", "(II)Z"⟩
abbrev cX9_isWeek : ByteArray := prog_1_method_39_code
def yX9_isWeek : MethodName := ⟨RX9, "isWeek", "(I)Z"⟩
abbrev cX9_areNights : ByteArray := prog_1_method_40_code
def yX9_areNights : MethodName := ⟨RX9, "areNights", "(I)Z"⟩
abbrev cX9_isPast : ByteArray := prog_1_method_41_code
def yX9_isPast : MethodName := ⟨RX9, "isPast", "(I)Z"⟩
def RX10 : String := "ChildPayModel"
def TX10 : u_T := fun k => match k with
  | 0 => ("ChildPayModel", "now", "I", false)
  | 1 => ("ChildPayModel", "changes", "I", false)
  | 2 => ("ChildPayModel", "kind", "[I", true)
  | 3 => ("ChildPayModel", "value", "[I", true)
  | 4 => ("ChildPayModel", "from", "[I", true)
  | 5 => ("ChildPayModel", "toldIn", "[I", true)
  | 6 => ("ChildPayModel", "backIn", "[I", true)
  | 7 => ("ChildPayModel", "schools", "[I", true)
  | 8 => ("ChildPayModel", "forgiven", "[Z", true)
  | 9 => ("ChildPayModel", "laws", "I", false)
  | 10 => ("ChildPayModel", "lFrom", "[I", true)
  | 11 => ("ChildPayModel", "lTake", "[I", true)
  | 12 => ("ChildPayModel", "lOver", "[I", true)
  | 13 => ("ChildPayModel", "lMore", "[I", true)
  | 14 => ("ChildPayModel", "lNight", "[I", true)
  | 15 => ("ChildPayModel", "lOther", "[I", true)
  | 16 => ("ChildPayModel", "lLeast", "[I", true)
  | 17 => ("ChildPayModel", "lMost", "[I", true)
  | 18 => ("ChildPayModel", "lines", "I", false)
  | 19 => ("ChildPayModel", "bWeek", "[I", true)
  | 20 => ("ChildPayModel", "bCoins", "[I", true)
  | 21 => ("ChildPayModel", "bMark", "[I", true)
  | 22 => ("ChildPayModel", "pays", "I", false)
  | 23 => ("ChildPayModel", "rate", "I", false)
  | 24 => ("ChildPayModel", "tape", "[I", true)
  | 25 => ("ChildPayModel", "taped", "I", false)
  | 26 => ("ChildPayModel", "places", "[I", true)
  | 27 => ("ChildPayModel", "numbers", "[I", true)
  | 28 => ("ChildPayModel", "read", "I", false)
  | 29 => ("ChildPayModel", "start", "I", false)
  | 30 => ("ChildPayModel", "size", "I", false)
  | 31 => ("ChildPayModel", "last", "I", false)
  | 32 => ("ChildPayModel", "aside", "[I", true)
  | 33 => ("ChildPayModel", "dues", "[I", true)
  | 34 => ("ChildPayModel", "all", "[I", true)
  | _ => ("ChildPayModel", "carried", "[I", true)
def tyX10 : Nat → FieldType := fun k => match k with
  | 0 => .int
  | 1 => .int
  | 2 => .array .int
  | 3 => .array .int
  | 4 => .array .int
  | 5 => .array .int
  | 6 => .array .int
  | 7 => .array .int
  | 8 => .array .boolean
  | 9 => .int
  | 10 => .array .int
  | 11 => .array .int
  | 12 => .array .int
  | 13 => .array .int
  | 14 => .array .int
  | 15 => .array .int
  | 16 => .array .int
  | 17 => .array .int
  | 18 => .int
  | 19 => .array .int
  | 20 => .array .int
  | 21 => .array .int
  | 22 => .int
  | 23 => .int
  | 24 => .array .int
  | 25 => .int
  | 26 => .array .int
  | 27 => .array .int
  | 28 => .int
  | 29 => .int
  | 30 => .int
  | 31 => .int
  | 32 => .array .int
  | 33 => .array .int
  | 34 => .array .int
  | _ => .array .int
abbrev wsX100 : List Cond := u_ws RX10 TX10 36
theorem nmX10 : ∀ a, a < 36 → ∀ b, b < 36 → a ≠ b → (TX10 a).2.1 ≠ (TX10 b).2.1 := by decide +kernel
theorem tyX10_ok : ∀ k, k < 36 → parseFieldDescriptor (TX10 k).2.2.1 = some (tyX10 k) := by decide +kernel
abbrev cX10_init : ByteArray := prog_12_method_1_code
def yX10_init : MethodName := ⟨RX10, "<init>", "()V"⟩
abbrev cX10_isIn : ByteArray := prog_12_method_2_code
def yX10_isIn : MethodName := ⟨RX10, "isIn", "(III)Z"⟩
abbrev cX10_isWeek : ByteArray := prog_12_method_3_code
def yX10_isWeek : MethodName := ⟨RX10, "isWeek", "(I)Z"⟩
abbrev cX10_isPast : ByteArray := prog_12_method_4_code
def yX10_isPast : MethodName := ⟨RX10, "isPast", "(I)Z"⟩
abbrev cX10_isValue : ByteArray := prog_12_method_5_code
def yX10_isValue : MethodName := ⟨RX10, "isValue", "(II)Z"⟩
abbrev cX10_change : ByteArray := prog_12_method_6_code
def yX10_change : MethodName := ⟨RX10, "change", "(III)I"⟩
abbrev cX10_isChange : ByteArray := prog_12_method_7_code
def yX10_isChange : MethodName := ⟨RX10, "isChange", "(I)Z"⟩
abbrev cX10_isOf : ByteArray := prog_12_method_8_code
def yX10_isOf : MethodName := ⟨RX10, "isOf", "(II)I"⟩
abbrev cX10_takeBack : ByteArray := prog_12_method_9_code
def yX10_takeBack : MethodName := ⟨RX10, "takeBack", "(I)I"⟩
abbrev cX10_told : ByteArray := prog_12_method_10_code
def yX10_told : MethodName := ⟨RX10, "told", "(II)I"⟩
abbrev cX10_holds : ByteArray := prog_12_method_11_code
def yX10_holds : MethodName := ⟨RX10, "holds", "(III)Z"⟩
abbrev cX10_latest : ByteArray := prog_12_method_12_code
def yX10_latest : MethodName := ⟨RX10, "latest", "(III)I"⟩
abbrev cX10_income : ByteArray := prog_12_method_13_code
def yX10_income : MethodName := ⟨RX10, "income", "(II)I"⟩
abbrev cX10_children : ByteArray := prog_12_method_14_code
def yX10_children : MethodName := ⟨RX10, "children", "(II)I"⟩
abbrev cX10_others : ByteArray := prog_12_method_15_code
def yX10_others : MethodName := ⟨RX10, "others", "(II)I"⟩
abbrev cX10_known : ByteArray := prog_12_method_16_code
def yX10_known : MethodName := ⟨RX10, "known", "(III)I"⟩
abbrev cX10_school : ByteArray := prog_12_method_17_code
def yX10_school : MethodName := ⟨RX10, "school", "(II)I"⟩
abbrev cX10_diary : ByteArray := prog_12_method_18_code
def yX10_diary : MethodName := ⟨RX10, "diary", "(II)I"⟩
abbrev cX10_end : ByteArray := prog_12_method_19_code
def yX10_end : MethodName := ⟨RX10, "end", "(IZ)I"⟩
abbrev cX10_nights : ByteArray := prog_12_method_20_code
def yX10_nights : MethodName := ⟨RX10, "nights", "(II)I"⟩
abbrev cX10_four : ByteArray := prog_12_method_21_code
def yX10_four : MethodName := ⟨RX10, "four", "(I)V"⟩
abbrev cX10_feed : ByteArray := prog_12_method_22_code
def yX10_feed : MethodName := ⟨RX10, "feed", "(III)I"⟩
abbrev cX10_trim : ByteArray := prog_12_method_23_code
def yX10_trim : MethodName := ⟨RX10, "trim", "(I)I"⟩
abbrev cX10_next : ByteArray := prog_12_method_24_code
def yX10_next : MethodName := ⟨RX10, "next", "()V"⟩
abbrev cX10_here : ByteArray := prog_12_method_25_code
def yX10_here : MethodName := ⟨RX10, "here", "()I"⟩
abbrev cX10_isWord : ByteArray := prog_12_method_26_code
def yX10_isWord : MethodName := ⟨RX10, "isWord", "(IIIII)Z"⟩
abbrev cX10_number : ByteArray := prog_12_method_27_code
def yX10_number : MethodName := ⟨RX10, "number", "()I"⟩
abbrev cX10_isNumber : ByteArray := prog_12_method_28_code
def yX10_isNumber : MethodName := ⟨RX10, "isNumber", "(II)Z"⟩
abbrev cX10_isTake : ByteArray := prog_12_method_29_code
def yX10_isTake : MethodName := ⟨RX10, "isTake", "()Z"⟩
abbrev cX10_readOver : ByteArray := prog_12_method_30_code
def yX10_readOver : MethodName := ⟨RX10, "readOver", "(I)Z"⟩
abbrev cX10_readLaw : ByteArray := prog_12_method_31_code
def yX10_readLaw : MethodName := ⟨RX10, "readLaw", "(I)Z"⟩
abbrev cX10_keepAside : ByteArray := prog_12_method_32_code
def yX10_keepAside : MethodName := ⟨RX10, "keepAside", "(I)V"⟩
abbrev cX10_putBack : ByteArray := prog_12_method_33_code
def yX10_putBack : MethodName := ⟨RX10, "putBack", "(I)V"⟩
abbrev cX10_law : ByteArray := prog_12_method_34_code
def yX10_law : MethodName := ⟨RX10, "law", "(I)I"⟩
abbrev cX10_lawOf : ByteArray := prog_12_method_35_code
def yX10_lawOf : MethodName := ⟨RX10, "lawOf", "(I)I"⟩
abbrev cX10_inForce : ByteArray := prog_12_method_36_code
def yX10_inForce : MethodName := ⟨RX10, "inForce", "(I)I"⟩
abbrev cX10_sumOf : ByteArray := prog_12_method_37_code
def yX10_sumOf : MethodName := ⟨RX10, "sumOf", "(III)I"⟩
abbrev cX10_sum : ByteArray := prog_12_method_38_code
def yX10_sum : MethodName := ⟨RX10, "sum", "(III)I"⟩
abbrev cX10_dueOf : ByteArray := prog_12_method_39_code
def yX10_dueOf : MethodName := ⟨RX10, "dueOf", "(III)I"⟩
abbrev cX10_isSide : ByteArray := prog_12_method_40_code
def yX10_isSide : MethodName := ⟨RX10, "isSide", "(I)Z"⟩
abbrev cX10_due : ByteArray := prog_12_method_41_code
def yX10_due : MethodName := ⟨RX10, "due", "(III)I"⟩
abbrev cX10_edge : ByteArray := prog_12_method_42_code
def yX10_edge : MethodName := ⟨RX10, "edge", "(II)I"⟩
abbrev cX10_line : ByteArray := prog_12_method_43_code
def yX10_line : MethodName := ⟨RX10, "line", "(III)I"⟩
abbrev cX10_marks : ByteArray := prog_12_method_44_code
def yX10_marks : MethodName := ⟨RX10, "marks", "(I)I"⟩
abbrev cX10_isPay : ByteArray := prog_12_method_45_code
def yX10_isPay : MethodName := ⟨RX10, "isPay", "(I)Z"⟩
abbrev cX10_paid : ByteArray := prog_12_method_46_code
def yX10_paid : MethodName := ⟨RX10, "paid", "(II)I"⟩
abbrev cX10_paysUpTo : ByteArray := prog_12_method_47_code
def yX10_paysUpTo : MethodName := ⟨RX10, "paysUpTo", "(I)I"⟩
abbrev cX10_findDues : ByteArray := prog_12_method_48_code
def yX10_findDues : MethodName := ⟨RX10, "findDues", "(II)V"⟩
abbrev cX10_leftBy : ByteArray := prog_12_method_49_code
def yX10_leftBy : MethodName := ⟨RX10, "leftBy", "(II)I"⟩
abbrev cX10_isAsked : ByteArray := prog_12_method_50_code
def yX10_isAsked : MethodName := ⟨RX10, "isAsked", "(II)Z"⟩
abbrev cX10_owed : ByteArray := prog_12_method_51_code
def yX10_owed : MethodName := ⟨RX10, "owed", "(II)I"⟩
abbrev cX10_over : ByteArray := prog_12_method_52_code
def yX10_over : MethodName := ⟨RX10, "over", "(II)I"⟩
abbrev cX10_left : ByteArray := prog_12_method_53_code
def yX10_left : MethodName := ⟨RX10, "left", "(III)I"⟩
abbrev cX10_oldest : ByteArray := prog_12_method_54_code
def yX10_oldest : MethodName := ⟨RX10, "oldest", "(II)I"⟩
abbrev cX10_payer : ByteArray := prog_12_method_55_code
def yX10_payer : MethodName := ⟨RX10, "payer", "(II)I"⟩
abbrev cX10_interest : ByteArray := prog_12_method_56_code
def yX10_interest : MethodName := ⟨RX10, "interest", "(II)I"⟩
abbrev cX10_forgive : ByteArray := prog_12_method_57_code
def yX10_forgive : MethodName := ⟨RX10, "forgive", "(II)I"⟩
abbrev cX10_rate : ByteArray := prog_12_method_58_code
def yX10_rate : MethodName := ⟨RX10, "rate", "(I)I"⟩
abbrev cX10_weeks : ByteArray := prog_12_method_59_code
def yX10_weeks : MethodName := ⟨RX10, "weeks", "(I)I"⟩
abbrev cX10_isSheet : ByteArray := prog_12_method_60_code
def yX10_isSheet : MethodName := ⟨RX10, "isSheet", "(I)Z"⟩
abbrev cX10_sheet : ByteArray := prog_12_method_61_code
def yX10_sheet : MethodName := ⟨RX10, "sheet", "(II)I"⟩
abbrev cX10_mark : ByteArray := prog_12_method_62_code
def yX10_mark : MethodName := ⟨RX10, "mark", "(III)I"⟩
abbrev cX10_copy : ByteArray := prog_12_method_63_code
def yX10_copy : MethodName := ⟨RX10, "copy", "(IIIII)I"⟩
abbrev cX10_lose : ByteArray := prog_12_method_64_code
def yX10_lose : MethodName := ⟨RX10, "lose", "(I)I"⟩
abbrev cX10_count : ByteArray := prog_12_method_65_code
def yX10_count : MethodName := ⟨RX10, "count", "(I)I"⟩
def RJ9 : String := "java/lang/Math"
def TJ9 : u_T := fun k => match k with
  | _ => ("", "", "", false)
def tyJ9 : Nat → FieldType := fun k => match k with
  | _ => .int
abbrev wsJ90 : List Cond := u_ws RJ9 TJ9 0
theorem nmJ9 : ∀ a, a < 0 → ∀ b, b < 0 → a ≠ b → (TJ9 a).2.1 ≠ (TJ9 b).2.1 := by decide +kernel
theorem tyJ9_ok : ∀ k, k < 0 → parseFieldDescriptor (TJ9 k).2.2.1 = some (tyJ9 k) := by decide +kernel
abbrev cJ9_max_7cf53 : ByteArray := prog_13_method_65_code
def yJ9_max_7cf53 : MethodName := ⟨RJ9, "max", "(II)I"⟩
abbrev cJ9_min_7cf53 : ByteArray := prog_13_method_69_code
def yJ9_min_7cf53 : MethodName := ⟨RJ9, "min", "(II)I"⟩
def RJ0 : String := "java/lang/String"
def TJ0 : u_T := fun k => match k with
  | _ => ("", "", "", false)
def tyJ0 : Nat → FieldType := fun k => match k with
  | _ => .int
abbrev wsJ00 : List Cond := u_ws RJ0 TJ0 0
theorem nmJ0 : ∀ a, a < 0 → ∀ b, b < 0 → a ≠ b → (TJ0 a).2.1 ≠ (TJ0 b).2.1 := by decide +kernel
theorem tyJ0_ok : ∀ k, k < 0 → parseFieldDescriptor (TJ0 k).2.2.1 = some (tyJ0 k) := by decide +kernel
abbrev cJ0_length_8abf5 : ByteArray := prog_14_method_54_code
def yJ0_length_8abf5 : MethodName := ⟨RJ0, "length", "()I"⟩
abbrev cJ0_charAt_5068e : ByteArray := prog_14_method_56_code
def yJ0_charAt_5068e : MethodName := ⟨RJ0, "charAt", "(I)C"⟩
abbrev cJ0_coder_7d493 : ByteArray := prog_14_method_152_code
def yJ0_coder_7d493 : MethodName := ⟨RJ0, "coder", "()B"⟩
abbrev cJ0_isLatin1_aae02 : ByteArray := prog_14_method_154_code
def yJ0_isLatin1_aae02 : MethodName := ⟨RJ0, "isLatin1", "()Z"⟩
abbrev cJ0_checkIndex_df160 : ByteArray := prog_14_method_155_code
def yJ0_checkIndex_df160 : MethodName := ⟨RJ0, "checkIndex", "(II)V"⟩
def RJ1 : String := "java/lang/StringLatin1"
def TJ1 : u_T := fun k => match k with
  | _ => ("", "", "", false)
def tyJ1 : Nat → FieldType := fun k => match k with
  | _ => .int
abbrev wsJ10 : List Cond := u_ws RJ1 TJ1 0
theorem nmJ1 : ∀ a, a < 0 → ∀ b, b < 0 → a ≠ b → (TJ1 a).2.1 ≠ (TJ1 b).2.1 := by decide +kernel
theorem tyJ1_ok : ∀ k, k < 0 → parseFieldDescriptor (TJ1 k).2.2.1 = some (tyJ1 k) := by decide +kernel
abbrev cJ1_charAt_3b067 : ByteArray := prog_15_method_2_code
def yJ1_charAt_3b067 : MethodName := ⟨RJ1, "charAt", "([BI)C"⟩
def RJ2 : String := "java/lang/StringUTF16"
def TJ2 : u_T := fun k => match k with
  | _ => ("", "", "", false)
def tyJ2 : Nat → FieldType := fun k => match k with
  | _ => .int
abbrev wsJ20 : List Cond := u_ws RJ2 TJ2 0
theorem nmJ2 : ∀ a, a < 0 → ∀ b, b < 0 → a ≠ b → (TJ2 a).2.1 ≠ (TJ2 b).2.1 := by decide +kernel
theorem tyJ2_ok : ∀ k, k < 0 → parseFieldDescriptor (TJ2 k).2.2.1 = some (tyJ2 k) := by decide +kernel
abbrev cJ2_getChar_3b067 : ByteArray := prog_16_method_5_code
def yJ2_getChar_3b067 : MethodName := ⟨RJ2, "getChar", "([BI)C"⟩
abbrev cJ2_length_9d52b : ByteArray := prog_16_method_6_code
def yJ2_length_9d52b : MethodName := ⟨RJ2, "length", "([B)I"⟩
abbrev cJ2_charAt_3b067 : ByteArray := prog_16_method_83_code
def yJ2_charAt_3b067 : MethodName := ⟨RJ2, "charAt", "([BI)C"⟩
abbrev cJ2_checkIndex_2214a : ByteArray := prog_16_method_91_code
def yJ2_checkIndex_2214a : MethodName := ⟨RJ2, "checkIndex", "(I[B)V"⟩
def RJ10 : String := "java/lang/System"
def TJ10 : u_T := fun k => match k with
  | _ => ("", "", "", false)
def tyJ10 : Nat → FieldType := fun k => match k with
  | _ => .int
abbrev wsJ100 : List Cond := u_ws RJ10 TJ10 0
theorem nmJ10 : ∀ a, a < 0 → ∀ b, b < 0 → a ≠ b → (TJ10 a).2.1 ≠ (TJ10 b).2.1 := by decide +kernel
theorem tyJ10_ok : ∀ k, k < 0 → parseFieldDescriptor (TJ10 k).2.2.1 = some (tyJ10 k) := by decide +kernel
def RJ7 : String := "java/util/Arrays"
def TJ7 : u_T := fun k => match k with
  | _ => ("", "", "", false)
def tyJ7 : Nat → FieldType := fun k => match k with
  | _ => .int
abbrev wsJ70 : List Cond := u_ws RJ7 TJ7 0
theorem nmJ7 : ∀ a, a < 0 → ∀ b, b < 0 → a ≠ b → (TJ7 a).2.1 ≠ (TJ7 b).2.1 := by decide +kernel
theorem tyJ7_ok : ∀ k, k < 0 → parseFieldDescriptor (TJ7 k).2.2.1 = some (tyJ7 k) := by decide +kernel
abbrev cJ7_fill_53178 : ByteArray := prog_18_method_103_code
def yJ7_fill_53178 : MethodName := ⟨RJ7, "fill", "([II)V"⟩
abbrev cJ7_fill_031fb : ByteArray := prog_18_method_109_code
def yJ7_fill_031fb : MethodName := ⟨RJ7, "fill", "([BB)V"⟩
def RJ3 : String := "jdk/internal/util/Preconditions"
def TJ3 : u_T := fun k => match k with
  | _ => ("", "", "", false)
def tyJ3 : Nat → FieldType := fun k => match k with
  | _ => .int
abbrev wsJ30 : List Cond := u_ws RJ3 TJ3 0
theorem nmJ3 : ∀ a, a < 0 → ∀ b, b < 0 → a ≠ b → (TJ3 a).2.1 ≠ (TJ3 b).2.1 := by decide +kernel
theorem tyJ3_ok : ∀ k, k < 0 → parseFieldDescriptor (TJ3 k).2.2.1 = some (tyJ3 k) := by decide +kernel
abbrev cJ3_checkIndex_8e157 : ByteArray := prog_19_method_11_code
def yJ3_checkIndex_8e157 : MethodName := ⟨RJ3, "checkIndex", "(IILjava/util/function/BiFunction;)I"⟩
def RL : String := "ChildPayLaw"
abbrev cL_law : ByteArray := code
def yL_law : MethodName := ⟨RL, "law", "([I)Z"⟩
abbrev vwCl : List vw_C := [(RX0, TX0, 4), (RX1, TX1, 5), (RX2, TX2, 6), (RX3, TX3, 8), (RX4, TX4, 2), (RX5, TX5, 2), (RX6, TX6, 4), (RX7, TX7, 2), (RX8, TX8, 2), (RX9, TX9, 10), (RX10, TX10, 36)]
end
section
theorem dX0_init_0 : decode cX0_init 0 = .ok (.aload_n 0, 1) := by decide +kernel
theorem dX0_init_1 : decode cX0_init 1 = .ok (.invokespecial 3, 3) := by decide +kernel
theorem dX0_init_4 : decode cX0_init 4 = .ok (.aload_n 0, 1) := by decide +kernel
theorem dX0_init_5 : decode cX0_init 5 = .ok (.bipush 120, 2) := by decide +kernel
theorem dX0_init_7 : decode cX0_init 7 = .ok (.newarray .int, 2) := by decide +kernel
theorem dX0_init_9 : decode cX0_init 9 = .ok (.putfield 9, 3) := by decide +kernel
theorem dX0_init_12 : decode cX0_init 12 = .ok (.aload_n 0, 1) := by decide +kernel
theorem dX0_init_13 : decode cX0_init 13 = .ok (.bipush 120, 2) := by decide +kernel
theorem dX0_init_15 : decode cX0_init 15 = .ok (.newarray .int, 2) := by decide +kernel
theorem dX0_init_17 : decode cX0_init 17 = .ok (.putfield 15, 3) := by decide +kernel
theorem dX0_init_20 : decode cX0_init 20 = .ok (.return_, 1) := by decide +kernel
theorem dX0_payOldestFirst_0 : decode cX0_payOldestFirst 0 = .ok (.aload_n 0, 1) := by decide +kernel
theorem dX0_payOldestFirst_1 : decode cX0_payOldestFirst 1 = .ok (.iload_n 1, 1) := by decide +kernel
theorem dX0_payOldestFirst_2 : decode cX0_payOldestFirst 2 = .ok (.putfield 18, 3) := by decide +kernel
theorem dX0_payOldestFirst_5 : decode cX0_payOldestFirst 5 = .ok (.iconst 0, 1) := by decide +kernel
theorem dX0_payOldestFirst_6 : decode cX0_payOldestFirst 6 = .ok (.istore_n 2, 1) := by decide +kernel
theorem dX0_payOldestFirst_7 : decode cX0_payOldestFirst 7 = .ok (.iload_n 2, 1) := by decide +kernel
theorem dX0_payOldestFirst_8 : decode cX0_payOldestFirst 8 = .ok (.aload_n 0, 1) := by decide +kernel
theorem dX0_payOldestFirst_9 : decode cX0_payOldestFirst 9 = .ok (.getfield 22, 3) := by decide +kernel
theorem dX0_payOldestFirst_12 : decode cX0_payOldestFirst 12 = .ok (.if_icmp .ge 47, 3) := by decide +kernel
theorem dX0_payOldestFirst_15 : decode cX0_payOldestFirst 15 = .ok (.aload_n 0, 1) := by decide +kernel
theorem dX0_payOldestFirst_16 : decode cX0_payOldestFirst 16 = .ok (.getfield 18, 3) := by decide +kernel
theorem dX0_payOldestFirst_19 : decode cX0_payOldestFirst 19 = .ok (.aload_n 0, 1) := by decide +kernel
theorem dX0_payOldestFirst_20 : decode cX0_payOldestFirst 20 = .ok (.getfield 9, 3) := by decide +kernel
theorem dX0_payOldestFirst_23 : decode cX0_payOldestFirst 23 = .ok (.iload_n 2, 1) := by decide +kernel
theorem dX0_payOldestFirst_24 : decode cX0_payOldestFirst 24 = .ok (.iaload, 1) := by decide +kernel
theorem dX0_payOldestFirst_25 : decode cX0_payOldestFirst 25 = .ok (.invokestatic 25, 3) := by decide +kernel
theorem dX0_payOldestFirst_28 : decode cX0_payOldestFirst 28 = .ok (.istore_n 3, 1) := by decide +kernel
theorem dX0_payOldestFirst_29 : decode cX0_payOldestFirst 29 = .ok (.aload_n 0, 1) := by decide +kernel
theorem dX0_payOldestFirst_30 : decode cX0_payOldestFirst 30 = .ok (.getfield 15, 3) := by decide +kernel
theorem dX0_payOldestFirst_33 : decode cX0_payOldestFirst 33 = .ok (.iload_n 2, 1) := by decide +kernel
theorem dX0_payOldestFirst_34 : decode cX0_payOldestFirst 34 = .ok (.aload_n 0, 1) := by decide +kernel
theorem dX0_payOldestFirst_35 : decode cX0_payOldestFirst 35 = .ok (.getfield 9, 3) := by decide +kernel
theorem dX0_payOldestFirst_38 : decode cX0_payOldestFirst 38 = .ok (.iload_n 2, 1) := by decide +kernel
theorem dX0_payOldestFirst_39 : decode cX0_payOldestFirst 39 = .ok (.iaload, 1) := by decide +kernel
theorem dX0_payOldestFirst_40 : decode cX0_payOldestFirst 40 = .ok (.iload_n 3, 1) := by decide +kernel
theorem dX0_payOldestFirst_41 : decode cX0_payOldestFirst 41 = .ok (.isub, 1) := by decide +kernel
theorem dX0_payOldestFirst_42 : decode cX0_payOldestFirst 42 = .ok (.iastore, 1) := by decide +kernel
theorem dX0_payOldestFirst_43 : decode cX0_payOldestFirst 43 = .ok (.aload_n 0, 1) := by decide +kernel
theorem dX0_payOldestFirst_44 : decode cX0_payOldestFirst 44 = .ok (.dup, 1) := by decide +kernel
theorem dX0_payOldestFirst_45 : decode cX0_payOldestFirst 45 = .ok (.getfield 18, 3) := by decide +kernel
theorem dX0_payOldestFirst_48 : decode cX0_payOldestFirst 48 = .ok (.iload_n 3, 1) := by decide +kernel
theorem dX0_payOldestFirst_49 : decode cX0_payOldestFirst 49 = .ok (.isub, 1) := by decide +kernel
theorem dX0_payOldestFirst_50 : decode cX0_payOldestFirst 50 = .ok (.putfield 18, 3) := by decide +kernel
theorem dX0_payOldestFirst_53 : decode cX0_payOldestFirst 53 = .ok (.iinc 2 1, 3) := by decide +kernel
theorem dX0_payOldestFirst_56 : decode cX0_payOldestFirst 56 = .ok (.goto (-49), 3) := by decide +kernel
theorem dX0_payOldestFirst_59 : decode cX0_payOldestFirst 59 = .ok (.return_, 1) := by decide +kernel
theorem dX0_dueUpTo_0 : decode cX0_dueUpTo 0 = .ok (.iconst 0, 1) := by decide +kernel
theorem dX0_dueUpTo_1 : decode cX0_dueUpTo 1 = .ok (.istore_n 2, 1) := by decide +kernel
theorem dX0_dueUpTo_2 : decode cX0_dueUpTo 2 = .ok (.iconst 0, 1) := by decide +kernel
theorem dX0_dueUpTo_3 : decode cX0_dueUpTo 3 = .ok (.istore_n 3, 1) := by decide +kernel
theorem dX0_dueUpTo_4 : decode cX0_dueUpTo 4 = .ok (.iload_n 3, 1) := by decide +kernel
theorem dX0_dueUpTo_5 : decode cX0_dueUpTo 5 = .ok (.iload_n 1, 1) := by decide +kernel
theorem dX0_dueUpTo_6 : decode cX0_dueUpTo 6 = .ok (.if_icmp .gt 18, 3) := by decide +kernel
theorem dX0_dueUpTo_9 : decode cX0_dueUpTo 9 = .ok (.iload_n 2, 1) := by decide +kernel
theorem dX0_dueUpTo_10 : decode cX0_dueUpTo 10 = .ok (.aload_n 0, 1) := by decide +kernel
theorem dX0_dueUpTo_11 : decode cX0_dueUpTo 11 = .ok (.getfield 9, 3) := by decide +kernel
theorem dX0_dueUpTo_14 : decode cX0_dueUpTo 14 = .ok (.iload_n 3, 1) := by decide +kernel
theorem dX0_dueUpTo_15 : decode cX0_dueUpTo 15 = .ok (.iaload, 1) := by decide +kernel
theorem dX0_dueUpTo_16 : decode cX0_dueUpTo 16 = .ok (.iadd, 1) := by decide +kernel
theorem dX0_dueUpTo_17 : decode cX0_dueUpTo 17 = .ok (.istore_n 2, 1) := by decide +kernel
theorem dX0_dueUpTo_18 : decode cX0_dueUpTo 18 = .ok (.iinc 3 1, 3) := by decide +kernel
theorem dX0_dueUpTo_21 : decode cX0_dueUpTo 21 = .ok (.goto (-17), 3) := by decide +kernel
theorem dX0_dueUpTo_24 : decode cX0_dueUpTo 24 = .ok (.iload_n 2, 1) := by decide +kernel
theorem dX0_dueUpTo_25 : decode cX0_dueUpTo 25 = .ok (.ireturn, 1) := by decide +kernel
theorem dX0_leftInAll_0 : decode cX0_leftInAll 0 = .ok (.iconst 0, 1) := by decide +kernel
theorem dX0_leftInAll_1 : decode cX0_leftInAll 1 = .ok (.istore_n 1, 1) := by decide +kernel
theorem dX0_leftInAll_2 : decode cX0_leftInAll 2 = .ok (.iconst 0, 1) := by decide +kernel
theorem dX0_leftInAll_3 : decode cX0_leftInAll 3 = .ok (.istore_n 2, 1) := by decide +kernel
theorem dX0_leftInAll_4 : decode cX0_leftInAll 4 = .ok (.iload_n 2, 1) := by decide +kernel
theorem dX0_leftInAll_5 : decode cX0_leftInAll 5 = .ok (.aload_n 0, 1) := by decide +kernel
theorem dX0_leftInAll_6 : decode cX0_leftInAll 6 = .ok (.getfield 22, 3) := by decide +kernel
theorem dX0_leftInAll_9 : decode cX0_leftInAll 9 = .ok (.if_icmp .ge 18, 3) := by decide +kernel
theorem dX0_leftInAll_12 : decode cX0_leftInAll 12 = .ok (.iload_n 1, 1) := by decide +kernel
theorem dX0_leftInAll_13 : decode cX0_leftInAll 13 = .ok (.aload_n 0, 1) := by decide +kernel
theorem dX0_leftInAll_14 : decode cX0_leftInAll 14 = .ok (.getfield 15, 3) := by decide +kernel
theorem dX0_leftInAll_17 : decode cX0_leftInAll 17 = .ok (.iload_n 2, 1) := by decide +kernel
theorem dX0_leftInAll_18 : decode cX0_leftInAll 18 = .ok (.iaload, 1) := by decide +kernel
theorem dX0_leftInAll_19 : decode cX0_leftInAll 19 = .ok (.iadd, 1) := by decide +kernel
theorem dX0_leftInAll_20 : decode cX0_leftInAll 20 = .ok (.istore_n 1, 1) := by decide +kernel
theorem dX0_leftInAll_21 : decode cX0_leftInAll 21 = .ok (.iinc 2 1, 3) := by decide +kernel
theorem dX0_leftInAll_24 : decode cX0_leftInAll 24 = .ok (.goto (-20), 3) := by decide +kernel
theorem dX0_leftInAll_27 : decode cX0_leftInAll 27 = .ok (.iload_n 1, 1) := by decide +kernel
theorem dX0_leftInAll_28 : decode cX0_leftInAll 28 = .ok (.ireturn, 1) := by decide +kernel
theorem dX0_firstLeft_0 : decode cX0_firstLeft 0 = .ok (.iconst 0, 1) := by decide +kernel
theorem dX0_firstLeft_1 : decode cX0_firstLeft 1 = .ok (.istore_n 1, 1) := by decide +kernel
theorem dX0_firstLeft_2 : decode cX0_firstLeft 2 = .ok (.iload_n 1, 1) := by decide +kernel
theorem dX0_firstLeft_3 : decode cX0_firstLeft 3 = .ok (.aload_n 0, 1) := by decide +kernel
theorem dX0_firstLeft_4 : decode cX0_firstLeft 4 = .ok (.getfield 22, 3) := by decide +kernel
theorem dX0_firstLeft_7 : decode cX0_firstLeft 7 = .ok (.if_icmp .ge 20, 3) := by decide +kernel
theorem dX0_firstLeft_10 : decode cX0_firstLeft 10 = .ok (.aload_n 0, 1) := by decide +kernel
theorem dX0_firstLeft_11 : decode cX0_firstLeft 11 = .ok (.getfield 15, 3) := by decide +kernel
theorem dX0_firstLeft_14 : decode cX0_firstLeft 14 = .ok (.iload_n 1, 1) := by decide +kernel
theorem dX0_firstLeft_15 : decode cX0_firstLeft 15 = .ok (.iaload, 1) := by decide +kernel
theorem dX0_firstLeft_16 : decode cX0_firstLeft 16 = .ok (.ifCond .le 5, 3) := by decide +kernel
theorem dX0_firstLeft_19 : decode cX0_firstLeft 19 = .ok (.iload_n 1, 1) := by decide +kernel
theorem dX0_firstLeft_20 : decode cX0_firstLeft 20 = .ok (.ireturn, 1) := by decide +kernel
theorem dX0_firstLeft_21 : decode cX0_firstLeft 21 = .ok (.iinc 1 1, 3) := by decide +kernel
theorem dX0_firstLeft_24 : decode cX0_firstLeft 24 = .ok (.goto (-22), 3) := by decide +kernel
theorem dX0_firstLeft_27 : decode cX0_firstLeft 27 = .ok (.ldc 31, 2) := by decide +kernel
theorem dX0_firstLeft_29 : decode cX0_firstLeft 29 = .ok (.ireturn, 1) := by decide +kernel
theorem dX0_interestUpTo_0 : decode cX0_interestUpTo 0 = .ok (.iconst 0, 1) := by decide +kernel
theorem dX0_interestUpTo_1 : decode cX0_interestUpTo 1 = .ok (.istore_n 3, 1) := by decide +kernel
theorem dX0_interestUpTo_2 : decode cX0_interestUpTo 2 = .ok (.iconst 0, 1) := by decide +kernel
theorem dX0_interestUpTo_3 : decode cX0_interestUpTo 3 = .ok (.istore 4, 2) := by decide +kernel
theorem dX0_interestUpTo_5 : decode cX0_interestUpTo 5 = .ok (.iload 4, 2) := by decide +kernel
theorem dX0_interestUpTo_7 : decode cX0_interestUpTo 7 = .ok (.iload_n 1, 1) := by decide +kernel
theorem dX0_interestUpTo_8 : decode cX0_interestUpTo 8 = .ok (.if_icmp .gt 25, 3) := by decide +kernel
theorem dX0_interestUpTo_11 : decode cX0_interestUpTo 11 = .ok (.iload_n 3, 1) := by decide +kernel
theorem dX0_interestUpTo_12 : decode cX0_interestUpTo 12 = .ok (.aload_n 0, 1) := by decide +kernel
theorem dX0_interestUpTo_13 : decode cX0_interestUpTo 13 = .ok (.getfield 15, 3) := by decide +kernel
theorem dX0_interestUpTo_16 : decode cX0_interestUpTo 16 = .ok (.iload 4, 2) := by decide +kernel
theorem dX0_interestUpTo_18 : decode cX0_interestUpTo 18 = .ok (.iaload, 1) := by decide +kernel
theorem dX0_interestUpTo_19 : decode cX0_interestUpTo 19 = .ok (.iload_n 2, 1) := by decide +kernel
theorem dX0_interestUpTo_20 : decode cX0_interestUpTo 20 = .ok (.imul, 1) := by decide +kernel
theorem dX0_interestUpTo_21 : decode cX0_interestUpTo 21 = .ok (.sipush 10000, 3) := by decide +kernel
theorem dX0_interestUpTo_24 : decode cX0_interestUpTo 24 = .ok (.idiv, 1) := by decide +kernel
theorem dX0_interestUpTo_25 : decode cX0_interestUpTo 25 = .ok (.iadd, 1) := by decide +kernel
theorem dX0_interestUpTo_26 : decode cX0_interestUpTo 26 = .ok (.istore_n 3, 1) := by decide +kernel
theorem dX0_interestUpTo_27 : decode cX0_interestUpTo 27 = .ok (.iinc 4 1, 3) := by decide +kernel
theorem dX0_interestUpTo_30 : decode cX0_interestUpTo 30 = .ok (.goto (-25), 3) := by decide +kernel
theorem dX0_interestUpTo_33 : decode cX0_interestUpTo 33 = .ok (.iload_n 3, 1) := by decide +kernel
theorem dX0_interestUpTo_34 : decode cX0_interestUpTo 34 = .ok (.ireturn, 1) := by decide +kernel
theorem dX1_init_0 : decode cX1_init 0 = .ok (.aload_n 0, 1) := by decide +kernel
theorem dX1_init_1 : decode cX1_init 1 = .ok (.invokespecial 3, 3) := by decide +kernel
theorem dX1_init_4 : decode cX1_init 4 = .ok (.aload_n 0, 1) := by decide +kernel
theorem dX1_init_5 : decode cX1_init 5 = .ok (.bipush 100, 2) := by decide +kernel
theorem dX1_init_7 : decode cX1_init 7 = .ok (.newarray .int, 2) := by decide +kernel
theorem dX1_init_9 : decode cX1_init 9 = .ok (.putfield 9, 3) := by decide +kernel
theorem dX1_init_12 : decode cX1_init 12 = .ok (.aload_n 0, 1) := by decide +kernel
theorem dX1_init_13 : decode cX1_init 13 = .ok (.bipush 100, 2) := by decide +kernel
theorem dX1_init_15 : decode cX1_init 15 = .ok (.newarray .int, 2) := by decide +kernel
theorem dX1_init_17 : decode cX1_init 17 = .ok (.putfield 15, 3) := by decide +kernel
theorem dX1_init_20 : decode cX1_init 20 = .ok (.aload_n 0, 1) := by decide +kernel
theorem dX1_init_21 : decode cX1_init 21 = .ok (.bipush 100, 2) := by decide +kernel
theorem dX1_init_23 : decode cX1_init 23 = .ok (.newarray .int, 2) := by decide +kernel
theorem dX1_init_25 : decode cX1_init 25 = .ok (.putfield 18, 3) := by decide +kernel
theorem dX1_init_28 : decode cX1_init 28 = .ok (.aload_n 0, 1) := by decide +kernel
theorem dX1_init_29 : decode cX1_init 29 = .ok (.iconst 1, 1) := by decide +kernel
theorem dX1_init_30 : decode cX1_init 30 = .ok (.putfield 21, 3) := by decide +kernel
theorem dX1_init_33 : decode cX1_init 33 = .ok (.return_, 1) := by decide +kernel
theorem dX1_add_0 : decode cX1_add 0 = .ok (.aload_n 0, 1) := by decide +kernel
theorem dX1_add_1 : decode cX1_add 1 = .ok (.getfield 9, 3) := by decide +kernel
theorem dX1_add_4 : decode cX1_add 4 = .ok (.aload_n 0, 1) := by decide +kernel
theorem dX1_add_5 : decode cX1_add 5 = .ok (.getfield 25, 3) := by decide +kernel
theorem dX1_add_8 : decode cX1_add 8 = .ok (.iload_n 1, 1) := by decide +kernel
theorem dX1_add_9 : decode cX1_add 9 = .ok (.iastore, 1) := by decide +kernel
theorem dX1_add_10 : decode cX1_add 10 = .ok (.aload_n 0, 1) := by decide +kernel
theorem dX1_add_11 : decode cX1_add 11 = .ok (.getfield 15, 3) := by decide +kernel
theorem dX1_add_14 : decode cX1_add 14 = .ok (.aload_n 0, 1) := by decide +kernel
theorem dX1_add_15 : decode cX1_add 15 = .ok (.getfield 25, 3) := by decide +kernel
theorem dX1_add_18 : decode cX1_add 18 = .ok (.iload_n 2, 1) := by decide +kernel
theorem dX1_add_19 : decode cX1_add 19 = .ok (.iastore, 1) := by decide +kernel
theorem dX1_add_20 : decode cX1_add 20 = .ok (.aload_n 0, 1) := by decide +kernel
theorem dX1_add_21 : decode cX1_add 21 = .ok (.getfield 18, 3) := by decide +kernel
theorem dX1_add_24 : decode cX1_add 24 = .ok (.aload_n 0, 1) := by decide +kernel
theorem dX1_add_25 : decode cX1_add 25 = .ok (.getfield 25, 3) := by decide +kernel
theorem dX1_add_28 : decode cX1_add 28 = .ok (.iload_n 3, 1) := by decide +kernel
theorem dX1_add_29 : decode cX1_add 29 = .ok (.iastore, 1) := by decide +kernel
theorem dX1_add_30 : decode cX1_add 30 = .ok (.aload_n 0, 1) := by decide +kernel
theorem dX1_add_31 : decode cX1_add 31 = .ok (.dup, 1) := by decide +kernel
theorem dX1_add_32 : decode cX1_add 32 = .ok (.getfield 25, 3) := by decide +kernel
theorem dX1_add_35 : decode cX1_add 35 = .ok (.iconst 1, 1) := by decide +kernel
theorem dX1_add_36 : decode cX1_add 36 = .ok (.iadd, 1) := by decide +kernel
theorem dX1_add_37 : decode cX1_add 37 = .ok (.putfield 25, 3) := by decide +kernel
theorem dX1_add_40 : decode cX1_add 40 = .ok (.aload_n 0, 1) := by decide +kernel
theorem dX1_add_41 : decode cX1_add 41 = .ok (.getfield 25, 3) := by decide +kernel
theorem dX1_add_44 : decode cX1_add 44 = .ok (.iconst 1, 1) := by decide +kernel
theorem dX1_add_45 : decode cX1_add 45 = .ok (.isub, 1) := by decide +kernel
theorem dX1_add_46 : decode cX1_add 46 = .ok (.ireturn, 1) := by decide +kernel
theorem dX1_coinsIn_0 : decode cX1_coinsIn 0 = .ok (.iconst 0, 1) := by decide +kernel
theorem dX1_coinsIn_1 : decode cX1_coinsIn 1 = .ok (.istore_n 3, 1) := by decide +kernel
theorem dX1_coinsIn_2 : decode cX1_coinsIn 2 = .ok (.iconst 0, 1) := by decide +kernel
theorem dX1_coinsIn_3 : decode cX1_coinsIn 3 = .ok (.istore 4, 2) := by decide +kernel
theorem dX1_coinsIn_5 : decode cX1_coinsIn 5 = .ok (.iload 4, 2) := by decide +kernel
theorem dX1_coinsIn_7 : decode cX1_coinsIn 7 = .ok (.aload_n 0, 1) := by decide +kernel
theorem dX1_coinsIn_8 : decode cX1_coinsIn 8 = .ok (.getfield 25, 3) := by decide +kernel
theorem dX1_coinsIn_11 : decode cX1_coinsIn 11 = .ok (.if_icmp .ge 40, 3) := by decide +kernel
theorem dX1_coinsIn_14 : decode cX1_coinsIn 14 = .ok (.aload_n 0, 1) := by decide +kernel
theorem dX1_coinsIn_15 : decode cX1_coinsIn 15 = .ok (.getfield 9, 3) := by decide +kernel
theorem dX1_coinsIn_18 : decode cX1_coinsIn 18 = .ok (.iload 4, 2) := by decide +kernel
theorem dX1_coinsIn_20 : decode cX1_coinsIn 20 = .ok (.iaload, 1) := by decide +kernel
theorem dX1_coinsIn_21 : decode cX1_coinsIn 21 = .ok (.iload_n 1, 1) := by decide +kernel
theorem dX1_coinsIn_22 : decode cX1_coinsIn 22 = .ok (.if_icmp .ne 23, 3) := by decide +kernel
theorem dX1_coinsIn_25 : decode cX1_coinsIn 25 = .ok (.aload_n 0, 1) := by decide +kernel
theorem dX1_coinsIn_26 : decode cX1_coinsIn 26 = .ok (.iload 4, 2) := by decide +kernel
theorem dX1_coinsIn_28 : decode cX1_coinsIn 28 = .ok (.invokevirtual 28, 3) := by decide +kernel
theorem dX1_coinsIn_31 : decode cX1_coinsIn 31 = .ok (.iload_n 2, 1) := by decide +kernel
theorem dX1_coinsIn_32 : decode cX1_coinsIn 32 = .ok (.if_icmp .ne 13, 3) := by decide +kernel
theorem dX1_coinsIn_35 : decode cX1_coinsIn 35 = .ok (.iload_n 3, 1) := by decide +kernel
theorem dX1_coinsIn_36 : decode cX1_coinsIn 36 = .ok (.aload_n 0, 1) := by decide +kernel
theorem dX1_coinsIn_37 : decode cX1_coinsIn 37 = .ok (.getfield 15, 3) := by decide +kernel
theorem dX1_coinsIn_40 : decode cX1_coinsIn 40 = .ok (.iload 4, 2) := by decide +kernel
theorem dX1_coinsIn_42 : decode cX1_coinsIn 42 = .ok (.iaload, 1) := by decide +kernel
theorem dX1_coinsIn_43 : decode cX1_coinsIn 43 = .ok (.iadd, 1) := by decide +kernel
theorem dX1_coinsIn_44 : decode cX1_coinsIn 44 = .ok (.istore_n 3, 1) := by decide +kernel
theorem dX1_coinsIn_45 : decode cX1_coinsIn 45 = .ok (.iinc 4 1, 3) := by decide +kernel
theorem dX1_coinsIn_48 : decode cX1_coinsIn 48 = .ok (.goto (-43), 3) := by decide +kernel
theorem dX1_coinsIn_51 : decode cX1_coinsIn 51 = .ok (.iload_n 3, 1) := by decide +kernel
theorem dX1_coinsIn_52 : decode cX1_coinsIn 52 = .ok (.ireturn, 1) := by decide +kernel
theorem dX1_paysUpTo_0 : decode cX1_paysUpTo 0 = .ok (.iconst 0, 1) := by decide +kernel
theorem dX1_paysUpTo_1 : decode cX1_paysUpTo 1 = .ok (.istore_n 2, 1) := by decide +kernel
theorem dX1_paysUpTo_2 : decode cX1_paysUpTo 2 = .ok (.iconst 0, 1) := by decide +kernel
theorem dX1_paysUpTo_3 : decode cX1_paysUpTo 3 = .ok (.istore_n 3, 1) := by decide +kernel
theorem dX1_paysUpTo_4 : decode cX1_paysUpTo 4 = .ok (.iload_n 3, 1) := by decide +kernel
theorem dX1_paysUpTo_5 : decode cX1_paysUpTo 5 = .ok (.aload_n 0, 1) := by decide +kernel
theorem dX1_paysUpTo_6 : decode cX1_paysUpTo 6 = .ok (.getfield 25, 3) := by decide +kernel
theorem dX1_paysUpTo_9 : decode cX1_paysUpTo 9 = .ok (.if_icmp .ge 36, 3) := by decide +kernel
theorem dX1_paysUpTo_12 : decode cX1_paysUpTo 12 = .ok (.aload_n 0, 1) := by decide +kernel
theorem dX1_paysUpTo_13 : decode cX1_paysUpTo 13 = .ok (.getfield 9, 3) := by decide +kernel
theorem dX1_paysUpTo_16 : decode cX1_paysUpTo 16 = .ok (.iload_n 3, 1) := by decide +kernel
theorem dX1_paysUpTo_17 : decode cX1_paysUpTo 17 = .ok (.iaload, 1) := by decide +kernel
theorem dX1_paysUpTo_18 : decode cX1_paysUpTo 18 = .ok (.iload_n 1, 1) := by decide +kernel
theorem dX1_paysUpTo_19 : decode cX1_paysUpTo 19 = .ok (.if_icmp .gt 20, 3) := by decide +kernel
theorem dX1_paysUpTo_22 : decode cX1_paysUpTo 22 = .ok (.aload_n 0, 1) := by decide +kernel
theorem dX1_paysUpTo_23 : decode cX1_paysUpTo 23 = .ok (.iload_n 3, 1) := by decide +kernel
theorem dX1_paysUpTo_24 : decode cX1_paysUpTo 24 = .ok (.invokevirtual 28, 3) := by decide +kernel
theorem dX1_paysUpTo_27 : decode cX1_paysUpTo 27 = .ok (.ifCond .eq 12, 3) := by decide +kernel
theorem dX1_paysUpTo_30 : decode cX1_paysUpTo 30 = .ok (.iload_n 2, 1) := by decide +kernel
theorem dX1_paysUpTo_31 : decode cX1_paysUpTo 31 = .ok (.aload_n 0, 1) := by decide +kernel
theorem dX1_paysUpTo_32 : decode cX1_paysUpTo 32 = .ok (.getfield 15, 3) := by decide +kernel
theorem dX1_paysUpTo_35 : decode cX1_paysUpTo 35 = .ok (.iload_n 3, 1) := by decide +kernel
theorem dX1_paysUpTo_36 : decode cX1_paysUpTo 36 = .ok (.iaload, 1) := by decide +kernel
theorem dX1_paysUpTo_37 : decode cX1_paysUpTo 37 = .ok (.iadd, 1) := by decide +kernel
theorem dX1_paysUpTo_38 : decode cX1_paysUpTo 38 = .ok (.istore_n 2, 1) := by decide +kernel
theorem dX1_paysUpTo_39 : decode cX1_paysUpTo 39 = .ok (.iinc 3 1, 3) := by decide +kernel
theorem dX1_paysUpTo_42 : decode cX1_paysUpTo 42 = .ok (.goto (-38), 3) := by decide +kernel
theorem dX1_paysUpTo_45 : decode cX1_paysUpTo 45 = .ok (.iload_n 2, 1) := by decide +kernel
theorem dX1_paysUpTo_46 : decode cX1_paysUpTo 46 = .ok (.ireturn, 1) := by decide +kernel
theorem dX1_lineWithCoin_0 : decode cX1_lineWithCoin 0 = .ok (.iconst 0, 1) := by decide +kernel
theorem dX1_lineWithCoin_1 : decode cX1_lineWithCoin 1 = .ok (.istore_n 3, 1) := by decide +kernel
theorem dX1_lineWithCoin_2 : decode cX1_lineWithCoin 2 = .ok (.iconst 0, 1) := by decide +kernel
theorem dX1_lineWithCoin_3 : decode cX1_lineWithCoin 3 = .ok (.istore 4, 2) := by decide +kernel
theorem dX1_lineWithCoin_5 : decode cX1_lineWithCoin 5 = .ok (.iload 4, 2) := by decide +kernel
theorem dX1_lineWithCoin_7 : decode cX1_lineWithCoin 7 = .ok (.iload_n 2, 1) := by decide +kernel
theorem dX1_lineWithCoin_8 : decode cX1_lineWithCoin 8 = .ok (.if_icmp .gt 69, 3) := by decide +kernel
theorem dX1_lineWithCoin_11 : decode cX1_lineWithCoin 11 = .ok (.iconst 0, 1) := by decide +kernel
theorem dX1_lineWithCoin_12 : decode cX1_lineWithCoin 12 = .ok (.istore 5, 2) := by decide +kernel
theorem dX1_lineWithCoin_14 : decode cX1_lineWithCoin 14 = .ok (.iload 5, 2) := by decide +kernel
theorem dX1_lineWithCoin_16 : decode cX1_lineWithCoin 16 = .ok (.aload_n 0, 1) := by decide +kernel
theorem dX1_lineWithCoin_17 : decode cX1_lineWithCoin 17 = .ok (.getfield 25, 3) := by decide +kernel
theorem dX1_lineWithCoin_20 : decode cX1_lineWithCoin 20 = .ok (.if_icmp .ge 51, 3) := by decide +kernel
theorem dX1_lineWithCoin_23 : decode cX1_lineWithCoin 23 = .ok (.aload_n 0, 1) := by decide +kernel
theorem dX1_lineWithCoin_24 : decode cX1_lineWithCoin 24 = .ok (.getfield 9, 3) := by decide +kernel
theorem dX1_lineWithCoin_27 : decode cX1_lineWithCoin 27 = .ok (.iload 5, 2) := by decide +kernel
theorem dX1_lineWithCoin_29 : decode cX1_lineWithCoin 29 = .ok (.iaload, 1) := by decide +kernel
theorem dX1_lineWithCoin_30 : decode cX1_lineWithCoin 30 = .ok (.iload 4, 2) := by decide +kernel
theorem dX1_lineWithCoin_32 : decode cX1_lineWithCoin 32 = .ok (.if_icmp .ne 33, 3) := by decide +kernel
theorem dX1_lineWithCoin_35 : decode cX1_lineWithCoin 35 = .ok (.aload_n 0, 1) := by decide +kernel
theorem dX1_lineWithCoin_36 : decode cX1_lineWithCoin 36 = .ok (.iload 5, 2) := by decide +kernel
theorem dX1_lineWithCoin_38 : decode cX1_lineWithCoin 38 = .ok (.invokevirtual 28, 3) := by decide +kernel
theorem dX1_lineWithCoin_41 : decode cX1_lineWithCoin 41 = .ok (.ifCond .ne 6, 3) := by decide +kernel
theorem dX1_lineWithCoin_44 : decode cX1_lineWithCoin 44 = .ok (.goto 21, 3) := by decide +kernel
theorem dX1_lineWithCoin_47 : decode cX1_lineWithCoin 47 = .ok (.iload_n 3, 1) := by decide +kernel
theorem dX1_lineWithCoin_48 : decode cX1_lineWithCoin 48 = .ok (.aload_n 0, 1) := by decide +kernel
theorem dX1_lineWithCoin_49 : decode cX1_lineWithCoin 49 = .ok (.getfield 15, 3) := by decide +kernel
theorem dX1_lineWithCoin_52 : decode cX1_lineWithCoin 52 = .ok (.iload 5, 2) := by decide +kernel
theorem dX1_lineWithCoin_54 : decode cX1_lineWithCoin 54 = .ok (.iaload, 1) := by decide +kernel
theorem dX1_lineWithCoin_55 : decode cX1_lineWithCoin 55 = .ok (.iadd, 1) := by decide +kernel
theorem dX1_lineWithCoin_56 : decode cX1_lineWithCoin 56 = .ok (.istore_n 3, 1) := by decide +kernel
theorem dX1_lineWithCoin_57 : decode cX1_lineWithCoin 57 = .ok (.iload_n 3, 1) := by decide +kernel
theorem dX1_lineWithCoin_58 : decode cX1_lineWithCoin 58 = .ok (.iload_n 1, 1) := by decide +kernel
theorem dX1_lineWithCoin_59 : decode cX1_lineWithCoin 59 = .ok (.if_icmp .lt 6, 3) := by decide +kernel
theorem dX1_lineWithCoin_62 : decode cX1_lineWithCoin 62 = .ok (.iload 5, 2) := by decide +kernel
theorem dX1_lineWithCoin_64 : decode cX1_lineWithCoin 64 = .ok (.ireturn, 1) := by decide +kernel
theorem dX1_lineWithCoin_65 : decode cX1_lineWithCoin 65 = .ok (.iinc 5 1, 3) := by decide +kernel
theorem dX1_lineWithCoin_68 : decode cX1_lineWithCoin 68 = .ok (.goto (-54), 3) := by decide +kernel
theorem dX1_lineWithCoin_71 : decode cX1_lineWithCoin 71 = .ok (.iinc 4 1, 3) := by decide +kernel
theorem dX1_lineWithCoin_74 : decode cX1_lineWithCoin 74 = .ok (.goto (-69), 3) := by decide +kernel
theorem dX1_lineWithCoin_77 : decode cX1_lineWithCoin 77 = .ok (.ldc 32, 2) := by decide +kernel
theorem dX1_lineWithCoin_79 : decode cX1_lineWithCoin 79 = .ok (.ireturn, 1) := by decide +kernel
theorem dX1_isPay_0 : decode cX1_isPay 0 = .ok (.aload_n 0, 1) := by decide +kernel
theorem dX1_isPay_1 : decode cX1_isPay 1 = .ok (.getfield 21, 3) := by decide +kernel
theorem dX1_isPay_4 : decode cX1_isPay 4 = .ok (.aload_n 0, 1) := by decide +kernel
theorem dX1_isPay_5 : decode cX1_isPay 5 = .ok (.getfield 18, 3) := by decide +kernel
theorem dX1_isPay_8 : decode cX1_isPay 8 = .ok (.iload_n 1, 1) := by decide +kernel
theorem dX1_isPay_9 : decode cX1_isPay 9 = .ok (.iaload, 1) := by decide +kernel
theorem dX1_isPay_10 : decode cX1_isPay 10 = .ok (.ishr, 1) := by decide +kernel
theorem dX1_isPay_11 : decode cX1_isPay 11 = .ok (.iconst 1, 1) := by decide +kernel
theorem dX1_isPay_12 : decode cX1_isPay 12 = .ok (.iand, 1) := by decide +kernel
theorem dX1_isPay_13 : decode cX1_isPay 13 = .ok (.iconst 1, 1) := by decide +kernel
theorem dX1_isPay_14 : decode cX1_isPay 14 = .ok (.if_icmp .ne 7, 3) := by decide +kernel
theorem dX1_isPay_17 : decode cX1_isPay 17 = .ok (.iconst 1, 1) := by decide +kernel
theorem dX1_isPay_18 : decode cX1_isPay 18 = .ok (.goto 4, 3) := by decide +kernel
theorem dX1_isPay_21 : decode cX1_isPay 21 = .ok (.iconst 0, 1) := by decide +kernel
theorem dX1_isPay_22 : decode cX1_isPay 22 = .ok (.ireturn, 1) := by decide +kernel
theorem dX2_init_0 : decode cX2_init 0 = .ok (.aload_n 0, 1) := by decide +kernel
theorem dX2_init_1 : decode cX2_init 1 = .ok (.invokespecial 3, 3) := by decide +kernel
theorem dX2_init_4 : decode cX2_init 4 = .ok (.aload_n 0, 1) := by decide +kernel
theorem dX2_init_5 : decode cX2_init 5 = .ok (.bipush 80, 2) := by decide +kernel
theorem dX2_init_7 : decode cX2_init 7 = .ok (.newarray .int, 2) := by decide +kernel
theorem dX2_init_9 : decode cX2_init 9 = .ok (.putfield 9, 3) := by decide +kernel
theorem dX2_init_12 : decode cX2_init 12 = .ok (.aload_n 0, 1) := by decide +kernel
theorem dX2_init_13 : decode cX2_init 13 = .ok (.bipush 80, 2) := by decide +kernel
theorem dX2_init_15 : decode cX2_init 15 = .ok (.newarray .int, 2) := by decide +kernel
theorem dX2_init_17 : decode cX2_init 17 = .ok (.putfield 15, 3) := by decide +kernel
theorem dX2_init_20 : decode cX2_init 20 = .ok (.aload_n 0, 1) := by decide +kernel
theorem dX2_init_21 : decode cX2_init 21 = .ok (.bipush 80, 2) := by decide +kernel
theorem dX2_init_23 : decode cX2_init 23 = .ok (.newarray .int, 2) := by decide +kernel
theorem dX2_init_25 : decode cX2_init 25 = .ok (.putfield 18, 3) := by decide +kernel
theorem dX2_init_28 : decode cX2_init 28 = .ok (.aload_n 0, 1) := by decide +kernel
theorem dX2_init_29 : decode cX2_init 29 = .ok (.bipush 80, 2) := by decide +kernel
theorem dX2_init_31 : decode cX2_init 31 = .ok (.newarray .int, 2) := by decide +kernel
theorem dX2_init_33 : decode cX2_init 33 = .ok (.putfield 21, 3) := by decide +kernel
theorem dX2_init_36 : decode cX2_init 36 = .ok (.aload_n 0, 1) := by decide +kernel
theorem dX2_init_37 : decode cX2_init 37 = .ok (.bipush 80, 2) := by decide +kernel
theorem dX2_init_39 : decode cX2_init 39 = .ok (.newarray .int, 2) := by decide +kernel
theorem dX2_init_41 : decode cX2_init 41 = .ok (.putfield 24, 3) := by decide +kernel
theorem dX2_init_44 : decode cX2_init 44 = .ok (.return_, 1) := by decide +kernel
theorem dX2_mayHold_0 : decode cX2_mayHold 0 = .ok (.iload_n 0, 1) := by decide +kernel
theorem dX2_mayHold_1 : decode cX2_mayHold 1 = .ok (.tableswitch 78 0 3 #[31, 46, 62, 46], 31) := by decide +kernel
theorem dX2_mayHold_32 : decode cX2_mayHold 32 = .ok (.iload_n 1, 1) := by decide +kernel
theorem dX2_mayHold_33 : decode cX2_mayHold 33 = .ok (.ifCond .lt 12, 3) := by decide +kernel
theorem dX2_mayHold_36 : decode cX2_mayHold 36 = .ok (.iload_n 1, 1) := by decide +kernel
theorem dX2_mayHold_37 : decode cX2_mayHold 37 = .ok (.iconst 5, 1) := by decide +kernel
theorem dX2_mayHold_38 : decode cX2_mayHold 38 = .ok (.if_icmp .gt 7, 3) := by decide +kernel
theorem dX2_mayHold_41 : decode cX2_mayHold 41 = .ok (.iconst 1, 1) := by decide +kernel
theorem dX2_mayHold_42 : decode cX2_mayHold 42 = .ok (.goto 4, 3) := by decide +kernel
theorem dX2_mayHold_45 : decode cX2_mayHold 45 = .ok (.iconst 0, 1) := by decide +kernel
theorem dX2_mayHold_46 : decode cX2_mayHold 46 = .ok (.ireturn, 1) := by decide +kernel
theorem dX2_mayHold_47 : decode cX2_mayHold 47 = .ok (.iload_n 1, 1) := by decide +kernel
theorem dX2_mayHold_48 : decode cX2_mayHold 48 = .ok (.ifCond .lt 13, 3) := by decide +kernel
theorem dX2_mayHold_51 : decode cX2_mayHold 51 = .ok (.iload_n 1, 1) := by decide +kernel
theorem dX2_mayHold_52 : decode cX2_mayHold 52 = .ok (.ldc 27, 2) := by decide +kernel
theorem dX2_mayHold_54 : decode cX2_mayHold 54 = .ok (.if_icmp .gt 7, 3) := by decide +kernel
theorem dX2_mayHold_57 : decode cX2_mayHold 57 = .ok (.iconst 1, 1) := by decide +kernel
theorem dX2_mayHold_58 : decode cX2_mayHold 58 = .ok (.goto 4, 3) := by decide +kernel
theorem dX2_mayHold_61 : decode cX2_mayHold 61 = .ok (.iconst 0, 1) := by decide +kernel
theorem dX2_mayHold_62 : decode cX2_mayHold 62 = .ok (.ireturn, 1) := by decide +kernel
theorem dX2_mayHold_63 : decode cX2_mayHold 63 = .ok (.iload_n 1, 1) := by decide +kernel
theorem dX2_mayHold_64 : decode cX2_mayHold 64 = .ok (.iconst 1, 1) := by decide +kernel
theorem dX2_mayHold_65 : decode cX2_mayHold 65 = .ok (.if_icmp .eq 8, 3) := by decide +kernel
theorem dX2_mayHold_68 : decode cX2_mayHold 68 = .ok (.iload_n 1, 1) := by decide +kernel
theorem dX2_mayHold_69 : decode cX2_mayHold 69 = .ok (.iconst (-1), 1) := by decide +kernel
theorem dX2_mayHold_70 : decode cX2_mayHold 70 = .ok (.if_icmp .ne 7, 3) := by decide +kernel
theorem dX2_mayHold_73 : decode cX2_mayHold 73 = .ok (.iconst 1, 1) := by decide +kernel
theorem dX2_mayHold_74 : decode cX2_mayHold 74 = .ok (.goto 4, 3) := by decide +kernel
theorem dX2_mayHold_77 : decode cX2_mayHold 77 = .ok (.iconst 0, 1) := by decide +kernel
theorem dX2_mayHold_78 : decode cX2_mayHold 78 = .ok (.ireturn, 1) := by decide +kernel
theorem dX2_mayHold_79 : decode cX2_mayHold 79 = .ok (.iconst 0, 1) := by decide +kernel
theorem dX2_mayHold_80 : decode cX2_mayHold 80 = .ok (.ireturn, 1) := by decide +kernel
theorem dX2_add_0 : decode cX2_add 0 = .ok (.aload_n 0, 1) := by decide +kernel
theorem dX2_add_1 : decode cX2_add 1 = .ok (.getfield 9, 3) := by decide +kernel
theorem dX2_add_4 : decode cX2_add 4 = .ok (.aload_n 0, 1) := by decide +kernel
theorem dX2_add_5 : decode cX2_add 5 = .ok (.getfield 28, 3) := by decide +kernel
theorem dX2_add_8 : decode cX2_add 8 = .ok (.iload_n 1, 1) := by decide +kernel
theorem dX2_add_9 : decode cX2_add 9 = .ok (.iastore, 1) := by decide +kernel
theorem dX2_add_10 : decode cX2_add 10 = .ok (.aload_n 0, 1) := by decide +kernel
theorem dX2_add_11 : decode cX2_add 11 = .ok (.getfield 15, 3) := by decide +kernel
theorem dX2_add_14 : decode cX2_add 14 = .ok (.aload_n 0, 1) := by decide +kernel
theorem dX2_add_15 : decode cX2_add 15 = .ok (.getfield 28, 3) := by decide +kernel
theorem dX2_add_18 : decode cX2_add 18 = .ok (.iload_n 2, 1) := by decide +kernel
theorem dX2_add_19 : decode cX2_add 19 = .ok (.iastore, 1) := by decide +kernel
theorem dX2_add_20 : decode cX2_add 20 = .ok (.aload_n 0, 1) := by decide +kernel
theorem dX2_add_21 : decode cX2_add 21 = .ok (.getfield 18, 3) := by decide +kernel
theorem dX2_add_24 : decode cX2_add 24 = .ok (.aload_n 0, 1) := by decide +kernel
theorem dX2_add_25 : decode cX2_add 25 = .ok (.getfield 28, 3) := by decide +kernel
theorem dX2_add_28 : decode cX2_add 28 = .ok (.iload_n 3, 1) := by decide +kernel
theorem dX2_add_29 : decode cX2_add 29 = .ok (.iastore, 1) := by decide +kernel
theorem dX2_add_30 : decode cX2_add 30 = .ok (.aload_n 0, 1) := by decide +kernel
theorem dX2_add_31 : decode cX2_add 31 = .ok (.getfield 21, 3) := by decide +kernel
theorem dX2_add_34 : decode cX2_add 34 = .ok (.aload_n 0, 1) := by decide +kernel
theorem dX2_add_35 : decode cX2_add 35 = .ok (.getfield 28, 3) := by decide +kernel
theorem dX2_add_38 : decode cX2_add 38 = .ok (.iload 4, 2) := by decide +kernel
theorem dX2_add_40 : decode cX2_add 40 = .ok (.iastore, 1) := by decide +kernel
theorem dX2_add_41 : decode cX2_add 41 = .ok (.aload_n 0, 1) := by decide +kernel
theorem dX2_add_42 : decode cX2_add 42 = .ok (.getfield 24, 3) := by decide +kernel
theorem dX2_add_45 : decode cX2_add 45 = .ok (.aload_n 0, 1) := by decide +kernel
theorem dX2_add_46 : decode cX2_add 46 = .ok (.getfield 28, 3) := by decide +kernel
theorem dX2_add_49 : decode cX2_add 49 = .ok (.ldc 32, 2) := by decide +kernel
theorem dX2_add_51 : decode cX2_add 51 = .ok (.iastore, 1) := by decide +kernel
theorem dX2_add_52 : decode cX2_add 52 = .ok (.aload_n 0, 1) := by decide +kernel
theorem dX2_add_53 : decode cX2_add 53 = .ok (.dup, 1) := by decide +kernel
theorem dX2_add_54 : decode cX2_add 54 = .ok (.getfield 28, 3) := by decide +kernel
theorem dX2_add_57 : decode cX2_add 57 = .ok (.iconst 1, 1) := by decide +kernel
theorem dX2_add_58 : decode cX2_add 58 = .ok (.iadd, 1) := by decide +kernel
theorem dX2_add_59 : decode cX2_add 59 = .ok (.putfield 28, 3) := by decide +kernel
theorem dX2_add_62 : decode cX2_add 62 = .ok (.aload_n 0, 1) := by decide +kernel
theorem dX2_add_63 : decode cX2_add 63 = .ok (.getfield 28, 3) := by decide +kernel
theorem dX2_add_66 : decode cX2_add 66 = .ok (.iconst 1, 1) := by decide +kernel
theorem dX2_add_67 : decode cX2_add 67 = .ok (.isub, 1) := by decide +kernel
theorem dX2_add_68 : decode cX2_add 68 = .ok (.ireturn, 1) := by decide +kernel
theorem dX2_has_0 : decode cX2_has 0 = .ok (.iload_n 1, 1) := by decide +kernel
theorem dX2_has_1 : decode cX2_has 1 = .ok (.aload_n 0, 1) := by decide +kernel
theorem dX2_has_2 : decode cX2_has 2 = .ok (.getfield 28, 3) := by decide +kernel
theorem dX2_has_5 : decode cX2_has 5 = .ok (.invokestatic 33, 3) := by decide +kernel
theorem dX2_has_8 : decode cX2_has 8 = .ok (.ireturn, 1) := by decide +kernel
theorem dX2_isOfKind_0 : decode cX2_isOfKind 0 = .ok (.aload_n 0, 1) := by decide +kernel
theorem dX2_isOfKind_1 : decode cX2_isOfKind 1 = .ok (.getfield 9, 3) := by decide +kernel
theorem dX2_isOfKind_4 : decode cX2_isOfKind 4 = .ok (.iload_n 1, 1) := by decide +kernel
theorem dX2_isOfKind_5 : decode cX2_isOfKind 5 = .ok (.iaload, 1) := by decide +kernel
theorem dX2_isOfKind_6 : decode cX2_isOfKind 6 = .ok (.istore_n 3, 1) := by decide +kernel
theorem dX2_isOfKind_7 : decode cX2_isOfKind 7 = .ok (.iload_n 2, 1) := by decide +kernel
theorem dX2_isOfKind_8 : decode cX2_isOfKind 8 = .ok (.ifCond .eq 18, 3) := by decide +kernel
theorem dX2_isOfKind_11 : decode cX2_isOfKind 11 = .ok (.iload_n 3, 1) := by decide +kernel
theorem dX2_isOfKind_12 : decode cX2_isOfKind 12 = .ok (.iload_n 2, 1) := by decide +kernel
theorem dX2_isOfKind_13 : decode cX2_isOfKind 13 = .ok (.if_icmp .eq 13, 3) := by decide +kernel
theorem dX2_isOfKind_16 : decode cX2_isOfKind 16 = .ok (.iload_n 2, 1) := by decide +kernel
theorem dX2_isOfKind_17 : decode cX2_isOfKind 17 = .ok (.iconst 1, 1) := by decide +kernel
theorem dX2_isOfKind_18 : decode cX2_isOfKind 18 = .ok (.if_icmp .ne 12, 3) := by decide +kernel
theorem dX2_isOfKind_21 : decode cX2_isOfKind 21 = .ok (.iload_n 3, 1) := by decide +kernel
theorem dX2_isOfKind_22 : decode cX2_isOfKind 22 = .ok (.iconst 3, 1) := by decide +kernel
theorem dX2_isOfKind_23 : decode cX2_isOfKind 23 = .ok (.if_icmp .ne 7, 3) := by decide +kernel
theorem dX2_isOfKind_26 : decode cX2_isOfKind 26 = .ok (.iconst 1, 1) := by decide +kernel
theorem dX2_isOfKind_27 : decode cX2_isOfKind 27 = .ok (.goto 4, 3) := by decide +kernel
theorem dX2_isOfKind_30 : decode cX2_isOfKind 30 = .ok (.iconst 0, 1) := by decide +kernel
theorem dX2_isOfKind_31 : decode cX2_isOfKind 31 = .ok (.ireturn, 1) := by decide +kernel
theorem dX2_notTakenBack_0 : decode cX2_notTakenBack 0 = .ok (.iconst 0, 1) := by decide +kernel
theorem dX2_notTakenBack_1 : decode cX2_notTakenBack 1 = .ok (.istore_n 1, 1) := by decide +kernel
theorem dX2_notTakenBack_2 : decode cX2_notTakenBack 2 = .ok (.iconst 0, 1) := by decide +kernel
theorem dX2_notTakenBack_3 : decode cX2_notTakenBack 3 = .ok (.istore_n 2, 1) := by decide +kernel
theorem dX2_notTakenBack_4 : decode cX2_notTakenBack 4 = .ok (.iload_n 2, 1) := by decide +kernel
theorem dX2_notTakenBack_5 : decode cX2_notTakenBack 5 = .ok (.aload_n 0, 1) := by decide +kernel
theorem dX2_notTakenBack_6 : decode cX2_notTakenBack 6 = .ok (.getfield 28, 3) := by decide +kernel
theorem dX2_notTakenBack_9 : decode cX2_notTakenBack 9 = .ok (.if_icmp .ge 23, 3) := by decide +kernel
theorem dX2_notTakenBack_12 : decode cX2_notTakenBack 12 = .ok (.aload_n 0, 1) := by decide +kernel
theorem dX2_notTakenBack_13 : decode cX2_notTakenBack 13 = .ok (.getfield 24, 3) := by decide +kernel
theorem dX2_notTakenBack_16 : decode cX2_notTakenBack 16 = .ok (.iload_n 2, 1) := by decide +kernel
theorem dX2_notTakenBack_17 : decode cX2_notTakenBack 17 = .ok (.iaload, 1) := by decide +kernel
theorem dX2_notTakenBack_18 : decode cX2_notTakenBack 18 = .ok (.ldc 32, 2) := by decide +kernel
theorem dX2_notTakenBack_20 : decode cX2_notTakenBack 20 = .ok (.if_icmp .ne 6, 3) := by decide +kernel
theorem dX2_notTakenBack_23 : decode cX2_notTakenBack 23 = .ok (.iinc 1 1, 3) := by decide +kernel
theorem dX2_notTakenBack_26 : decode cX2_notTakenBack 26 = .ok (.iinc 2 1, 3) := by decide +kernel
theorem dX2_notTakenBack_29 : decode cX2_notTakenBack 29 = .ok (.goto (-25), 3) := by decide +kernel
theorem dX2_notTakenBack_32 : decode cX2_notTakenBack 32 = .ok (.iload_n 1, 1) := by decide +kernel
theorem dX2_notTakenBack_33 : decode cX2_notTakenBack 33 = .ok (.ireturn, 1) := by decide +kernel
theorem dX2_incomeAt_0 : decode cX2_incomeAt 0 = .ok (.aload_n 0, 1) := by decide +kernel
theorem dX2_incomeAt_1 : decode cX2_incomeAt 1 = .ok (.iconst 3, 1) := by decide +kernel
theorem dX2_incomeAt_2 : decode cX2_incomeAt 2 = .ok (.iload_n 1, 1) := by decide +kernel
theorem dX2_incomeAt_3 : decode cX2_incomeAt 3 = .ok (.iload_n 2, 1) := by decide +kernel
theorem dX2_incomeAt_4 : decode cX2_incomeAt 4 = .ok (.invokevirtual 37, 3) := by decide +kernel
theorem dX2_incomeAt_7 : decode cX2_incomeAt 7 = .ok (.istore_n 3, 1) := by decide +kernel
theorem dX2_incomeAt_8 : decode cX2_incomeAt 8 = .ok (.iload_n 3, 1) := by decide +kernel
theorem dX2_incomeAt_9 : decode cX2_incomeAt 9 = .ok (.ldc 32, 2) := by decide +kernel
theorem dX2_incomeAt_11 : decode cX2_incomeAt 11 = .ok (.if_icmp .ne 11, 3) := by decide +kernel
theorem dX2_incomeAt_14 : decode cX2_incomeAt 14 = .ok (.aload_n 0, 1) := by decide +kernel
theorem dX2_incomeAt_15 : decode cX2_incomeAt 15 = .ok (.iconst 1, 1) := by decide +kernel
theorem dX2_incomeAt_16 : decode cX2_incomeAt 16 = .ok (.iload_n 1, 1) := by decide +kernel
theorem dX2_incomeAt_17 : decode cX2_incomeAt 17 = .ok (.iload_n 2, 1) := by decide +kernel
theorem dX2_incomeAt_18 : decode cX2_incomeAt 18 = .ok (.invokevirtual 37, 3) := by decide +kernel
theorem dX2_incomeAt_21 : decode cX2_incomeAt 21 = .ok (.istore_n 3, 1) := by decide +kernel
theorem dX2_incomeAt_22 : decode cX2_incomeAt 22 = .ok (.iload_n 3, 1) := by decide +kernel
theorem dX2_incomeAt_23 : decode cX2_incomeAt 23 = .ok (.ldc 32, 2) := by decide +kernel
theorem dX2_incomeAt_25 : decode cX2_incomeAt 25 = .ok (.if_icmp .ne 7, 3) := by decide +kernel
theorem dX2_incomeAt_28 : decode cX2_incomeAt 28 = .ok (.iconst 0, 1) := by decide +kernel
theorem dX2_incomeAt_29 : decode cX2_incomeAt 29 = .ok (.goto 9, 3) := by decide +kernel
theorem dX2_incomeAt_32 : decode cX2_incomeAt 32 = .ok (.aload_n 0, 1) := by decide +kernel
theorem dX2_incomeAt_33 : decode cX2_incomeAt 33 = .ok (.getfield 15, 3) := by decide +kernel
theorem dX2_incomeAt_36 : decode cX2_incomeAt 36 = .ok (.iload_n 3, 1) := by decide +kernel
theorem dX2_incomeAt_37 : decode cX2_incomeAt 37 = .ok (.iaload, 1) := by decide +kernel
theorem dX2_incomeAt_38 : decode cX2_incomeAt 38 = .ok (.ireturn, 1) := by decide +kernel
theorem dX2_childrenAt_0 : decode cX2_childrenAt 0 = .ok (.iconst 0, 1) := by decide +kernel
theorem dX2_childrenAt_1 : decode cX2_childrenAt 1 = .ok (.istore_n 3, 1) := by decide +kernel
theorem dX2_childrenAt_2 : decode cX2_childrenAt 2 = .ok (.iconst 0, 1) := by decide +kernel
theorem dX2_childrenAt_3 : decode cX2_childrenAt 3 = .ok (.istore 4, 2) := by decide +kernel
theorem dX2_childrenAt_5 : decode cX2_childrenAt 5 = .ok (.iload 4, 2) := by decide +kernel
theorem dX2_childrenAt_7 : decode cX2_childrenAt 7 = .ok (.aload_n 0, 1) := by decide +kernel
theorem dX2_childrenAt_8 : decode cX2_childrenAt 8 = .ok (.getfield 28, 3) := by decide +kernel
theorem dX2_childrenAt_11 : decode cX2_childrenAt 11 = .ok (.if_icmp .ge 41, 3) := by decide +kernel
theorem dX2_childrenAt_14 : decode cX2_childrenAt 14 = .ok (.aload_n 0, 1) := by decide +kernel
theorem dX2_childrenAt_15 : decode cX2_childrenAt 15 = .ok (.getfield 9, 3) := by decide +kernel
theorem dX2_childrenAt_18 : decode cX2_childrenAt 18 = .ok (.iload 4, 2) := by decide +kernel
theorem dX2_childrenAt_20 : decode cX2_childrenAt 20 = .ok (.iaload, 1) := by decide +kernel
theorem dX2_childrenAt_21 : decode cX2_childrenAt 21 = .ok (.iconst 2, 1) := by decide +kernel
theorem dX2_childrenAt_22 : decode cX2_childrenAt 22 = .ok (.if_icmp .ne 24, 3) := by decide +kernel
theorem dX2_childrenAt_25 : decode cX2_childrenAt 25 = .ok (.aload_n 0, 1) := by decide +kernel
theorem dX2_childrenAt_26 : decode cX2_childrenAt 26 = .ok (.iload 4, 2) := by decide +kernel
theorem dX2_childrenAt_28 : decode cX2_childrenAt 28 = .ok (.iload_n 1, 1) := by decide +kernel
theorem dX2_childrenAt_29 : decode cX2_childrenAt 29 = .ok (.iload_n 2, 1) := by decide +kernel
theorem dX2_childrenAt_30 : decode cX2_childrenAt 30 = .ok (.invokevirtual 41, 3) := by decide +kernel
theorem dX2_childrenAt_33 : decode cX2_childrenAt 33 = .ok (.ifCond .eq 13, 3) := by decide +kernel
theorem dX2_childrenAt_36 : decode cX2_childrenAt 36 = .ok (.iload_n 3, 1) := by decide +kernel
theorem dX2_childrenAt_37 : decode cX2_childrenAt 37 = .ok (.aload_n 0, 1) := by decide +kernel
theorem dX2_childrenAt_38 : decode cX2_childrenAt 38 = .ok (.getfield 15, 3) := by decide +kernel
theorem dX2_childrenAt_41 : decode cX2_childrenAt 41 = .ok (.iload 4, 2) := by decide +kernel
theorem dX2_childrenAt_43 : decode cX2_childrenAt 43 = .ok (.iaload, 1) := by decide +kernel
theorem dX2_childrenAt_44 : decode cX2_childrenAt 44 = .ok (.iadd, 1) := by decide +kernel
theorem dX2_childrenAt_45 : decode cX2_childrenAt 45 = .ok (.istore_n 3, 1) := by decide +kernel
theorem dX2_childrenAt_46 : decode cX2_childrenAt 46 = .ok (.iinc 4 1, 3) := by decide +kernel
theorem dX2_childrenAt_49 : decode cX2_childrenAt 49 = .ok (.goto (-44), 3) := by decide +kernel
theorem dX2_childrenAt_52 : decode cX2_childrenAt 52 = .ok (.iconst 0, 1) := by decide +kernel
theorem dX2_childrenAt_53 : decode cX2_childrenAt 53 = .ok (.iconst 4, 1) := by decide +kernel
theorem dX2_childrenAt_54 : decode cX2_childrenAt 54 = .ok (.iload_n 3, 1) := by decide +kernel
theorem dX2_childrenAt_55 : decode cX2_childrenAt 55 = .ok (.invokestatic 45, 3) := by decide +kernel
theorem dX2_childrenAt_58 : decode cX2_childrenAt 58 = .ok (.invokestatic 51, 3) := by decide +kernel
theorem dX2_childrenAt_61 : decode cX2_childrenAt 61 = .ok (.ireturn, 1) := by decide +kernel
theorem dX2_othersAt_0 : decode cX2_othersAt 0 = .ok (.aload_n 0, 1) := by decide +kernel
theorem dX2_othersAt_1 : decode cX2_othersAt 1 = .ok (.iconst 0, 1) := by decide +kernel
theorem dX2_othersAt_2 : decode cX2_othersAt 2 = .ok (.iload_n 1, 1) := by decide +kernel
theorem dX2_othersAt_3 : decode cX2_othersAt 3 = .ok (.iload_n 2, 1) := by decide +kernel
theorem dX2_othersAt_4 : decode cX2_othersAt 4 = .ok (.invokevirtual 37, 3) := by decide +kernel
theorem dX2_othersAt_7 : decode cX2_othersAt 7 = .ok (.istore_n 3, 1) := by decide +kernel
theorem dX2_othersAt_8 : decode cX2_othersAt 8 = .ok (.iload_n 3, 1) := by decide +kernel
theorem dX2_othersAt_9 : decode cX2_othersAt 9 = .ok (.ldc 32, 2) := by decide +kernel
theorem dX2_othersAt_11 : decode cX2_othersAt 11 = .ok (.if_icmp .ne 7, 3) := by decide +kernel
theorem dX2_othersAt_14 : decode cX2_othersAt 14 = .ok (.iconst 0, 1) := by decide +kernel
theorem dX2_othersAt_15 : decode cX2_othersAt 15 = .ok (.goto 9, 3) := by decide +kernel
theorem dX2_othersAt_18 : decode cX2_othersAt 18 = .ok (.aload_n 0, 1) := by decide +kernel
theorem dX2_othersAt_19 : decode cX2_othersAt 19 = .ok (.getfield 15, 3) := by decide +kernel
theorem dX2_othersAt_22 : decode cX2_othersAt 22 = .ok (.iload_n 3, 1) := by decide +kernel
theorem dX2_othersAt_23 : decode cX2_othersAt 23 = .ok (.iaload, 1) := by decide +kernel
theorem dX2_othersAt_24 : decode cX2_othersAt 24 = .ok (.ireturn, 1) := by decide +kernel
theorem dX2_latest_0 : decode cX2_latest 0 = .ok (.ldc 32, 2) := by decide +kernel
theorem dX2_latest_2 : decode cX2_latest 2 = .ok (.istore 4, 2) := by decide +kernel
theorem dX2_latest_4 : decode cX2_latest 4 = .ok (.iconst 0, 1) := by decide +kernel
theorem dX2_latest_5 : decode cX2_latest 5 = .ok (.istore 5, 2) := by decide +kernel
theorem dX2_latest_7 : decode cX2_latest 7 = .ok (.iload 5, 2) := by decide +kernel
theorem dX2_latest_9 : decode cX2_latest 9 = .ok (.aload_n 0, 1) := by decide +kernel
theorem dX2_latest_10 : decode cX2_latest 10 = .ok (.getfield 28, 3) := by decide +kernel
theorem dX2_latest_13 : decode cX2_latest 13 = .ok (.if_icmp .ge 62, 3) := by decide +kernel
theorem dX2_latest_16 : decode cX2_latest 16 = .ok (.aload_n 0, 1) := by decide +kernel
theorem dX2_latest_17 : decode cX2_latest 17 = .ok (.getfield 9, 3) := by decide +kernel
theorem dX2_latest_20 : decode cX2_latest 20 = .ok (.iload 5, 2) := by decide +kernel
theorem dX2_latest_22 : decode cX2_latest 22 = .ok (.iaload, 1) := by decide +kernel
theorem dX2_latest_23 : decode cX2_latest 23 = .ok (.iload_n 1, 1) := by decide +kernel
theorem dX2_latest_24 : decode cX2_latest 24 = .ok (.if_icmp .ne 45, 3) := by decide +kernel
theorem dX2_latest_27 : decode cX2_latest 27 = .ok (.aload_n 0, 1) := by decide +kernel
theorem dX2_latest_28 : decode cX2_latest 28 = .ok (.iload 5, 2) := by decide +kernel
theorem dX2_latest_30 : decode cX2_latest 30 = .ok (.iload_n 2, 1) := by decide +kernel
theorem dX2_latest_31 : decode cX2_latest 31 = .ok (.iload_n 3, 1) := by decide +kernel
theorem dX2_latest_32 : decode cX2_latest 32 = .ok (.invokevirtual 41, 3) := by decide +kernel
theorem dX2_latest_35 : decode cX2_latest 35 = .ok (.ifCond .ne 6, 3) := by decide +kernel
theorem dX2_latest_38 : decode cX2_latest 38 = .ok (.goto 31, 3) := by decide +kernel
theorem dX2_latest_41 : decode cX2_latest 41 = .ok (.iload 4, 2) := by decide +kernel
theorem dX2_latest_43 : decode cX2_latest 43 = .ok (.ldc 32, 2) := by decide +kernel
theorem dX2_latest_45 : decode cX2_latest 45 = .ok (.if_icmp .eq 20, 3) := by decide +kernel
theorem dX2_latest_48 : decode cX2_latest 48 = .ok (.aload_n 0, 1) := by decide +kernel
theorem dX2_latest_49 : decode cX2_latest 49 = .ok (.getfield 18, 3) := by decide +kernel
theorem dX2_latest_52 : decode cX2_latest 52 = .ok (.iload 5, 2) := by decide +kernel
theorem dX2_latest_54 : decode cX2_latest 54 = .ok (.iaload, 1) := by decide +kernel
theorem dX2_latest_55 : decode cX2_latest 55 = .ok (.aload_n 0, 1) := by decide +kernel
theorem dX2_latest_56 : decode cX2_latest 56 = .ok (.getfield 18, 3) := by decide +kernel
theorem dX2_latest_59 : decode cX2_latest 59 = .ok (.iload 4, 2) := by decide +kernel
theorem dX2_latest_61 : decode cX2_latest 61 = .ok (.iaload, 1) := by decide +kernel
theorem dX2_latest_62 : decode cX2_latest 62 = .ok (.if_icmp .lt 7, 3) := by decide +kernel
theorem dX2_latest_65 : decode cX2_latest 65 = .ok (.iload 5, 2) := by decide +kernel
theorem dX2_latest_67 : decode cX2_latest 67 = .ok (.istore 4, 2) := by decide +kernel
theorem dX2_latest_69 : decode cX2_latest 69 = .ok (.iinc 5 1, 3) := by decide +kernel
theorem dX2_latest_72 : decode cX2_latest 72 = .ok (.goto (-65), 3) := by decide +kernel
theorem dX2_latest_75 : decode cX2_latest 75 = .ok (.iload 4, 2) := by decide +kernel
theorem dX2_latest_77 : decode cX2_latest 77 = .ok (.ireturn, 1) := by decide +kernel
theorem dX2_counts_0 : decode cX2_counts 0 = .ok (.aload_n 0, 1) := by decide +kernel
theorem dX2_counts_1 : decode cX2_counts 1 = .ok (.getfield 18, 3) := by decide +kernel
theorem dX2_counts_4 : decode cX2_counts 4 = .ok (.iload_n 1, 1) := by decide +kernel
theorem dX2_counts_5 : decode cX2_counts 5 = .ok (.iaload, 1) := by decide +kernel
theorem dX2_counts_6 : decode cX2_counts 6 = .ok (.iload_n 3, 1) := by decide +kernel
theorem dX2_counts_7 : decode cX2_counts 7 = .ok (.if_icmp .gt 38, 3) := by decide +kernel
theorem dX2_counts_10 : decode cX2_counts 10 = .ok (.aload_n 0, 1) := by decide +kernel
theorem dX2_counts_11 : decode cX2_counts 11 = .ok (.getfield 21, 3) := by decide +kernel
theorem dX2_counts_14 : decode cX2_counts 14 = .ok (.iload_n 1, 1) := by decide +kernel
theorem dX2_counts_15 : decode cX2_counts 15 = .ok (.iaload, 1) := by decide +kernel
theorem dX2_counts_16 : decode cX2_counts 16 = .ok (.iload_n 2, 1) := by decide +kernel
theorem dX2_counts_17 : decode cX2_counts 17 = .ok (.if_icmp .gt 28, 3) := by decide +kernel
theorem dX2_counts_20 : decode cX2_counts 20 = .ok (.aload_n 0, 1) := by decide +kernel
theorem dX2_counts_21 : decode cX2_counts 21 = .ok (.getfield 24, 3) := by decide +kernel
theorem dX2_counts_24 : decode cX2_counts 24 = .ok (.iload_n 1, 1) := by decide +kernel
theorem dX2_counts_25 : decode cX2_counts 25 = .ok (.iaload, 1) := by decide +kernel
theorem dX2_counts_26 : decode cX2_counts 26 = .ok (.ldc 32, 2) := by decide +kernel
theorem dX2_counts_28 : decode cX2_counts 28 = .ok (.if_icmp .eq 13, 3) := by decide +kernel
theorem dX2_counts_31 : decode cX2_counts 31 = .ok (.aload_n 0, 1) := by decide +kernel
theorem dX2_counts_32 : decode cX2_counts 32 = .ok (.getfield 24, 3) := by decide +kernel
theorem dX2_counts_35 : decode cX2_counts 35 = .ok (.iload_n 1, 1) := by decide +kernel
theorem dX2_counts_36 : decode cX2_counts 36 = .ok (.iaload, 1) := by decide +kernel
theorem dX2_counts_37 : decode cX2_counts 37 = .ok (.iload_n 2, 1) := by decide +kernel
theorem dX2_counts_38 : decode cX2_counts 38 = .ok (.if_icmp .le 7, 3) := by decide +kernel
theorem dX2_counts_41 : decode cX2_counts 41 = .ok (.iconst 1, 1) := by decide +kernel
theorem dX2_counts_42 : decode cX2_counts 42 = .ok (.goto 4, 3) := by decide +kernel
theorem dX2_counts_45 : decode cX2_counts 45 = .ok (.iconst 0, 1) := by decide +kernel
theorem dX2_counts_46 : decode cX2_counts 46 = .ok (.ireturn, 1) := by decide +kernel
theorem dX3_init_0 : decode cX3_init 0 = .ok (.aload_n 0, 1) := by decide +kernel
theorem dX3_init_1 : decode cX3_init 1 = .ok (.invokespecial 1, 3) := by decide +kernel
theorem dX3_init_4 : decode cX3_init 4 = .ok (.return_, 1) := by decide +kernel
theorem dX3_incomeLess_0 : decode cX3_incomeLess 0 = .ok (.iconst 0, 1) := by decide +kernel
theorem dX3_incomeLess_1 : decode cX3_incomeLess 1 = .ok (.iload_n 1, 1) := by decide +kernel
theorem dX3_incomeLess_2 : decode cX3_incomeLess 2 = .ok (.iload_n 2, 1) := by decide +kernel
theorem dX3_incomeLess_3 : decode cX3_incomeLess 3 = .ok (.iload_n 1, 1) := by decide +kernel
theorem dX3_incomeLess_4 : decode cX3_incomeLess 4 = .ok (.aload_n 0, 1) := by decide +kernel
theorem dX3_incomeLess_5 : decode cX3_incomeLess 5 = .ok (.getfield 7, 3) := by decide +kernel
theorem dX3_incomeLess_8 : decode cX3_incomeLess 8 = .ok (.imul, 1) := by decide +kernel
theorem dX3_incomeLess_9 : decode cX3_incomeLess 9 = .ok (.bipush 100, 2) := by decide +kernel
theorem dX3_incomeLess_11 : decode cX3_incomeLess 11 = .ok (.idiv, 1) := by decide +kernel
theorem dX3_incomeLess_12 : decode cX3_incomeLess 12 = .ok (.imul, 1) := by decide +kernel
theorem dX3_incomeLess_13 : decode cX3_incomeLess 13 = .ok (.isub, 1) := by decide +kernel
theorem dX3_incomeLess_14 : decode cX3_incomeLess 14 = .ok (.invokestatic 13, 3) := by decide +kernel
theorem dX3_incomeLess_17 : decode cX3_incomeLess 17 = .ok (.ireturn, 1) := by decide +kernel
theorem dX3_forChildren_0 : decode cX3_forChildren 0 = .ok (.iload_n 2, 1) := by decide +kernel
theorem dX3_forChildren_1 : decode cX3_forChildren 1 = .ok (.getstatic 19, 3) := by decide +kernel
theorem dX3_forChildren_4 : decode cX3_forChildren 4 = .ok (.arraylength, 1) := by decide +kernel
theorem dX3_forChildren_5 : decode cX3_forChildren 5 = .ok (.invokestatic 25, 3) := by decide +kernel
theorem dX3_forChildren_8 : decode cX3_forChildren 8 = .ok (.ifCond .ne 5, 3) := by decide +kernel
theorem dX3_forChildren_11 : decode cX3_forChildren 11 = .ok (.iconst 0, 1) := by decide +kernel
theorem dX3_forChildren_12 : decode cX3_forChildren 12 = .ok (.ireturn, 1) := by decide +kernel
theorem dX3_forChildren_13 : decode cX3_forChildren 13 = .ok (.iload_n 1, 1) := by decide +kernel
theorem dX3_forChildren_14 : decode cX3_forChildren 14 = .ok (.aload_n 0, 1) := by decide +kernel
theorem dX3_forChildren_15 : decode cX3_forChildren 15 = .ok (.getfield 29, 3) := by decide +kernel
theorem dX3_forChildren_18 : decode cX3_forChildren 18 = .ok (.invokestatic 32, 3) := by decide +kernel
theorem dX3_forChildren_21 : decode cX3_forChildren 21 = .ok (.istore_n 3, 1) := by decide +kernel
theorem dX3_forChildren_22 : decode cX3_forChildren 22 = .ok (.iload_n 3, 1) := by decide +kernel
theorem dX3_forChildren_23 : decode cX3_forChildren 23 = .ok (.aload_n 0, 1) := by decide +kernel
theorem dX3_forChildren_24 : decode cX3_forChildren 24 = .ok (.getfield 35, 3) := by decide +kernel
theorem dX3_forChildren_27 : decode cX3_forChildren 27 = .ok (.imul, 1) := by decide +kernel
theorem dX3_forChildren_28 : decode cX3_forChildren 28 = .ok (.bipush 100, 2) := by decide +kernel
theorem dX3_forChildren_30 : decode cX3_forChildren 30 = .ok (.idiv, 1) := by decide +kernel
theorem dX3_forChildren_31 : decode cX3_forChildren 31 = .ok (.iload_n 1, 1) := by decide +kernel
theorem dX3_forChildren_32 : decode cX3_forChildren 32 = .ok (.iload_n 3, 1) := by decide +kernel
theorem dX3_forChildren_33 : decode cX3_forChildren 33 = .ok (.isub, 1) := by decide +kernel
theorem dX3_forChildren_34 : decode cX3_forChildren 34 = .ok (.aload_n 0, 1) := by decide +kernel
theorem dX3_forChildren_35 : decode cX3_forChildren 35 = .ok (.getfield 38, 3) := by decide +kernel
theorem dX3_forChildren_38 : decode cX3_forChildren 38 = .ok (.imul, 1) := by decide +kernel
theorem dX3_forChildren_39 : decode cX3_forChildren 39 = .ok (.bipush 100, 2) := by decide +kernel
theorem dX3_forChildren_41 : decode cX3_forChildren 41 = .ok (.idiv, 1) := by decide +kernel
theorem dX3_forChildren_42 : decode cX3_forChildren 42 = .ok (.iadd, 1) := by decide +kernel
theorem dX3_forChildren_43 : decode cX3_forChildren 43 = .ok (.istore 4, 2) := by decide +kernel
theorem dX3_forChildren_45 : decode cX3_forChildren 45 = .ok (.iload 4, 2) := by decide +kernel
theorem dX3_forChildren_47 : decode cX3_forChildren 47 = .ok (.getstatic 19, 3) := by decide +kernel
theorem dX3_forChildren_50 : decode cX3_forChildren 50 = .ok (.iload_n 2, 1) := by decide +kernel
theorem dX3_forChildren_51 : decode cX3_forChildren 51 = .ok (.iaload, 1) := by decide +kernel
theorem dX3_forChildren_52 : decode cX3_forChildren 52 = .ok (.imul, 1) := by decide +kernel
theorem dX3_forChildren_53 : decode cX3_forChildren 53 = .ok (.bipush 100, 2) := by decide +kernel
theorem dX3_forChildren_55 : decode cX3_forChildren 55 = .ok (.idiv, 1) := by decide +kernel
theorem dX3_forChildren_56 : decode cX3_forChildren 56 = .ok (.ireturn, 1) := by decide +kernel
theorem dX3_withNights_0 : decode cX3_withNights 0 = .ok (.iconst 0, 1) := by decide +kernel
theorem dX3_withNights_1 : decode cX3_withNights 1 = .ok (.iload_n 1, 1) := by decide +kernel
theorem dX3_withNights_2 : decode cX3_withNights 2 = .ok (.iload_n 2, 1) := by decide +kernel
theorem dX3_withNights_3 : decode cX3_withNights 3 = .ok (.iload_n 1, 1) := by decide +kernel
theorem dX3_withNights_4 : decode cX3_withNights 4 = .ok (.aload_n 0, 1) := by decide +kernel
theorem dX3_withNights_5 : decode cX3_withNights 5 = .ok (.getfield 41, 3) := by decide +kernel
theorem dX3_withNights_8 : decode cX3_withNights 8 = .ok (.imul, 1) := by decide +kernel
theorem dX3_withNights_9 : decode cX3_withNights 9 = .ok (.bipush 100, 2) := by decide +kernel
theorem dX3_withNights_11 : decode cX3_withNights 11 = .ok (.idiv, 1) := by decide +kernel
theorem dX3_withNights_12 : decode cX3_withNights 12 = .ok (.imul, 1) := by decide +kernel
theorem dX3_withNights_13 : decode cX3_withNights 13 = .ok (.isub, 1) := by decide +kernel
theorem dX3_withNights_14 : decode cX3_withNights 14 = .ok (.invokestatic 13, 3) := by decide +kernel
theorem dX3_withNights_17 : decode cX3_withNights 17 = .ok (.istore_n 3, 1) := by decide +kernel
theorem dX3_withNights_18 : decode cX3_withNights 18 = .ok (.aload_n 0, 1) := by decide +kernel
theorem dX3_withNights_19 : decode cX3_withNights 19 = .ok (.getfield 44, 3) := by decide +kernel
theorem dX3_withNights_22 : decode cX3_withNights 22 = .ok (.aload_n 0, 1) := by decide +kernel
theorem dX3_withNights_23 : decode cX3_withNights 23 = .ok (.getfield 47, 3) := by decide +kernel
theorem dX3_withNights_26 : decode cX3_withNights 26 = .ok (.iload_n 3, 1) := by decide +kernel
theorem dX3_withNights_27 : decode cX3_withNights 27 = .ok (.invokestatic 13, 3) := by decide +kernel
theorem dX3_withNights_30 : decode cX3_withNights 30 = .ok (.invokestatic 32, 3) := by decide +kernel
theorem dX3_withNights_33 : decode cX3_withNights 33 = .ok (.ireturn, 1) := by decide +kernel
theorem dX4_init_0 : decode cX4_init 0 = .ok (.aload_n 0, 1) := by decide +kernel
theorem dX4_init_1 : decode cX4_init 1 = .ok (.invokespecial 3, 3) := by decide +kernel
theorem dX4_init_4 : decode cX4_init 4 = .ok (.aload_n 0, 1) := by decide +kernel
theorem dX4_init_5 : decode cX4_init 5 = .ok (.bipush 9, 2) := by decide +kernel
theorem dX4_init_7 : decode cX4_init 7 = .ok (.anewarray 9, 3) := by decide +kernel
theorem dX4_init_10 : decode cX4_init 10 = .ok (.putfield 11, 3) := by decide +kernel
theorem dX4_init_13 : decode cX4_init 13 = .ok (.iconst 0, 1) := by decide +kernel
theorem dX4_init_14 : decode cX4_init 14 = .ok (.istore_n 1, 1) := by decide +kernel
theorem dX4_init_15 : decode cX4_init 15 = .ok (.iload_n 1, 1) := by decide +kernel
theorem dX4_init_16 : decode cX4_init 16 = .ok (.aload_n 0, 1) := by decide +kernel
theorem dX4_init_17 : decode cX4_init 17 = .ok (.getfield 11, 3) := by decide +kernel
theorem dX4_init_20 : decode cX4_init 20 = .ok (.arraylength, 1) := by decide +kernel
theorem dX4_init_21 : decode cX4_init 21 = .ok (.if_icmp .ge 22, 3) := by decide +kernel
theorem dX4_init_24 : decode cX4_init 24 = .ok (.aload_n 0, 1) := by decide +kernel
theorem dX4_init_25 : decode cX4_init 25 = .ok (.getfield 11, 3) := by decide +kernel
theorem dX4_init_28 : decode cX4_init 28 = .ok (.iload_n 1, 1) := by decide +kernel
theorem dX4_init_29 : decode cX4_init 29 = .ok (.new 9, 3) := by decide +kernel
theorem dX4_init_32 : decode cX4_init 32 = .ok (.dup, 1) := by decide +kernel
theorem dX4_init_33 : decode cX4_init 33 = .ok (.invokespecial 17, 3) := by decide +kernel
theorem dX4_init_36 : decode cX4_init 36 = .ok (.aastore, 1) := by decide +kernel
theorem dX4_init_37 : decode cX4_init 37 = .ok (.iinc 1 1, 3) := by decide +kernel
theorem dX4_init_40 : decode cX4_init 40 = .ok (.goto (-25), 3) := by decide +kernel
theorem dX4_init_43 : decode cX4_init 43 = .ok (.return_, 1) := by decide +kernel
theorem dX4_numberAt_0 : decode cX4_numberAt 0 = .ok (.ldc 18, 2) := by decide +kernel
theorem dX4_numberAt_2 : decode cX4_numberAt 2 = .ok (.istore_n 2, 1) := by decide +kernel
theorem dX4_numberAt_3 : decode cX4_numberAt 3 = .ok (.iconst 0, 1) := by decide +kernel
theorem dX4_numberAt_4 : decode cX4_numberAt 4 = .ok (.istore_n 3, 1) := by decide +kernel
theorem dX4_numberAt_5 : decode cX4_numberAt 5 = .ok (.iload_n 3, 1) := by decide +kernel
theorem dX4_numberAt_6 : decode cX4_numberAt 6 = .ok (.aload_n 0, 1) := by decide +kernel
theorem dX4_numberAt_7 : decode cX4_numberAt 7 = .ok (.getfield 19, 3) := by decide +kernel
theorem dX4_numberAt_10 : decode cX4_numberAt 10 = .ok (.if_icmp .ge 54, 3) := by decide +kernel
theorem dX4_numberAt_13 : decode cX4_numberAt 13 = .ok (.aload_n 0, 1) := by decide +kernel
theorem dX4_numberAt_14 : decode cX4_numberAt 14 = .ok (.getfield 11, 3) := by decide +kernel
theorem dX4_numberAt_17 : decode cX4_numberAt 17 = .ok (.iload_n 3, 1) := by decide +kernel
theorem dX4_numberAt_18 : decode cX4_numberAt 18 = .ok (.aaload, 1) := by decide +kernel
theorem dX4_numberAt_19 : decode cX4_numberAt 19 = .ok (.getfield 23, 3) := by decide +kernel
theorem dX4_numberAt_22 : decode cX4_numberAt 22 = .ok (.iload_n 1, 1) := by decide +kernel
theorem dX4_numberAt_23 : decode cX4_numberAt 23 = .ok (.if_icmp .le 6, 3) := by decide +kernel
theorem dX4_numberAt_26 : decode cX4_numberAt 26 = .ok (.goto 32, 3) := by decide +kernel
theorem dX4_numberAt_29 : decode cX4_numberAt 29 = .ok (.iload_n 2, 1) := by decide +kernel
theorem dX4_numberAt_30 : decode cX4_numberAt 30 = .ok (.ldc 18, 2) := by decide +kernel
theorem dX4_numberAt_32 : decode cX4_numberAt 32 = .ok (.if_icmp .eq 24, 3) := by decide +kernel
theorem dX4_numberAt_35 : decode cX4_numberAt 35 = .ok (.aload_n 0, 1) := by decide +kernel
theorem dX4_numberAt_36 : decode cX4_numberAt 36 = .ok (.getfield 11, 3) := by decide +kernel
theorem dX4_numberAt_39 : decode cX4_numberAt 39 = .ok (.iload_n 3, 1) := by decide +kernel
theorem dX4_numberAt_40 : decode cX4_numberAt 40 = .ok (.aaload, 1) := by decide +kernel
theorem dX4_numberAt_41 : decode cX4_numberAt 41 = .ok (.getfield 23, 3) := by decide +kernel
theorem dX4_numberAt_44 : decode cX4_numberAt 44 = .ok (.aload_n 0, 1) := by decide +kernel
theorem dX4_numberAt_45 : decode cX4_numberAt 45 = .ok (.getfield 11, 3) := by decide +kernel
theorem dX4_numberAt_48 : decode cX4_numberAt 48 = .ok (.iload_n 2, 1) := by decide +kernel
theorem dX4_numberAt_49 : decode cX4_numberAt 49 = .ok (.aaload, 1) := by decide +kernel
theorem dX4_numberAt_50 : decode cX4_numberAt 50 = .ok (.getfield 23, 3) := by decide +kernel
theorem dX4_numberAt_53 : decode cX4_numberAt 53 = .ok (.if_icmp .lt 5, 3) := by decide +kernel
theorem dX4_numberAt_56 : decode cX4_numberAt 56 = .ok (.iload_n 3, 1) := by decide +kernel
theorem dX4_numberAt_57 : decode cX4_numberAt 57 = .ok (.istore_n 2, 1) := by decide +kernel
theorem dX4_numberAt_58 : decode cX4_numberAt 58 = .ok (.iinc 3 1, 3) := by decide +kernel
theorem dX4_numberAt_61 : decode cX4_numberAt 61 = .ok (.goto (-56), 3) := by decide +kernel
theorem dX4_numberAt_64 : decode cX4_numberAt 64 = .ok (.iload_n 2, 1) := by decide +kernel
theorem dX4_numberAt_65 : decode cX4_numberAt 65 = .ok (.ireturn, 1) := by decide +kernel
theorem dX5_init_0 : decode cX5_init 0 = .ok (.aload_n 0, 1) := by decide +kernel
theorem dX5_init_1 : decode cX5_init 1 = .ok (.invokespecial 3, 3) := by decide +kernel
theorem dX5_init_4 : decode cX5_init 4 = .ok (.aload_n 0, 1) := by decide +kernel
theorem dX5_init_5 : decode cX5_init 5 = .ok (.iconst 2, 1) := by decide +kernel
theorem dX5_init_6 : decode cX5_init 6 = .ok (.anewarray 9, 3) := by decide +kernel
theorem dX5_init_9 : decode cX5_init 9 = .ok (.dup, 1) := by decide +kernel
theorem dX5_init_10 : decode cX5_init 10 = .ok (.iconst 0, 1) := by decide +kernel
theorem dX5_init_11 : decode cX5_init 11 = .ok (.new 9, 3) := by decide +kernel
theorem dX5_init_14 : decode cX5_init 14 = .ok (.dup, 1) := by decide +kernel
theorem dX5_init_15 : decode cX5_init 15 = .ok (.invokespecial 11, 3) := by decide +kernel
theorem dX5_init_18 : decode cX5_init 18 = .ok (.aastore, 1) := by decide +kernel
theorem dX5_init_19 : decode cX5_init 19 = .ok (.dup, 1) := by decide +kernel
theorem dX5_init_20 : decode cX5_init 20 = .ok (.iconst 1, 1) := by decide +kernel
theorem dX5_init_21 : decode cX5_init 21 = .ok (.new 9, 3) := by decide +kernel
theorem dX5_init_24 : decode cX5_init 24 = .ok (.dup, 1) := by decide +kernel
theorem dX5_init_25 : decode cX5_init 25 = .ok (.invokespecial 11, 3) := by decide +kernel
theorem dX5_init_28 : decode cX5_init 28 = .ok (.aastore, 1) := by decide +kernel
theorem dX5_init_29 : decode cX5_init 29 = .ok (.putfield 12, 3) := by decide +kernel
theorem dX5_init_32 : decode cX5_init 32 = .ok (.aload_n 0, 1) := by decide +kernel
theorem dX5_init_33 : decode cX5_init 33 = .ok (.bipush 120, 2) := by decide +kernel
theorem dX5_init_35 : decode cX5_init 35 = .ok (.newarray .int, 2) := by decide +kernel
theorem dX5_init_37 : decode cX5_init 37 = .ok (.putfield 18, 3) := by decide +kernel
theorem dX5_init_40 : decode cX5_init 40 = .ok (.aload_n 0, 1) := by decide +kernel
theorem dX5_init_41 : decode cX5_init 41 = .ok (.getfield 18, 3) := by decide +kernel
theorem dX5_init_44 : decode cX5_init 44 = .ok (.ldc 22, 2) := by decide +kernel
theorem dX5_init_46 : decode cX5_init 46 = .ok (.invokestatic 23, 3) := by decide +kernel
theorem dX5_init_49 : decode cX5_init 49 = .ok (.return_, 1) := by decide +kernel
theorem dX5_lesser_0 : decode cX5_lesser 0 = .ok (.aload_n 0, 1) := by decide +kernel
theorem dX5_lesser_1 : decode cX5_lesser 1 = .ok (.iload_n 1, 1) := by decide +kernel
theorem dX5_lesser_2 : decode cX5_lesser 2 = .ok (.iconst 0, 1) := by decide +kernel
theorem dX5_lesser_3 : decode cX5_lesser 3 = .ok (.invokevirtual 29, 3) := by decide +kernel
theorem dX5_lesser_6 : decode cX5_lesser 6 = .ok (.ireturn, 1) := by decide +kernel
theorem dX5_greater_0 : decode cX5_greater 0 = .ok (.aload_n 0, 1) := by decide +kernel
theorem dX5_greater_1 : decode cX5_greater 1 = .ok (.iload_n 1, 1) := by decide +kernel
theorem dX5_greater_2 : decode cX5_greater 2 = .ok (.iconst 1, 1) := by decide +kernel
theorem dX5_greater_3 : decode cX5_greater 3 = .ok (.invokevirtual 29, 3) := by decide +kernel
theorem dX5_greater_6 : decode cX5_greater 6 = .ok (.ireturn, 1) := by decide +kernel
theorem dX5_areUnlike_0 : decode cX5_areUnlike 0 = .ok (.aload_n 0, 1) := by decide +kernel
theorem dX5_areUnlike_1 : decode cX5_areUnlike 1 = .ok (.iload_n 1, 1) := by decide +kernel
theorem dX5_areUnlike_2 : decode cX5_areUnlike 2 = .ok (.invokevirtual 33, 3) := by decide +kernel
theorem dX5_areUnlike_5 : decode cX5_areUnlike 5 = .ok (.aload_n 0, 1) := by decide +kernel
theorem dX5_areUnlike_6 : decode cX5_areUnlike 6 = .ok (.iload_n 1, 1) := by decide +kernel
theorem dX5_areUnlike_7 : decode cX5_areUnlike 7 = .ok (.invokevirtual 37, 3) := by decide +kernel
theorem dX5_areUnlike_10 : decode cX5_areUnlike 10 = .ok (.if_icmp .eq 7, 3) := by decide +kernel
theorem dX5_areUnlike_13 : decode cX5_areUnlike 13 = .ok (.iconst 1, 1) := by decide +kernel
theorem dX5_areUnlike_14 : decode cX5_areUnlike 14 = .ok (.goto 4, 3) := by decide +kernel
theorem dX5_areUnlike_17 : decode cX5_areUnlike 17 = .ok (.iconst 0, 1) := by decide +kernel
theorem dX5_areUnlike_18 : decode cX5_areUnlike 18 = .ok (.ireturn, 1) := by decide +kernel
theorem dX5_unlikeWeeks_0 : decode cX5_unlikeWeeks 0 = .ok (.iconst 0, 1) := by decide +kernel
theorem dX5_unlikeWeeks_1 : decode cX5_unlikeWeeks 1 = .ok (.istore_n 2, 1) := by decide +kernel
theorem dX5_unlikeWeeks_2 : decode cX5_unlikeWeeks 2 = .ok (.iconst 0, 1) := by decide +kernel
theorem dX5_unlikeWeeks_3 : decode cX5_unlikeWeeks 3 = .ok (.istore_n 3, 1) := by decide +kernel
theorem dX5_unlikeWeeks_4 : decode cX5_unlikeWeeks 4 = .ok (.iload_n 3, 1) := by decide +kernel
theorem dX5_unlikeWeeks_5 : decode cX5_unlikeWeeks 5 = .ok (.iload_n 1, 1) := by decide +kernel
theorem dX5_unlikeWeeks_6 : decode cX5_unlikeWeeks 6 = .ok (.if_icmp .gt 20, 3) := by decide +kernel
theorem dX5_unlikeWeeks_9 : decode cX5_unlikeWeeks 9 = .ok (.aload_n 0, 1) := by decide +kernel
theorem dX5_unlikeWeeks_10 : decode cX5_unlikeWeeks 10 = .ok (.iload_n 3, 1) := by decide +kernel
theorem dX5_unlikeWeeks_11 : decode cX5_unlikeWeeks 11 = .ok (.invokevirtual 40, 3) := by decide +kernel
theorem dX5_unlikeWeeks_14 : decode cX5_unlikeWeeks 14 = .ok (.ifCond .eq 6, 3) := by decide +kernel
theorem dX5_unlikeWeeks_17 : decode cX5_unlikeWeeks 17 = .ok (.iinc 2 1, 3) := by decide +kernel
theorem dX5_unlikeWeeks_20 : decode cX5_unlikeWeeks 20 = .ok (.iinc 3 1, 3) := by decide +kernel
theorem dX5_unlikeWeeks_23 : decode cX5_unlikeWeeks 23 = .ok (.goto (-19), 3) := by decide +kernel
theorem dX5_unlikeWeeks_26 : decode cX5_unlikeWeeks 26 = .ok (.iload_n 2, 1) := by decide +kernel
theorem dX5_unlikeWeeks_27 : decode cX5_unlikeWeeks 27 = .ok (.ireturn, 1) := by decide +kernel
theorem dX5_atEnd_0 : decode cX5_atEnd 0 = .ok (.aload_n 0, 1) := by decide +kernel
theorem dX5_atEnd_1 : decode cX5_atEnd 1 = .ok (.getfield 18, 3) := by decide +kernel
theorem dX5_atEnd_4 : decode cX5_atEnd 4 = .ok (.iload_n 1, 1) := by decide +kernel
theorem dX5_atEnd_5 : decode cX5_atEnd 5 = .ok (.iaload, 1) := by decide +kernel
theorem dX5_atEnd_6 : decode cX5_atEnd 6 = .ok (.ldc 22, 2) := by decide +kernel
theorem dX5_atEnd_8 : decode cX5_atEnd 8 = .ok (.if_icmp .eq 10, 3) := by decide +kernel
theorem dX5_atEnd_11 : decode cX5_atEnd 11 = .ok (.aload_n 0, 1) := by decide +kernel
theorem dX5_atEnd_12 : decode cX5_atEnd 12 = .ok (.getfield 18, 3) := by decide +kernel
theorem dX5_atEnd_15 : decode cX5_atEnd 15 = .ok (.iload_n 1, 1) := by decide +kernel
theorem dX5_atEnd_16 : decode cX5_atEnd 16 = .ok (.iaload, 1) := by decide +kernel
theorem dX5_atEnd_17 : decode cX5_atEnd 17 = .ok (.ireturn, 1) := by decide +kernel
theorem dX5_atEnd_18 : decode cX5_atEnd 18 = .ok (.aload_n 0, 1) := by decide +kernel
theorem dX5_atEnd_19 : decode cX5_atEnd 19 = .ok (.getfield 12, 3) := by decide +kernel
theorem dX5_atEnd_22 : decode cX5_atEnd 22 = .ok (.iconst 0, 1) := by decide +kernel
theorem dX5_atEnd_23 : decode cX5_atEnd 23 = .ok (.aaload, 1) := by decide +kernel
theorem dX5_atEnd_24 : decode cX5_atEnd 24 = .ok (.iload_n 1, 1) := by decide +kernel
theorem dX5_atEnd_25 : decode cX5_atEnd 25 = .ok (.invokevirtual 44, 3) := by decide +kernel
theorem dX5_atEnd_28 : decode cX5_atEnd 28 = .ok (.istore_n 3, 1) := by decide +kernel
theorem dX5_atEnd_29 : decode cX5_atEnd 29 = .ok (.aload_n 0, 1) := by decide +kernel
theorem dX5_atEnd_30 : decode cX5_atEnd 30 = .ok (.getfield 12, 3) := by decide +kernel
theorem dX5_atEnd_33 : decode cX5_atEnd 33 = .ok (.iconst 1, 1) := by decide +kernel
theorem dX5_atEnd_34 : decode cX5_atEnd 34 = .ok (.aaload, 1) := by decide +kernel
theorem dX5_atEnd_35 : decode cX5_atEnd 35 = .ok (.iload_n 1, 1) := by decide +kernel
theorem dX5_atEnd_36 : decode cX5_atEnd 36 = .ok (.invokevirtual 44, 3) := by decide +kernel
theorem dX5_atEnd_39 : decode cX5_atEnd 39 = .ok (.istore 4, 2) := by decide +kernel
theorem dX5_atEnd_41 : decode cX5_atEnd 41 = .ok (.iload_n 3, 1) := by decide +kernel
theorem dX5_atEnd_42 : decode cX5_atEnd 42 = .ok (.ldc 22, 2) := by decide +kernel
theorem dX5_atEnd_44 : decode cX5_atEnd 44 = .ok (.if_icmp .ne 12, 3) := by decide +kernel
theorem dX5_atEnd_47 : decode cX5_atEnd 47 = .ok (.iload 4, 2) := by decide +kernel
theorem dX5_atEnd_49 : decode cX5_atEnd 49 = .ok (.ldc 22, 2) := by decide +kernel
theorem dX5_atEnd_51 : decode cX5_atEnd 51 = .ok (.if_icmp .ne 5, 3) := by decide +kernel
theorem dX5_atEnd_54 : decode cX5_atEnd 54 = .ok (.iconst 0, 1) := by decide +kernel
theorem dX5_atEnd_55 : decode cX5_atEnd 55 = .ok (.ireturn, 1) := by decide +kernel
theorem dX5_atEnd_56 : decode cX5_atEnd 56 = .ok (.iload_n 3, 1) := by decide +kernel
theorem dX5_atEnd_57 : decode cX5_atEnd 57 = .ok (.ldc 22, 2) := by decide +kernel
theorem dX5_atEnd_59 : decode cX5_atEnd 59 = .ok (.if_icmp .ne 6, 3) := by decide +kernel
theorem dX5_atEnd_62 : decode cX5_atEnd 62 = .ok (.iload 4, 2) := by decide +kernel
theorem dX5_atEnd_64 : decode cX5_atEnd 64 = .ok (.ireturn, 1) := by decide +kernel
theorem dX5_atEnd_65 : decode cX5_atEnd 65 = .ok (.iload 4, 2) := by decide +kernel
theorem dX5_atEnd_67 : decode cX5_atEnd 67 = .ok (.ldc 22, 2) := by decide +kernel
theorem dX5_atEnd_69 : decode cX5_atEnd 69 = .ok (.if_icmp .ne 5, 3) := by decide +kernel
theorem dX5_atEnd_72 : decode cX5_atEnd 72 = .ok (.iload_n 3, 1) := by decide +kernel
theorem dX5_atEnd_73 : decode cX5_atEnd 73 = .ok (.ireturn, 1) := by decide +kernel
theorem dX5_atEnd_74 : decode cX5_atEnd 74 = .ok (.iload_n 2, 1) := by decide +kernel
theorem dX5_atEnd_75 : decode cX5_atEnd 75 = .ok (.ifCond .eq 12, 3) := by decide +kernel
theorem dX5_atEnd_78 : decode cX5_atEnd 78 = .ok (.iload_n 3, 1) := by decide +kernel
theorem dX5_atEnd_79 : decode cX5_atEnd 79 = .ok (.iload 4, 2) := by decide +kernel
theorem dX5_atEnd_81 : decode cX5_atEnd 81 = .ok (.invokestatic 47, 3) := by decide +kernel
theorem dX5_atEnd_84 : decode cX5_atEnd 84 = .ok (.goto 9, 3) := by decide +kernel
theorem dX5_atEnd_87 : decode cX5_atEnd 87 = .ok (.iload_n 3, 1) := by decide +kernel
theorem dX5_atEnd_88 : decode cX5_atEnd 88 = .ok (.iload 4, 2) := by decide +kernel
theorem dX5_atEnd_90 : decode cX5_atEnd 90 = .ok (.invokestatic 53, 3) := by decide +kernel
theorem dX5_atEnd_93 : decode cX5_atEnd 93 = .ok (.ireturn, 1) := by decide +kernel
theorem dX6_init_0 : decode cX6_init 0 = .ok (.aload_n 0, 1) := by decide +kernel
theorem dX6_init_1 : decode cX6_init 1 = .ok (.invokespecial 3, 3) := by decide +kernel
theorem dX6_init_4 : decode cX6_init 4 = .ok (.aload_n 0, 1) := by decide +kernel
theorem dX6_init_5 : decode cX6_init 5 = .ok (.aload_n 1, 1) := by decide +kernel
theorem dX6_init_6 : decode cX6_init 6 = .ok (.putfield 9, 3) := by decide +kernel
theorem dX6_init_9 : decode cX6_init 9 = .ok (.return_, 1) := by decide +kernel
theorem dX6_readInto_0 : decode cX6_readInto 0 = .ok (.aload_n 0, 1) := by decide +kernel
theorem dX6_readInto_1 : decode cX6_readInto 1 = .ok (.ldc 15, 2) := by decide +kernel
theorem dX6_readInto_3 : decode cX6_readInto 3 = .ok (.putfield 16, 3) := by decide +kernel
theorem dX6_readInto_6 : decode cX6_readInto 6 = .ok (.aload_n 0, 1) := by decide +kernel
theorem dX6_readInto_7 : decode cX6_readInto 7 = .ok (.iconst 0, 1) := by decide +kernel
theorem dX6_readInto_8 : decode cX6_readInto 8 = .ok (.putfield 20, 3) := by decide +kernel
theorem dX6_readInto_11 : decode cX6_readInto 11 = .ok (.aload_n 0, 1) := by decide +kernel
theorem dX6_readInto_12 : decode cX6_readInto 12 = .ok (.invokevirtual 23, 3) := by decide +kernel
theorem dX6_readInto_15 : decode cX6_readInto 15 = .ok (.aload_n 0, 1) := by decide +kernel
theorem dX6_readInto_16 : decode cX6_readInto 16 = .ok (.ldc 26, 2) := by decide +kernel
theorem dX6_readInto_18 : decode cX6_readInto 18 = .ok (.invokevirtual 28, 3) := by decide +kernel
theorem dX6_readInto_21 : decode cX6_readInto 21 = .ok (.aload_n 1, 1) := by decide +kernel
theorem dX6_readInto_22 : decode cX6_readInto 22 = .ok (.aload_n 0, 1) := by decide +kernel
theorem dX6_readInto_23 : decode cX6_readInto 23 = .ok (.iconst 0, 1) := by decide +kernel
theorem dX6_readInto_24 : decode cX6_readInto 24 = .ok (.bipush 60, 2) := by decide +kernel
theorem dX6_readInto_26 : decode cX6_readInto 26 = .ok (.invokevirtual 32, 3) := by decide +kernel
theorem dX6_readInto_29 : decode cX6_readInto 29 = .ok (.putfield 36, 3) := by decide +kernel
theorem dX6_readInto_32 : decode cX6_readInto 32 = .ok (.aload_n 1, 1) := by decide +kernel
theorem dX6_readInto_33 : decode cX6_readInto 33 = .ok (.ldc 41, 2) := by decide +kernel
theorem dX6_readInto_35 : decode cX6_readInto 35 = .ok (.putfield 42, 3) := by decide +kernel
theorem dX6_readInto_38 : decode cX6_readInto 38 = .ok (.aload_n 1, 1) := by decide +kernel
theorem dX6_readInto_39 : decode cX6_readInto 39 = .ok (.iconst 0, 1) := by decide +kernel
theorem dX6_readInto_40 : decode cX6_readInto 40 = .ok (.putfield 45, 3) := by decide +kernel
theorem dX6_readInto_43 : decode cX6_readInto 43 = .ok (.aload_n 0, 1) := by decide +kernel
theorem dX6_readInto_44 : decode cX6_readInto 44 = .ok (.ldc 48, 2) := by decide +kernel
theorem dX6_readInto_46 : decode cX6_readInto 46 = .ok (.invokevirtual 50, 3) := by decide +kernel
theorem dX6_readInto_49 : decode cX6_readInto 49 = .ok (.ifCond .eq 31, 3) := by decide +kernel
theorem dX6_readInto_52 : decode cX6_readInto 52 = .ok (.aload_n 1, 1) := by decide +kernel
theorem dX6_readInto_53 : decode cX6_readInto 53 = .ok (.aload_n 0, 1) := by decide +kernel
theorem dX6_readInto_54 : decode cX6_readInto 54 = .ok (.iconst 1, 1) := by decide +kernel
theorem dX6_readInto_55 : decode cX6_readInto 55 = .ok (.ldc 54, 2) := by decide +kernel
theorem dX6_readInto_57 : decode cX6_readInto 57 = .ok (.invokevirtual 32, 3) := by decide +kernel
theorem dX6_readInto_60 : decode cX6_readInto 60 = .ok (.putfield 42, 3) := by decide +kernel
theorem dX6_readInto_63 : decode cX6_readInto 63 = .ok (.aload_n 0, 1) := by decide +kernel
theorem dX6_readInto_64 : decode cX6_readInto 64 = .ok (.ldc 26, 2) := by decide +kernel
theorem dX6_readInto_66 : decode cX6_readInto 66 = .ok (.invokevirtual 28, 3) := by decide +kernel
theorem dX6_readInto_69 : decode cX6_readInto 69 = .ok (.aload_n 1, 1) := by decide +kernel
theorem dX6_readInto_70 : decode cX6_readInto 70 = .ok (.aload_n 0, 1) := by decide +kernel
theorem dX6_readInto_71 : decode cX6_readInto 71 = .ok (.iconst 0, 1) := by decide +kernel
theorem dX6_readInto_72 : decode cX6_readInto 72 = .ok (.bipush 60, 2) := by decide +kernel
theorem dX6_readInto_74 : decode cX6_readInto 74 = .ok (.invokevirtual 32, 3) := by decide +kernel
theorem dX6_readInto_77 : decode cX6_readInto 77 = .ok (.putfield 45, 3) := by decide +kernel
theorem dX6_readInto_80 : decode cX6_readInto 80 = .ok (.aload_n 1, 1) := by decide +kernel
theorem dX6_readInto_81 : decode cX6_readInto 81 = .ok (.aload_n 0, 1) := by decide +kernel
theorem dX6_readInto_82 : decode cX6_readInto 82 = .ok (.ldc 55, 2) := by decide +kernel
theorem dX6_readInto_84 : decode cX6_readInto 84 = .ok (.iconst 0, 1) := by decide +kernel
theorem dX6_readInto_85 : decode cX6_readInto 85 = .ok (.bipush 14, 2) := by decide +kernel
theorem dX6_readInto_87 : decode cX6_readInto 87 = .ok (.iconst 0, 1) := by decide +kernel
theorem dX6_readInto_88 : decode cX6_readInto 88 = .ok (.invokevirtual 57, 3) := by decide +kernel
theorem dX6_readInto_91 : decode cX6_readInto 91 = .ok (.putfield 61, 3) := by decide +kernel
theorem dX6_readInto_94 : decode cX6_readInto 94 = .ok (.aload_n 1, 1) := by decide +kernel
theorem dX6_readInto_95 : decode cX6_readInto 95 = .ok (.aload_n 0, 1) := by decide +kernel
theorem dX6_readInto_96 : decode cX6_readInto 96 = .ok (.ldc 64, 2) := by decide +kernel
theorem dX6_readInto_98 : decode cX6_readInto 98 = .ok (.iconst 0, 1) := by decide +kernel
theorem dX6_readInto_99 : decode cX6_readInto 99 = .ok (.bipush 20, 2) := by decide +kernel
theorem dX6_readInto_101 : decode cX6_readInto 101 = .ok (.iconst 0, 1) := by decide +kernel
theorem dX6_readInto_102 : decode cX6_readInto 102 = .ok (.invokevirtual 57, 3) := by decide +kernel
theorem dX6_readInto_105 : decode cX6_readInto 105 = .ok (.putfield 66, 3) := by decide +kernel
theorem dX6_readInto_108 : decode cX6_readInto 108 = .ok (.aload_n 1, 1) := by decide +kernel
theorem dX6_readInto_109 : decode cX6_readInto 109 = .ok (.aload_n 0, 1) := by decide +kernel
theorem dX6_readInto_110 : decode cX6_readInto 110 = .ok (.ldc 69, 2) := by decide +kernel
theorem dX6_readInto_112 : decode cX6_readInto 112 = .ok (.iconst 0, 1) := by decide +kernel
theorem dX6_readInto_113 : decode cX6_readInto 113 = .ok (.ldc 54, 2) := by decide +kernel
theorem dX6_readInto_115 : decode cX6_readInto 115 = .ok (.iconst 0, 1) := by decide +kernel
theorem dX6_readInto_116 : decode cX6_readInto 116 = .ok (.invokevirtual 57, 3) := by decide +kernel
theorem dX6_readInto_119 : decode cX6_readInto 119 = .ok (.putfield 71, 3) := by decide +kernel
theorem dX6_readInto_122 : decode cX6_readInto 122 = .ok (.aload_n 1, 1) := by decide +kernel
theorem dX6_readInto_123 : decode cX6_readInto 123 = .ok (.aload_n 0, 1) := by decide +kernel
theorem dX6_readInto_124 : decode cX6_readInto 124 = .ok (.ldc 73, 2) := by decide +kernel
theorem dX6_readInto_126 : decode cX6_readInto 126 = .ok (.iconst 1, 1) := by decide +kernel
theorem dX6_readInto_127 : decode cX6_readInto 127 = .ok (.aload_n 1, 1) := by decide +kernel
theorem dX6_readInto_128 : decode cX6_readInto 128 = .ok (.getfield 71, 3) := by decide +kernel
theorem dX6_readInto_131 : decode cX6_readInto 131 = .ok (.invokestatic 75, 3) := by decide +kernel
theorem dX6_readInto_134 : decode cX6_readInto 134 = .ok (.ldc 54, 2) := by decide +kernel
theorem dX6_readInto_136 : decode cX6_readInto 136 = .ok (.ldc 41, 2) := by decide +kernel
theorem dX6_readInto_138 : decode cX6_readInto 138 = .ok (.invokevirtual 57, 3) := by decide +kernel
theorem dX6_readInto_141 : decode cX6_readInto 141 = .ok (.putfield 80, 3) := by decide +kernel
theorem dX6_readInto_144 : decode cX6_readInto 144 = .ok (.aload_n 0, 1) := by decide +kernel
theorem dX6_readInto_145 : decode cX6_readInto 145 = .ok (.getfield 16, 3) := by decide +kernel
theorem dX6_readInto_148 : decode cX6_readInto 148 = .ok (.ldc 15, 2) := by decide +kernel
theorem dX6_readInto_150 : decode cX6_readInto 150 = .ok (.if_icmp .ne 25, 3) := by decide +kernel
theorem dX6_readInto_153 : decode cX6_readInto 153 = .ok (.aload_n 0, 1) := by decide +kernel
theorem dX6_readInto_154 : decode cX6_readInto 154 = .ok (.getfield 82, 3) := by decide +kernel
theorem dX6_readInto_157 : decode cX6_readInto 157 = .ok (.aload_n 0, 1) := by decide +kernel
theorem dX6_readInto_158 : decode cX6_readInto 158 = .ok (.getfield 9, 3) := by decide +kernel
theorem dX6_readInto_161 : decode cX6_readInto 161 = .ok (.getfield 85, 3) := by decide +kernel
theorem dX6_readInto_164 : decode cX6_readInto 164 = .ok (.if_icmp .ge 11, 3) := by decide +kernel
theorem dX6_readInto_167 : decode cX6_readInto 167 = .ok (.aload_n 0, 1) := by decide +kernel
theorem dX6_readInto_168 : decode cX6_readInto 168 = .ok (.aload_n 0, 1) := by decide +kernel
theorem dX6_readInto_169 : decode cX6_readInto 169 = .ok (.getfield 82, 3) := by decide +kernel
theorem dX6_readInto_172 : decode cX6_readInto 172 = .ok (.putfield 16, 3) := by decide +kernel
theorem dX6_readInto_175 : decode cX6_readInto 175 = .ok (.aload_n 0, 1) := by decide +kernel
theorem dX6_readInto_176 : decode cX6_readInto 176 = .ok (.getfield 16, 3) := by decide +kernel
theorem dX6_readInto_179 : decode cX6_readInto 179 = .ok (.ireturn, 1) := by decide +kernel
theorem dX6_step_0 : decode cX6_step 0 = .ok (.aload_n 0, 1) := by decide +kernel
theorem dX6_step_1 : decode cX6_step 1 = .ok (.aload_n 0, 1) := by decide +kernel
theorem dX6_step_2 : decode cX6_step 2 = .ok (.getfield 20, 3) := by decide +kernel
theorem dX6_step_5 : decode cX6_step 5 = .ok (.putfield 82, 3) := by decide +kernel
theorem dX6_step_8 : decode cX6_step 8 = .ok (.aload_n 0, 1) := by decide +kernel
theorem dX6_step_9 : decode cX6_step 9 = .ok (.getfield 82, 3) := by decide +kernel
theorem dX6_step_12 : decode cX6_step 12 = .ok (.aload_n 0, 1) := by decide +kernel
theorem dX6_step_13 : decode cX6_step 13 = .ok (.getfield 9, 3) := by decide +kernel
theorem dX6_step_16 : decode cX6_step 16 = .ok (.getfield 85, 3) := by decide +kernel
theorem dX6_step_19 : decode cX6_step 19 = .ok (.if_icmp .ge 33, 3) := by decide +kernel
theorem dX6_step_22 : decode cX6_step 22 = .ok (.aload_n 0, 1) := by decide +kernel
theorem dX6_step_23 : decode cX6_step 23 = .ok (.getfield 9, 3) := by decide +kernel
theorem dX6_step_26 : decode cX6_step 26 = .ok (.getfield 90, 3) := by decide +kernel
theorem dX6_step_29 : decode cX6_step 29 = .ok (.aload_n 0, 1) := by decide +kernel
theorem dX6_step_30 : decode cX6_step 30 = .ok (.getfield 82, 3) := by decide +kernel
theorem dX6_step_33 : decode cX6_step 33 = .ok (.baload, 1) := by decide +kernel
theorem dX6_step_34 : decode cX6_step 34 = .ok (.bipush 32, 2) := by decide +kernel
theorem dX6_step_36 : decode cX6_step 36 = .ok (.if_icmp .ne 16, 3) := by decide +kernel
theorem dX6_step_39 : decode cX6_step 39 = .ok (.aload_n 0, 1) := by decide +kernel
theorem dX6_step_40 : decode cX6_step 40 = .ok (.dup, 1) := by decide +kernel
theorem dX6_step_41 : decode cX6_step 41 = .ok (.getfield 82, 3) := by decide +kernel
theorem dX6_step_44 : decode cX6_step 44 = .ok (.iconst 1, 1) := by decide +kernel
theorem dX6_step_45 : decode cX6_step 45 = .ok (.iadd, 1) := by decide +kernel
theorem dX6_step_46 : decode cX6_step 46 = .ok (.putfield 82, 3) := by decide +kernel
theorem dX6_step_49 : decode cX6_step 49 = .ok (.goto (-41), 3) := by decide +kernel
theorem dX6_step_52 : decode cX6_step 52 = .ok (.aload_n 0, 1) := by decide +kernel
theorem dX6_step_53 : decode cX6_step 53 = .ok (.aload_n 0, 1) := by decide +kernel
theorem dX6_step_54 : decode cX6_step 54 = .ok (.getfield 82, 3) := by decide +kernel
theorem dX6_step_57 : decode cX6_step 57 = .ok (.putfield 20, 3) := by decide +kernel
theorem dX6_step_60 : decode cX6_step 60 = .ok (.aload_n 0, 1) := by decide +kernel
theorem dX6_step_61 : decode cX6_step 61 = .ok (.getfield 20, 3) := by decide +kernel
theorem dX6_step_64 : decode cX6_step 64 = .ok (.aload_n 0, 1) := by decide +kernel
theorem dX6_step_65 : decode cX6_step 65 = .ok (.getfield 9, 3) := by decide +kernel
theorem dX6_step_68 : decode cX6_step 68 = .ok (.getfield 85, 3) := by decide +kernel
theorem dX6_step_71 : decode cX6_step 71 = .ok (.if_icmp .ge 33, 3) := by decide +kernel
theorem dX6_step_74 : decode cX6_step 74 = .ok (.aload_n 0, 1) := by decide +kernel
theorem dX6_step_75 : decode cX6_step 75 = .ok (.getfield 9, 3) := by decide +kernel
theorem dX6_step_78 : decode cX6_step 78 = .ok (.getfield 90, 3) := by decide +kernel
theorem dX6_step_81 : decode cX6_step 81 = .ok (.aload_n 0, 1) := by decide +kernel
theorem dX6_step_82 : decode cX6_step 82 = .ok (.getfield 20, 3) := by decide +kernel
theorem dX6_step_85 : decode cX6_step 85 = .ok (.baload, 1) := by decide +kernel
theorem dX6_step_86 : decode cX6_step 86 = .ok (.bipush 32, 2) := by decide +kernel
theorem dX6_step_88 : decode cX6_step 88 = .ok (.if_icmp .eq 16, 3) := by decide +kernel
theorem dX6_step_91 : decode cX6_step 91 = .ok (.aload_n 0, 1) := by decide +kernel
theorem dX6_step_92 : decode cX6_step 92 = .ok (.dup, 1) := by decide +kernel
theorem dX6_step_93 : decode cX6_step 93 = .ok (.getfield 20, 3) := by decide +kernel
theorem dX6_step_96 : decode cX6_step 96 = .ok (.iconst 1, 1) := by decide +kernel
theorem dX6_step_97 : decode cX6_step 97 = .ok (.iadd, 1) := by decide +kernel
theorem dX6_step_98 : decode cX6_step 98 = .ok (.putfield 20, 3) := by decide +kernel
theorem dX6_step_101 : decode cX6_step 101 = .ok (.goto (-41), 3) := by decide +kernel
theorem dX6_step_104 : decode cX6_step 104 = .ok (.return_, 1) := by decide +kernel
theorem dX6_skip_0 : decode cX6_skip 0 = .ok (.aload_n 0, 1) := by decide +kernel
theorem dX6_skip_1 : decode cX6_skip 1 = .ok (.getfield 16, 3) := by decide +kernel
theorem dX6_skip_4 : decode cX6_skip 4 = .ok (.ldc 15, 2) := by decide +kernel
theorem dX6_skip_6 : decode cX6_skip 6 = .ok (.if_icmp .ne 11, 3) := by decide +kernel
theorem dX6_skip_9 : decode cX6_skip 9 = .ok (.aload_n 0, 1) := by decide +kernel
theorem dX6_skip_10 : decode cX6_skip 10 = .ok (.aload_n 1, 1) := by decide +kernel
theorem dX6_skip_11 : decode cX6_skip 11 = .ok (.invokevirtual 94, 3) := by decide +kernel
theorem dX6_skip_14 : decode cX6_skip 14 = .ok (.ifCond .ne 5, 3) := by decide +kernel
theorem dX6_skip_17 : decode cX6_skip 17 = .ok (.iconst 0, 1) := by decide +kernel
theorem dX6_skip_18 : decode cX6_skip 18 = .ok (.ireturn, 1) := by decide +kernel
theorem dX6_skip_19 : decode cX6_skip 19 = .ok (.aload_n 0, 1) := by decide +kernel
theorem dX6_skip_20 : decode cX6_skip 20 = .ok (.invokevirtual 23, 3) := by decide +kernel
theorem dX6_skip_23 : decode cX6_skip 23 = .ok (.iconst 1, 1) := by decide +kernel
theorem dX6_skip_24 : decode cX6_skip 24 = .ok (.ireturn, 1) := by decide +kernel
theorem dX6_need_0 : decode cX6_need 0 = .ok (.aload_n 0, 1) := by decide +kernel
theorem dX6_need_1 : decode cX6_need 1 = .ok (.aload_n 1, 1) := by decide +kernel
theorem dX6_need_2 : decode cX6_need 2 = .ok (.invokevirtual 50, 3) := by decide +kernel
theorem dX6_need_5 : decode cX6_need 5 = .ok (.ifCond .ne 20, 3) := by decide +kernel
theorem dX6_need_8 : decode cX6_need 8 = .ok (.aload_n 0, 1) := by decide +kernel
theorem dX6_need_9 : decode cX6_need 9 = .ok (.getfield 16, 3) := by decide +kernel
theorem dX6_need_12 : decode cX6_need 12 = .ok (.ldc 15, 2) := by decide +kernel
theorem dX6_need_14 : decode cX6_need 14 = .ok (.if_icmp .ne 11, 3) := by decide +kernel
theorem dX6_need_17 : decode cX6_need 17 = .ok (.aload_n 0, 1) := by decide +kernel
theorem dX6_need_18 : decode cX6_need 18 = .ok (.aload_n 0, 1) := by decide +kernel
theorem dX6_need_19 : decode cX6_need 19 = .ok (.getfield 82, 3) := by decide +kernel
theorem dX6_need_22 : decode cX6_need 22 = .ok (.putfield 16, 3) := by decide +kernel
theorem dX6_need_25 : decode cX6_need 25 = .ok (.return_, 1) := by decide +kernel
theorem dX6_option_0 : decode cX6_option 0 = .ok (.aload_n 0, 1) := by decide +kernel
theorem dX6_option_1 : decode cX6_option 1 = .ok (.aload_n 1, 1) := by decide +kernel
theorem dX6_option_2 : decode cX6_option 2 = .ok (.invokevirtual 50, 3) := by decide +kernel
theorem dX6_option_5 : decode cX6_option 5 = .ok (.ifCond .eq 12, 3) := by decide +kernel
theorem dX6_option_8 : decode cX6_option 8 = .ok (.aload_n 0, 1) := by decide +kernel
theorem dX6_option_9 : decode cX6_option 9 = .ok (.iload_n 2, 1) := by decide +kernel
theorem dX6_option_10 : decode cX6_option 10 = .ok (.iload_n 3, 1) := by decide +kernel
theorem dX6_option_11 : decode cX6_option 11 = .ok (.invokevirtual 32, 3) := by decide +kernel
theorem dX6_option_14 : decode cX6_option 14 = .ok (.goto 5, 3) := by decide +kernel
theorem dX6_option_17 : decode cX6_option 17 = .ok (.iload 4, 2) := by decide +kernel
theorem dX6_option_19 : decode cX6_option 19 = .ok (.ireturn, 1) := by decide +kernel
theorem dX6_number_0 : decode cX6_number 0 = .ok (.aload_n 0, 1) := by decide +kernel
theorem dX6_number_1 : decode cX6_number 1 = .ok (.getfield 16, 3) := by decide +kernel
theorem dX6_number_4 : decode cX6_number 4 = .ok (.ldc 15, 2) := by decide +kernel
theorem dX6_number_6 : decode cX6_number 6 = .ok (.if_icmp .eq 5, 3) := by decide +kernel
theorem dX6_number_9 : decode cX6_number 9 = .ok (.iconst 0, 1) := by decide +kernel
theorem dX6_number_10 : decode cX6_number 10 = .ok (.ireturn, 1) := by decide +kernel
theorem dX6_number_11 : decode cX6_number 11 = .ok (.aload_n 0, 1) := by decide +kernel
theorem dX6_number_12 : decode cX6_number 12 = .ok (.invokevirtual 97, 3) := by decide +kernel
theorem dX6_number_15 : decode cX6_number 15 = .ok (.istore_n 3, 1) := by decide +kernel
theorem dX6_number_16 : decode cX6_number 16 = .ok (.iload_n 3, 1) := by decide +kernel
theorem dX6_number_17 : decode cX6_number 17 = .ok (.iload_n 1, 1) := by decide +kernel
theorem dX6_number_18 : decode cX6_number 18 = .ok (.if_icmp .lt 8, 3) := by decide +kernel
theorem dX6_number_21 : decode cX6_number 21 = .ok (.iload_n 3, 1) := by decide +kernel
theorem dX6_number_22 : decode cX6_number 22 = .ok (.iload_n 2, 1) := by decide +kernel
theorem dX6_number_23 : decode cX6_number 23 = .ok (.if_icmp .le 13, 3) := by decide +kernel
theorem dX6_number_26 : decode cX6_number 26 = .ok (.aload_n 0, 1) := by decide +kernel
theorem dX6_number_27 : decode cX6_number 27 = .ok (.aload_n 0, 1) := by decide +kernel
theorem dX6_number_28 : decode cX6_number 28 = .ok (.getfield 82, 3) := by decide +kernel
theorem dX6_number_31 : decode cX6_number 31 = .ok (.putfield 16, 3) := by decide +kernel
theorem dX6_number_34 : decode cX6_number 34 = .ok (.iconst 0, 1) := by decide +kernel
theorem dX6_number_35 : decode cX6_number 35 = .ok (.ireturn, 1) := by decide +kernel
theorem dX6_number_36 : decode cX6_number 36 = .ok (.aload_n 0, 1) := by decide +kernel
theorem dX6_number_37 : decode cX6_number 37 = .ok (.invokevirtual 23, 3) := by decide +kernel
theorem dX6_number_40 : decode cX6_number 40 = .ok (.iload_n 3, 1) := by decide +kernel
theorem dX6_number_41 : decode cX6_number 41 = .ok (.ireturn, 1) := by decide +kernel
theorem dX6_isAt_0 : decode cX6_isAt 0 = .ok (.aload_n 0, 1) := by decide +kernel
theorem dX6_isAt_1 : decode cX6_isAt 1 = .ok (.getfield 20, 3) := by decide +kernel
theorem dX6_isAt_4 : decode cX6_isAt 4 = .ok (.aload_n 0, 1) := by decide +kernel
theorem dX6_isAt_5 : decode cX6_isAt 5 = .ok (.getfield 82, 3) := by decide +kernel
theorem dX6_isAt_8 : decode cX6_isAt 8 = .ok (.isub, 1) := by decide +kernel
theorem dX6_isAt_9 : decode cX6_isAt 9 = .ok (.aload_n 1, 1) := by decide +kernel
theorem dX6_isAt_10 : decode cX6_isAt 10 = .ok (.invokevirtual 101, 3) := by decide +kernel
theorem dX6_isAt_13 : decode cX6_isAt 13 = .ok (.if_icmp .eq 5, 3) := by decide +kernel
theorem dX6_isAt_16 : decode cX6_isAt 16 = .ok (.iconst 0, 1) := by decide +kernel
theorem dX6_isAt_17 : decode cX6_isAt 17 = .ok (.ireturn, 1) := by decide +kernel
theorem dX6_isAt_18 : decode cX6_isAt 18 = .ok (.iconst 0, 1) := by decide +kernel
theorem dX6_isAt_19 : decode cX6_isAt 19 = .ok (.istore_n 2, 1) := by decide +kernel
theorem dX6_isAt_20 : decode cX6_isAt 20 = .ok (.iload_n 2, 1) := by decide +kernel
theorem dX6_isAt_21 : decode cX6_isAt 21 = .ok (.aload_n 1, 1) := by decide +kernel
theorem dX6_isAt_22 : decode cX6_isAt 22 = .ok (.invokevirtual 101, 3) := by decide +kernel
theorem dX6_isAt_25 : decode cX6_isAt 25 = .ok (.if_icmp .ge 33, 3) := by decide +kernel
theorem dX6_isAt_28 : decode cX6_isAt 28 = .ok (.aload_n 0, 1) := by decide +kernel
theorem dX6_isAt_29 : decode cX6_isAt 29 = .ok (.getfield 9, 3) := by decide +kernel
theorem dX6_isAt_32 : decode cX6_isAt 32 = .ok (.getfield 90, 3) := by decide +kernel
theorem dX6_isAt_35 : decode cX6_isAt 35 = .ok (.aload_n 0, 1) := by decide +kernel
theorem dX6_isAt_36 : decode cX6_isAt 36 = .ok (.getfield 82, 3) := by decide +kernel
theorem dX6_isAt_39 : decode cX6_isAt 39 = .ok (.iload_n 2, 1) := by decide +kernel
theorem dX6_isAt_40 : decode cX6_isAt 40 = .ok (.iadd, 1) := by decide +kernel
theorem dX6_isAt_41 : decode cX6_isAt 41 = .ok (.baload, 1) := by decide +kernel
theorem dX6_isAt_42 : decode cX6_isAt 42 = .ok (.aload_n 1, 1) := by decide +kernel
theorem dX6_isAt_43 : decode cX6_isAt 43 = .ok (.iload_n 2, 1) := by decide +kernel
theorem dX6_isAt_44 : decode cX6_isAt 44 = .ok (.invokevirtual 106, 3) := by decide +kernel
theorem dX6_isAt_47 : decode cX6_isAt 47 = .ok (.if_icmp .eq 5, 3) := by decide +kernel
theorem dX6_isAt_50 : decode cX6_isAt 50 = .ok (.iconst 0, 1) := by decide +kernel
theorem dX6_isAt_51 : decode cX6_isAt 51 = .ok (.ireturn, 1) := by decide +kernel
theorem dX6_isAt_52 : decode cX6_isAt 52 = .ok (.iinc 2 1, 3) := by decide +kernel
theorem dX6_isAt_55 : decode cX6_isAt 55 = .ok (.goto (-35), 3) := by decide +kernel
theorem dX6_isAt_58 : decode cX6_isAt 58 = .ok (.iconst 1, 1) := by decide +kernel
theorem dX6_isAt_59 : decode cX6_isAt 59 = .ok (.ireturn, 1) := by decide +kernel
theorem dX6_digits_0 : decode cX6_digits 0 = .ok (.aload_n 0, 1) := by decide +kernel
theorem dX6_digits_1 : decode cX6_digits 1 = .ok (.getfield 82, 3) := by decide +kernel
theorem dX6_digits_4 : decode cX6_digits 4 = .ok (.aload_n 0, 1) := by decide +kernel
theorem dX6_digits_5 : decode cX6_digits 5 = .ok (.getfield 20, 3) := by decide +kernel
theorem dX6_digits_8 : decode cX6_digits 8 = .ok (.if_icmp .ne 5, 3) := by decide +kernel
theorem dX6_digits_11 : decode cX6_digits 11 = .ok (.iconst (-1), 1) := by decide +kernel
theorem dX6_digits_12 : decode cX6_digits 12 = .ok (.ireturn, 1) := by decide +kernel
theorem dX6_digits_13 : decode cX6_digits 13 = .ok (.iconst 0, 1) := by decide +kernel
theorem dX6_digits_14 : decode cX6_digits 14 = .ok (.istore_n 1, 1) := by decide +kernel
theorem dX6_digits_15 : decode cX6_digits 15 = .ok (.aload_n 0, 1) := by decide +kernel
theorem dX6_digits_16 : decode cX6_digits 16 = .ok (.getfield 82, 3) := by decide +kernel
theorem dX6_digits_19 : decode cX6_digits 19 = .ok (.istore_n 2, 1) := by decide +kernel
theorem dX6_digits_20 : decode cX6_digits 20 = .ok (.iload_n 2, 1) := by decide +kernel
theorem dX6_digits_21 : decode cX6_digits 21 = .ok (.aload_n 0, 1) := by decide +kernel
theorem dX6_digits_22 : decode cX6_digits 22 = .ok (.getfield 20, 3) := by decide +kernel
theorem dX6_digits_25 : decode cX6_digits 25 = .ok (.if_icmp .ge 45, 3) := by decide +kernel
theorem dX6_digits_28 : decode cX6_digits 28 = .ok (.aload_n 0, 1) := by decide +kernel
theorem dX6_digits_29 : decode cX6_digits 29 = .ok (.getfield 9, 3) := by decide +kernel
theorem dX6_digits_32 : decode cX6_digits 32 = .ok (.getfield 90, 3) := by decide +kernel
theorem dX6_digits_35 : decode cX6_digits 35 = .ok (.iload_n 2, 1) := by decide +kernel
theorem dX6_digits_36 : decode cX6_digits 36 = .ok (.baload, 1) := by decide +kernel
theorem dX6_digits_37 : decode cX6_digits 37 = .ok (.bipush 48, 2) := by decide +kernel
theorem dX6_digits_39 : decode cX6_digits 39 = .ok (.isub, 1) := by decide +kernel
theorem dX6_digits_40 : decode cX6_digits 40 = .ok (.istore_n 3, 1) := by decide +kernel
theorem dX6_digits_41 : decode cX6_digits 41 = .ok (.iload_n 3, 1) := by decide +kernel
theorem dX6_digits_42 : decode cX6_digits 42 = .ok (.bipush 10, 2) := by decide +kernel
theorem dX6_digits_44 : decode cX6_digits 44 = .ok (.invokestatic 110, 3) := by decide +kernel
theorem dX6_digits_47 : decode cX6_digits 47 = .ok (.ifCond .ne 5, 3) := by decide +kernel
theorem dX6_digits_50 : decode cX6_digits 50 = .ok (.iconst (-1), 1) := by decide +kernel
theorem dX6_digits_51 : decode cX6_digits 51 = .ok (.ireturn, 1) := by decide +kernel
theorem dX6_digits_52 : decode cX6_digits 52 = .ok (.ldc 114, 2) := by decide +kernel
theorem dX6_digits_54 : decode cX6_digits 54 = .ok (.iload_n 1, 1) := by decide +kernel
theorem dX6_digits_55 : decode cX6_digits 55 = .ok (.bipush 10, 2) := by decide +kernel
theorem dX6_digits_57 : decode cX6_digits 57 = .ok (.imul, 1) := by decide +kernel
theorem dX6_digits_58 : decode cX6_digits 58 = .ok (.iload_n 3, 1) := by decide +kernel
theorem dX6_digits_59 : decode cX6_digits 59 = .ok (.iadd, 1) := by decide +kernel
theorem dX6_digits_60 : decode cX6_digits 60 = .ok (.invokestatic 115, 3) := by decide +kernel
theorem dX6_digits_63 : decode cX6_digits 63 = .ok (.istore_n 1, 1) := by decide +kernel
theorem dX6_digits_64 : decode cX6_digits 64 = .ok (.iinc 2 1, 3) := by decide +kernel
theorem dX6_digits_67 : decode cX6_digits 67 = .ok (.goto (-47), 3) := by decide +kernel
theorem dX6_digits_70 : decode cX6_digits 70 = .ok (.iload_n 1, 1) := by decide +kernel
theorem dX6_digits_71 : decode cX6_digits 71 = .ok (.ireturn, 1) := by decide +kernel
theorem dX7_init_0 : decode cX7_init 0 = .ok (.aload_n 0, 1) := by decide +kernel
theorem dX7_init_1 : decode cX7_init 1 = .ok (.invokespecial 3, 3) := by decide +kernel
theorem dX7_init_4 : decode cX7_init 4 = .ok (.aload_n 0, 1) := by decide +kernel
theorem dX7_init_5 : decode cX7_init 5 = .ok (.bipush 120, 2) := by decide +kernel
theorem dX7_init_7 : decode cX7_init 7 = .ok (.newarray .byte, 2) := by decide +kernel
theorem dX7_init_9 : decode cX7_init 9 = .ok (.putfield 9, 3) := by decide +kernel
theorem dX7_init_12 : decode cX7_init 12 = .ok (.aload_n 0, 1) := by decide +kernel
theorem dX7_init_13 : decode cX7_init 13 = .ok (.iconst (-1), 1) := by decide +kernel
theorem dX7_init_14 : decode cX7_init 14 = .ok (.putfield 15, 3) := by decide +kernel
theorem dX7_init_17 : decode cX7_init 17 = .ok (.return_, 1) := by decide +kernel
theorem dX7_makeAnew_0 : decode cX7_makeAnew 0 = .ok (.aload_n 0, 1) := by decide +kernel
theorem dX7_makeAnew_1 : decode cX7_makeAnew 1 = .ok (.getfield 9, 3) := by decide +kernel
theorem dX7_makeAnew_4 : decode cX7_makeAnew 4 = .ok (.iconst 0, 1) := by decide +kernel
theorem dX7_makeAnew_5 : decode cX7_makeAnew 5 = .ok (.invokestatic 19, 3) := by decide +kernel
theorem dX7_makeAnew_8 : decode cX7_makeAnew 8 = .ok (.aload_n 0, 1) := by decide +kernel
theorem dX7_makeAnew_9 : decode cX7_makeAnew 9 = .ok (.iload_n 1, 1) := by decide +kernel
theorem dX7_makeAnew_10 : decode cX7_makeAnew 10 = .ok (.putfield 15, 3) := by decide +kernel
theorem dX7_makeAnew_13 : decode cX7_makeAnew 13 = .ok (.return_, 1) := by decide +kernel
theorem dX7_isMissing_0 : decode cX7_isMissing 0 = .ok (.aload_n 0, 1) := by decide +kernel
theorem dX7_isMissing_1 : decode cX7_isMissing 1 = .ok (.getfield 15, 3) := by decide +kernel
theorem dX7_isMissing_4 : decode cX7_isMissing 4 = .ok (.iconst (-1), 1) := by decide +kernel
theorem dX7_isMissing_5 : decode cX7_isMissing 5 = .ok (.if_icmp .ne 7, 3) := by decide +kernel
theorem dX7_isMissing_8 : decode cX7_isMissing 8 = .ok (.iconst 1, 1) := by decide +kernel
theorem dX7_isMissing_9 : decode cX7_isMissing 9 = .ok (.goto 4, 3) := by decide +kernel
theorem dX7_isMissing_12 : decode cX7_isMissing 12 = .ok (.iconst 0, 1) := by decide +kernel
theorem dX7_isMissing_13 : decode cX7_isMissing 13 = .ok (.ireturn, 1) := by decide +kernel
theorem dX7_hasRun_0 : decode cX7_hasRun 0 = .ok (.iload_n 1, 1) := by decide +kernel
theorem dX7_hasRun_1 : decode cX7_hasRun 1 = .ok (.ifCond .lt 21, 3) := by decide +kernel
theorem dX7_hasRun_4 : decode cX7_hasRun 4 = .ok (.iload_n 2, 1) := by decide +kernel
theorem dX7_hasRun_5 : decode cX7_hasRun 5 = .ok (.ifCond .lt 17, 3) := by decide +kernel
theorem dX7_hasRun_8 : decode cX7_hasRun 8 = .ok (.iload_n 1, 1) := by decide +kernel
theorem dX7_hasRun_9 : decode cX7_hasRun 9 = .ok (.aload_n 0, 1) := by decide +kernel
theorem dX7_hasRun_10 : decode cX7_hasRun 10 = .ok (.getfield 15, 3) := by decide +kernel
theorem dX7_hasRun_13 : decode cX7_hasRun 13 = .ok (.iload_n 2, 1) := by decide +kernel
theorem dX7_hasRun_14 : decode cX7_hasRun 14 = .ok (.isub, 1) := by decide +kernel
theorem dX7_hasRun_15 : decode cX7_hasRun 15 = .ok (.if_icmp .gt 7, 3) := by decide +kernel
theorem dX7_hasRun_18 : decode cX7_hasRun 18 = .ok (.iconst 1, 1) := by decide +kernel
theorem dX7_hasRun_19 : decode cX7_hasRun 19 = .ok (.goto 4, 3) := by decide +kernel
theorem dX7_hasRun_22 : decode cX7_hasRun 22 = .ok (.iconst 0, 1) := by decide +kernel
theorem dX7_hasRun_23 : decode cX7_hasRun 23 = .ok (.ireturn, 1) := by decide +kernel
theorem dX7_toldFor_0 : decode cX7_toldFor 0 = .ok (.iload_n 1, 1) := by decide +kernel
theorem dX7_toldFor_1 : decode cX7_toldFor 1 = .ok (.aload_n 0, 1) := by decide +kernel
theorem dX7_toldFor_2 : decode cX7_toldFor 2 = .ok (.getfield 15, 3) := by decide +kernel
theorem dX7_toldFor_5 : decode cX7_toldFor 5 = .ok (.invokestatic 25, 3) := by decide +kernel
theorem dX7_toldFor_8 : decode cX7_toldFor 8 = .ok (.ifCond .eq 15, 3) := by decide +kernel
theorem dX7_toldFor_11 : decode cX7_toldFor 11 = .ok (.aload_n 0, 1) := by decide +kernel
theorem dX7_toldFor_12 : decode cX7_toldFor 12 = .ok (.getfield 9, 3) := by decide +kernel
theorem dX7_toldFor_15 : decode cX7_toldFor 15 = .ok (.iload_n 1, 1) := by decide +kernel
theorem dX7_toldFor_16 : decode cX7_toldFor 16 = .ok (.baload, 1) := by decide +kernel
theorem dX7_toldFor_17 : decode cX7_toldFor 17 = .ok (.invokestatic 29, 3) := by decide +kernel
theorem dX7_toldFor_20 : decode cX7_toldFor 20 = .ok (.ifCond .ne 6, 3) := by decide +kernel
theorem dX7_toldFor_23 : decode cX7_toldFor 23 = .ok (.ldc 33, 2) := by decide +kernel
theorem dX7_toldFor_25 : decode cX7_toldFor 25 = .ok (.ireturn, 1) := by decide +kernel
theorem dX7_toldFor_26 : decode cX7_toldFor 26 = .ok (.aload_n 0, 1) := by decide +kernel
theorem dX7_toldFor_27 : decode cX7_toldFor 27 = .ok (.getfield 9, 3) := by decide +kernel
theorem dX7_toldFor_30 : decode cX7_toldFor 30 = .ok (.iload_n 1, 1) := by decide +kernel
theorem dX7_toldFor_31 : decode cX7_toldFor 31 = .ok (.baload, 1) := by decide +kernel
theorem dX7_toldFor_32 : decode cX7_toldFor 32 = .ok (.ireturn, 1) := by decide +kernel
theorem dX8_init_0 : decode cX8_init 0 = .ok (.aload_n 0, 1) := by decide +kernel
theorem dX8_init_1 : decode cX8_init 1 = .ok (.invokespecial 3, 3) := by decide +kernel
theorem dX8_init_4 : decode cX8_init 4 = .ok (.aload_n 0, 1) := by decide +kernel
theorem dX8_init_5 : decode cX8_init 5 = .ok (.bipush 72, 2) := by decide +kernel
theorem dX8_init_7 : decode cX8_init 7 = .ok (.newarray .byte, 2) := by decide +kernel
theorem dX8_init_9 : decode cX8_init 9 = .ok (.putfield 9, 3) := by decide +kernel
theorem dX8_init_12 : decode cX8_init 12 = .ok (.return_, 1) := by decide +kernel
theorem dX8_put_0 : decode cX8_put 0 = .ok (.bipush 24, 2) := by decide +kernel
theorem dX8_put_2 : decode cX8_put 2 = .ok (.istore_n 2, 1) := by decide +kernel
theorem dX8_put_3 : decode cX8_put 3 = .ok (.iload_n 2, 1) := by decide +kernel
theorem dX8_put_4 : decode cX8_put 4 = .ok (.ifCond .lt 41, 3) := by decide +kernel
theorem dX8_put_7 : decode cX8_put 7 = .ok (.aload_n 0, 1) := by decide +kernel
theorem dX8_put_8 : decode cX8_put 8 = .ok (.getfield 15, 3) := by decide +kernel
theorem dX8_put_11 : decode cX8_put 11 = .ok (.bipush 72, 2) := by decide +kernel
theorem dX8_put_13 : decode cX8_put 13 = .ok (.if_icmp .ge 32, 3) := by decide +kernel
theorem dX8_put_16 : decode cX8_put 16 = .ok (.aload_n 0, 1) := by decide +kernel
theorem dX8_put_17 : decode cX8_put 17 = .ok (.getfield 9, 3) := by decide +kernel
theorem dX8_put_20 : decode cX8_put 20 = .ok (.aload_n 0, 1) := by decide +kernel
theorem dX8_put_21 : decode cX8_put 21 = .ok (.getfield 15, 3) := by decide +kernel
theorem dX8_put_24 : decode cX8_put 24 = .ok (.iload_n 1, 1) := by decide +kernel
theorem dX8_put_25 : decode cX8_put 25 = .ok (.iload_n 2, 1) := by decide +kernel
theorem dX8_put_26 : decode cX8_put 26 = .ok (.iushr, 1) := by decide +kernel
theorem dX8_put_27 : decode cX8_put 27 = .ok (.i2b, 1) := by decide +kernel
theorem dX8_put_28 : decode cX8_put 28 = .ok (.bastore, 1) := by decide +kernel
theorem dX8_put_29 : decode cX8_put 29 = .ok (.aload_n 0, 1) := by decide +kernel
theorem dX8_put_30 : decode cX8_put 30 = .ok (.dup, 1) := by decide +kernel
theorem dX8_put_31 : decode cX8_put 31 = .ok (.getfield 15, 3) := by decide +kernel
theorem dX8_put_34 : decode cX8_put 34 = .ok (.iconst 1, 1) := by decide +kernel
theorem dX8_put_35 : decode cX8_put 35 = .ok (.iadd, 1) := by decide +kernel
theorem dX8_put_36 : decode cX8_put 36 = .ok (.putfield 15, 3) := by decide +kernel
theorem dX8_put_39 : decode cX8_put 39 = .ok (.iinc 2 (-8), 3) := by decide +kernel
theorem dX8_put_42 : decode cX8_put 42 = .ok (.goto (-39), 3) := by decide +kernel
theorem dX8_put_45 : decode cX8_put 45 = .ok (.return_, 1) := by decide +kernel
theorem dX9_init_0 : decode cX9_init 0 = .ok (.aload_n 0, 1) := by decide +kernel
theorem dX9_init_1 : decode cX9_init 1 = .ok (.invokespecial 1, 3) := by decide +kernel
theorem dX9_init_4 : decode cX9_init 4 = .ok (.aload_n 0, 1) := by decide +kernel
theorem dX9_init_5 : decode cX9_init 5 = .ok (.new 7, 3) := by decide +kernel
theorem dX9_init_8 : decode cX9_init 8 = .ok (.dup, 1) := by decide +kernel
theorem dX9_init_9 : decode cX9_init 9 = .ok (.invokespecial 9, 3) := by decide +kernel
theorem dX9_init_12 : decode cX9_init 12 = .ok (.putfield 10, 3) := by decide +kernel
theorem dX9_init_15 : decode cX9_init 15 = .ok (.aload_n 0, 1) := by decide +kernel
theorem dX9_init_16 : decode cX9_init 16 = .ok (.new 16, 3) := by decide +kernel
theorem dX9_init_19 : decode cX9_init 19 = .ok (.dup, 1) := by decide +kernel
theorem dX9_init_20 : decode cX9_init 20 = .ok (.invokespecial 18, 3) := by decide +kernel
theorem dX9_init_23 : decode cX9_init 23 = .ok (.putfield 19, 3) := by decide +kernel
theorem dX9_init_26 : decode cX9_init 26 = .ok (.aload_n 0, 1) := by decide +kernel
theorem dX9_init_27 : decode cX9_init 27 = .ok (.new 23, 3) := by decide +kernel
theorem dX9_init_30 : decode cX9_init 30 = .ok (.dup, 1) := by decide +kernel
theorem dX9_init_31 : decode cX9_init 31 = .ok (.aload_n 0, 1) := by decide +kernel
theorem dX9_init_32 : decode cX9_init 32 = .ok (.getfield 19, 3) := by decide +kernel
theorem dX9_init_35 : decode cX9_init 35 = .ok (.invokespecial 25, 3) := by decide +kernel
theorem dX9_init_38 : decode cX9_init 38 = .ok (.putfield 28, 3) := by decide +kernel
theorem dX9_init_41 : decode cX9_init 41 = .ok (.aload_n 0, 1) := by decide +kernel
theorem dX9_init_42 : decode cX9_init 42 = .ok (.new 32, 3) := by decide +kernel
theorem dX9_init_45 : decode cX9_init 45 = .ok (.dup, 1) := by decide +kernel
theorem dX9_init_46 : decode cX9_init 46 = .ok (.invokespecial 34, 3) := by decide +kernel
theorem dX9_init_49 : decode cX9_init 49 = .ok (.putfield 35, 3) := by decide +kernel
theorem dX9_init_52 : decode cX9_init 52 = .ok (.aload_n 0, 1) := by decide +kernel
theorem dX9_init_53 : decode cX9_init 53 = .ok (.new 39, 3) := by decide +kernel
theorem dX9_init_56 : decode cX9_init 56 = .ok (.dup, 1) := by decide +kernel
theorem dX9_init_57 : decode cX9_init 57 = .ok (.invokespecial 41, 3) := by decide +kernel
theorem dX9_init_60 : decode cX9_init 60 = .ok (.putfield 42, 3) := by decide +kernel
theorem dX9_init_63 : decode cX9_init 63 = .ok (.aload_n 0, 1) := by decide +kernel
theorem dX9_init_64 : decode cX9_init 64 = .ok (.new 46, 3) := by decide +kernel
theorem dX9_init_67 : decode cX9_init 67 = .ok (.dup, 1) := by decide +kernel
theorem dX9_init_68 : decode cX9_init 68 = .ok (.invokespecial 48, 3) := by decide +kernel
theorem dX9_init_71 : decode cX9_init 71 = .ok (.putfield 49, 3) := by decide +kernel
theorem dX9_init_74 : decode cX9_init 74 = .ok (.aload_n 0, 1) := by decide +kernel
theorem dX9_init_75 : decode cX9_init 75 = .ok (.new 53, 3) := by decide +kernel
theorem dX9_init_78 : decode cX9_init 78 = .ok (.dup, 1) := by decide +kernel
theorem dX9_init_79 : decode cX9_init 79 = .ok (.invokespecial 55, 3) := by decide +kernel
theorem dX9_init_82 : decode cX9_init 82 = .ok (.putfield 56, 3) := by decide +kernel
theorem dX9_init_85 : decode cX9_init 85 = .ok (.aload_n 0, 1) := by decide +kernel
theorem dX9_init_86 : decode cX9_init 86 = .ok (.bipush 120, 2) := by decide +kernel
theorem dX9_init_88 : decode cX9_init 88 = .ok (.newarray .boolean, 2) := by decide +kernel
theorem dX9_init_90 : decode cX9_init 90 = .ok (.putfield 60, 3) := by decide +kernel
theorem dX9_init_93 : decode cX9_init 93 = .ok (.return_, 1) := by decide +kernel
theorem dX9_change_0 : decode cX9_change 0 = .ok (.iload_n 1, 1) := by decide +kernel
theorem dX9_change_1 : decode cX9_change 1 = .ok (.iload_n 2, 1) := by decide +kernel
theorem dX9_change_2 : decode cX9_change 2 = .ok (.invokestatic 64, 3) := by decide +kernel
theorem dX9_change_5 : decode cX9_change 5 = .ok (.ifCond .eq 10, 3) := by decide +kernel
theorem dX9_change_8 : decode cX9_change 8 = .ok (.iload_n 3, 1) := by decide +kernel
theorem dX9_change_9 : decode cX9_change 9 = .ok (.invokestatic 68, 3) := by decide +kernel
theorem dX9_change_12 : decode cX9_change 12 = .ok (.ifCond .ne 6, 3) := by decide +kernel
theorem dX9_change_15 : decode cX9_change 15 = .ok (.ldc 72, 2) := by decide +kernel
theorem dX9_change_17 : decode cX9_change 17 = .ok (.ireturn, 1) := by decide +kernel
theorem dX9_change_18 : decode cX9_change 18 = .ok (.aload_n 0, 1) := by decide +kernel
theorem dX9_change_19 : decode cX9_change 19 = .ok (.getfield 10, 3) := by decide +kernel
theorem dX9_change_22 : decode cX9_change 22 = .ok (.getfield 73, 3) := by decide +kernel
theorem dX9_change_25 : decode cX9_change 25 = .ok (.bipush 80, 2) := by decide +kernel
theorem dX9_change_27 : decode cX9_change 27 = .ok (.if_icmp .ne 6, 3) := by decide +kernel
theorem dX9_change_30 : decode cX9_change 30 = .ok (.ldc 77, 2) := by decide +kernel
theorem dX9_change_32 : decode cX9_change 32 = .ok (.ireturn, 1) := by decide +kernel
theorem dX9_change_33 : decode cX9_change 33 = .ok (.aload_n 0, 1) := by decide +kernel
theorem dX9_change_34 : decode cX9_change 34 = .ok (.getfield 10, 3) := by decide +kernel
theorem dX9_change_37 : decode cX9_change 37 = .ok (.iload_n 1, 1) := by decide +kernel
theorem dX9_change_38 : decode cX9_change 38 = .ok (.iload_n 2, 1) := by decide +kernel
theorem dX9_change_39 : decode cX9_change 39 = .ok (.iload_n 3, 1) := by decide +kernel
theorem dX9_change_40 : decode cX9_change 40 = .ok (.aload_n 0, 1) := by decide +kernel
theorem dX9_change_41 : decode cX9_change 41 = .ok (.getfield 78, 3) := by decide +kernel
theorem dX9_change_44 : decode cX9_change 44 = .ok (.invokevirtual 81, 3) := by decide +kernel
theorem dX9_change_47 : decode cX9_change 47 = .ok (.ireturn, 1) := by decide +kernel
theorem dX9_isOf_0 : decode cX9_isOf 0 = .ok (.aload_n 0, 1) := by decide +kernel
theorem dX9_isOf_1 : decode cX9_isOf 1 = .ok (.getfield 10, 3) := by decide +kernel
theorem dX9_isOf_4 : decode cX9_isOf 4 = .ok (.iload_n 1, 1) := by decide +kernel
theorem dX9_isOf_5 : decode cX9_isOf 5 = .ok (.invokevirtual 85, 3) := by decide +kernel
theorem dX9_isOf_8 : decode cX9_isOf 8 = .ok (.ifCond .eq 11, 3) := by decide +kernel
theorem dX9_isOf_11 : decode cX9_isOf 11 = .ok (.iload_n 2, 1) := by decide +kernel
theorem dX9_isOf_12 : decode cX9_isOf 12 = .ok (.iconst 4, 1) := by decide +kernel
theorem dX9_isOf_13 : decode cX9_isOf 13 = .ok (.invokestatic 88, 3) := by decide +kernel
theorem dX9_isOf_16 : decode cX9_isOf 16 = .ok (.ifCond .ne 6, 3) := by decide +kernel
theorem dX9_isOf_19 : decode cX9_isOf 19 = .ok (.ldc 72, 2) := by decide +kernel
theorem dX9_isOf_21 : decode cX9_isOf 21 = .ok (.ireturn, 1) := by decide +kernel
theorem dX9_isOf_22 : decode cX9_isOf 22 = .ok (.aload_n 0, 1) := by decide +kernel
theorem dX9_isOf_23 : decode cX9_isOf 23 = .ok (.getfield 10, 3) := by decide +kernel
theorem dX9_isOf_26 : decode cX9_isOf 26 = .ok (.iload_n 1, 1) := by decide +kernel
theorem dX9_isOf_27 : decode cX9_isOf 27 = .ok (.iload_n 2, 1) := by decide +kernel
theorem dX9_isOf_28 : decode cX9_isOf 28 = .ok (.invokevirtual 91, 3) := by decide +kernel
theorem dX9_isOf_31 : decode cX9_isOf 31 = .ok (.ifCond .eq 7, 3) := by decide +kernel
theorem dX9_isOf_34 : decode cX9_isOf 34 = .ok (.iconst 1, 1) := by decide +kernel
theorem dX9_isOf_35 : decode cX9_isOf 35 = .ok (.goto 4, 3) := by decide +kernel
theorem dX9_isOf_38 : decode cX9_isOf 38 = .ok (.iconst 0, 1) := by decide +kernel
theorem dX9_isOf_39 : decode cX9_isOf 39 = .ok (.ireturn, 1) := by decide +kernel
theorem dX9_takeBack_0 : decode cX9_takeBack 0 = .ok (.aload_n 0, 1) := by decide +kernel
theorem dX9_takeBack_1 : decode cX9_takeBack 1 = .ok (.getfield 10, 3) := by decide +kernel
theorem dX9_takeBack_4 : decode cX9_takeBack 4 = .ok (.iload_n 1, 1) := by decide +kernel
theorem dX9_takeBack_5 : decode cX9_takeBack 5 = .ok (.invokevirtual 85, 3) := by decide +kernel
theorem dX9_takeBack_8 : decode cX9_takeBack 8 = .ok (.ifCond .ne 6, 3) := by decide +kernel
theorem dX9_takeBack_11 : decode cX9_takeBack 11 = .ok (.ldc 72, 2) := by decide +kernel
theorem dX9_takeBack_13 : decode cX9_takeBack 13 = .ok (.ireturn, 1) := by decide +kernel
theorem dX9_takeBack_14 : decode cX9_takeBack 14 = .ok (.aload_n 0, 1) := by decide +kernel
theorem dX9_takeBack_15 : decode cX9_takeBack 15 = .ok (.getfield 10, 3) := by decide +kernel
theorem dX9_takeBack_18 : decode cX9_takeBack 18 = .ok (.getfield 94, 3) := by decide +kernel
theorem dX9_takeBack_21 : decode cX9_takeBack 21 = .ok (.iload_n 1, 1) := by decide +kernel
theorem dX9_takeBack_22 : decode cX9_takeBack 22 = .ok (.iaload, 1) := by decide +kernel
theorem dX9_takeBack_23 : decode cX9_takeBack 23 = .ok (.ldc 98, 2) := by decide +kernel
theorem dX9_takeBack_25 : decode cX9_takeBack 25 = .ok (.if_icmp .eq 6, 3) := by decide +kernel
theorem dX9_takeBack_28 : decode cX9_takeBack 28 = .ok (.ldc 99, 2) := by decide +kernel
theorem dX9_takeBack_30 : decode cX9_takeBack 30 = .ok (.ireturn, 1) := by decide +kernel
theorem dX9_takeBack_31 : decode cX9_takeBack 31 = .ok (.aload_n 0, 1) := by decide +kernel
theorem dX9_takeBack_32 : decode cX9_takeBack 32 = .ok (.getfield 10, 3) := by decide +kernel
theorem dX9_takeBack_35 : decode cX9_takeBack 35 = .ok (.getfield 94, 3) := by decide +kernel
theorem dX9_takeBack_38 : decode cX9_takeBack 38 = .ok (.iload_n 1, 1) := by decide +kernel
theorem dX9_takeBack_39 : decode cX9_takeBack 39 = .ok (.aload_n 0, 1) := by decide +kernel
theorem dX9_takeBack_40 : decode cX9_takeBack 40 = .ok (.getfield 78, 3) := by decide +kernel
theorem dX9_takeBack_43 : decode cX9_takeBack 43 = .ok (.iastore, 1) := by decide +kernel
theorem dX9_takeBack_44 : decode cX9_takeBack 44 = .ok (.iconst 1, 1) := by decide +kernel
theorem dX9_takeBack_45 : decode cX9_takeBack 45 = .ok (.ireturn, 1) := by decide +kernel
theorem dX9_told_0 : decode cX9_told 0 = .ok (.aload_n 0, 1) := by decide +kernel
theorem dX9_told_1 : decode cX9_told 1 = .ok (.getfield 10, 3) := by decide +kernel
theorem dX9_told_4 : decode cX9_told 4 = .ok (.iload_n 1, 1) := by decide +kernel
theorem dX9_told_5 : decode cX9_told 5 = .ok (.invokevirtual 85, 3) := by decide +kernel
theorem dX9_told_8 : decode cX9_told 8 = .ok (.ifCond .ne 6, 3) := by decide +kernel
theorem dX9_told_11 : decode cX9_told 11 = .ok (.ldc 72, 2) := by decide +kernel
theorem dX9_told_13 : decode cX9_told 13 = .ok (.ireturn, 1) := by decide +kernel
theorem dX9_told_14 : decode cX9_told 14 = .ok (.iload_n 2, 1) := by decide +kernel
theorem dX9_told_15 : decode cX9_told 15 = .ok (.tableswitch 83 0 4 #[33, 43, 53, 63, 73], 33) := by decide +kernel
theorem dX9_told_48 : decode cX9_told 48 = .ok (.aload_n 0, 1) := by decide +kernel
theorem dX9_told_49 : decode cX9_told 49 = .ok (.getfield 10, 3) := by decide +kernel
theorem dX9_told_52 : decode cX9_told 52 = .ok (.getfield 100, 3) := by decide +kernel
theorem dX9_told_55 : decode cX9_told 55 = .ok (.iload_n 1, 1) := by decide +kernel
theorem dX9_told_56 : decode cX9_told 56 = .ok (.iaload, 1) := by decide +kernel
theorem dX9_told_57 : decode cX9_told 57 = .ok (.ireturn, 1) := by decide +kernel
theorem dX9_told_58 : decode cX9_told 58 = .ok (.aload_n 0, 1) := by decide +kernel
theorem dX9_told_59 : decode cX9_told 59 = .ok (.getfield 10, 3) := by decide +kernel
theorem dX9_told_62 : decode cX9_told 62 = .ok (.getfield 103, 3) := by decide +kernel
theorem dX9_told_65 : decode cX9_told 65 = .ok (.iload_n 1, 1) := by decide +kernel
theorem dX9_told_66 : decode cX9_told 66 = .ok (.iaload, 1) := by decide +kernel
theorem dX9_told_67 : decode cX9_told 67 = .ok (.ireturn, 1) := by decide +kernel
theorem dX9_told_68 : decode cX9_told 68 = .ok (.aload_n 0, 1) := by decide +kernel
theorem dX9_told_69 : decode cX9_told 69 = .ok (.getfield 10, 3) := by decide +kernel
theorem dX9_told_72 : decode cX9_told 72 = .ok (.getfield 106, 3) := by decide +kernel
theorem dX9_told_75 : decode cX9_told 75 = .ok (.iload_n 1, 1) := by decide +kernel
theorem dX9_told_76 : decode cX9_told 76 = .ok (.iaload, 1) := by decide +kernel
theorem dX9_told_77 : decode cX9_told 77 = .ok (.ireturn, 1) := by decide +kernel
theorem dX9_told_78 : decode cX9_told 78 = .ok (.aload_n 0, 1) := by decide +kernel
theorem dX9_told_79 : decode cX9_told 79 = .ok (.getfield 10, 3) := by decide +kernel
theorem dX9_told_82 : decode cX9_told 82 = .ok (.getfield 109, 3) := by decide +kernel
theorem dX9_told_85 : decode cX9_told 85 = .ok (.iload_n 1, 1) := by decide +kernel
theorem dX9_told_86 : decode cX9_told 86 = .ok (.iaload, 1) := by decide +kernel
theorem dX9_told_87 : decode cX9_told 87 = .ok (.ireturn, 1) := by decide +kernel
theorem dX9_told_88 : decode cX9_told 88 = .ok (.aload_n 0, 1) := by decide +kernel
theorem dX9_told_89 : decode cX9_told 89 = .ok (.getfield 10, 3) := by decide +kernel
theorem dX9_told_92 : decode cX9_told 92 = .ok (.getfield 94, 3) := by decide +kernel
theorem dX9_told_95 : decode cX9_told 95 = .ok (.iload_n 1, 1) := by decide +kernel
theorem dX9_told_96 : decode cX9_told 96 = .ok (.iaload, 1) := by decide +kernel
theorem dX9_told_97 : decode cX9_told 97 = .ok (.ireturn, 1) := by decide +kernel
theorem dX9_told_98 : decode cX9_told 98 = .ok (.ldc 72, 2) := by decide +kernel
theorem dX9_told_100 : decode cX9_told 100 = .ok (.ireturn, 1) := by decide +kernel
theorem dX9_known_0 : decode cX9_known 0 = .ok (.aload_n 0, 1) := by decide +kernel
theorem dX9_known_1 : decode cX9_known 1 = .ok (.iload_n 1, 1) := by decide +kernel
theorem dX9_known_2 : decode cX9_known 2 = .ok (.invokevirtual 112, 3) := by decide +kernel
theorem dX9_known_5 : decode cX9_known 5 = .ok (.ifCond .eq 10, 3) := by decide +kernel
theorem dX9_known_8 : decode cX9_known 8 = .ok (.iload_n 2, 1) := by decide +kernel
theorem dX9_known_9 : decode cX9_known 9 = .ok (.invokestatic 68, 3) := by decide +kernel
theorem dX9_known_12 : decode cX9_known 12 = .ok (.ifCond .ne 6, 3) := by decide +kernel
theorem dX9_known_15 : decode cX9_known 15 = .ok (.ldc 72, 2) := by decide +kernel
theorem dX9_known_17 : decode cX9_known 17 = .ok (.ireturn, 1) := by decide +kernel
theorem dX9_known_18 : decode cX9_known 18 = .ok (.iload_n 3, 1) := by decide +kernel
theorem dX9_known_19 : decode cX9_known 19 = .ok (.tableswitch 55 0 2 #[25, 35, 45], 25) := by decide +kernel
theorem dX9_known_44 : decode cX9_known 44 = .ok (.aload_n 0, 1) := by decide +kernel
theorem dX9_known_45 : decode cX9_known 45 = .ok (.getfield 10, 3) := by decide +kernel
theorem dX9_known_48 : decode cX9_known 48 = .ok (.iload_n 1, 1) := by decide +kernel
theorem dX9_known_49 : decode cX9_known 49 = .ok (.iload_n 2, 1) := by decide +kernel
theorem dX9_known_50 : decode cX9_known 50 = .ok (.invokevirtual 115, 3) := by decide +kernel
theorem dX9_known_53 : decode cX9_known 53 = .ok (.ireturn, 1) := by decide +kernel
theorem dX9_known_54 : decode cX9_known 54 = .ok (.aload_n 0, 1) := by decide +kernel
theorem dX9_known_55 : decode cX9_known 55 = .ok (.getfield 10, 3) := by decide +kernel
theorem dX9_known_58 : decode cX9_known 58 = .ok (.iload_n 1, 1) := by decide +kernel
theorem dX9_known_59 : decode cX9_known 59 = .ok (.iload_n 2, 1) := by decide +kernel
theorem dX9_known_60 : decode cX9_known 60 = .ok (.invokevirtual 119, 3) := by decide +kernel
theorem dX9_known_63 : decode cX9_known 63 = .ok (.ireturn, 1) := by decide +kernel
theorem dX9_known_64 : decode cX9_known 64 = .ok (.aload_n 0, 1) := by decide +kernel
theorem dX9_known_65 : decode cX9_known 65 = .ok (.getfield 10, 3) := by decide +kernel
theorem dX9_known_68 : decode cX9_known 68 = .ok (.iload_n 1, 1) := by decide +kernel
theorem dX9_known_69 : decode cX9_known 69 = .ok (.iload_n 2, 1) := by decide +kernel
theorem dX9_known_70 : decode cX9_known 70 = .ok (.invokevirtual 122, 3) := by decide +kernel
theorem dX9_known_73 : decode cX9_known 73 = .ok (.ireturn, 1) := by decide +kernel
theorem dX9_known_74 : decode cX9_known 74 = .ok (.ldc 72, 2) := by decide +kernel
theorem dX9_known_76 : decode cX9_known 76 = .ok (.ireturn, 1) := by decide +kernel
theorem dX9_school_0 : decode cX9_school 0 = .ok (.iload_n 1, 1) := by decide +kernel
theorem dX9_school_1 : decode cX9_school 1 = .ok (.invokestatic 68, 3) := by decide +kernel
theorem dX9_school_4 : decode cX9_school 4 = .ok (.ifCond .ne 6, 3) := by decide +kernel
theorem dX9_school_7 : decode cX9_school 7 = .ok (.ldc 72, 2) := by decide +kernel
theorem dX9_school_9 : decode cX9_school 9 = .ok (.ireturn, 1) := by decide +kernel
theorem dX9_school_10 : decode cX9_school 10 = .ok (.iload_n 2, 1) := by decide +kernel
theorem dX9_school_11 : decode cX9_school 11 = .ok (.ldc 98, 2) := by decide +kernel
theorem dX9_school_13 : decode cX9_school 13 = .ok (.if_icmp .eq 13, 3) := by decide +kernel
theorem dX9_school_16 : decode cX9_school 16 = .ok (.iload_n 2, 1) := by decide +kernel
theorem dX9_school_17 : decode cX9_school 17 = .ok (.invokestatic 125, 3) := by decide +kernel
theorem dX9_school_20 : decode cX9_school 20 = .ok (.ifCond .ne 6, 3) := by decide +kernel
theorem dX9_school_23 : decode cX9_school 23 = .ok (.ldc 72, 2) := by decide +kernel
theorem dX9_school_25 : decode cX9_school 25 = .ok (.ireturn, 1) := by decide +kernel
theorem dX9_school_26 : decode cX9_school 26 = .ok (.aload_n 0, 1) := by decide +kernel
theorem dX9_school_27 : decode cX9_school 27 = .ok (.getfield 42, 3) := by decide +kernel
theorem dX9_school_30 : decode cX9_school 30 = .ok (.getfield 128, 3) := by decide +kernel
theorem dX9_school_33 : decode cX9_school 33 = .ok (.iload_n 1, 1) := by decide +kernel
theorem dX9_school_34 : decode cX9_school 34 = .ok (.iaload, 1) := by decide +kernel
theorem dX9_school_35 : decode cX9_school 35 = .ok (.istore_n 3, 1) := by decide +kernel
theorem dX9_school_36 : decode cX9_school 36 = .ok (.aload_n 0, 1) := by decide +kernel
theorem dX9_school_37 : decode cX9_school 37 = .ok (.getfield 42, 3) := by decide +kernel
theorem dX9_school_40 : decode cX9_school 40 = .ok (.getfield 128, 3) := by decide +kernel
theorem dX9_school_43 : decode cX9_school 43 = .ok (.iload_n 1, 1) := by decide +kernel
theorem dX9_school_44 : decode cX9_school 44 = .ok (.iload_n 2, 1) := by decide +kernel
theorem dX9_school_45 : decode cX9_school 45 = .ok (.iastore, 1) := by decide +kernel
theorem dX9_school_46 : decode cX9_school 46 = .ok (.iload_n 3, 1) := by decide +kernel
theorem dX9_school_47 : decode cX9_school 47 = .ok (.ireturn, 1) := by decide +kernel
theorem dX9_nights_0 : decode cX9_nights 0 = .ok (.iload_n 1, 1) := by decide +kernel
theorem dX9_nights_1 : decode cX9_nights 1 = .ok (.invokestatic 68, 3) := by decide +kernel
theorem dX9_nights_4 : decode cX9_nights 4 = .ok (.ifCond .ne 6, 3) := by decide +kernel
theorem dX9_nights_7 : decode cX9_nights 7 = .ok (.ldc 72, 2) := by decide +kernel
theorem dX9_nights_9 : decode cX9_nights 9 = .ok (.ireturn, 1) := by decide +kernel
theorem dX9_nights_10 : decode cX9_nights 10 = .ok (.iload_n 2, 1) := by decide +kernel
theorem dX9_nights_11 : decode cX9_nights 11 = .ok (.tableswitch 60 0 2 #[25, 34, 43], 25) := by decide +kernel
theorem dX9_nights_36 : decode cX9_nights 36 = .ok (.aload_n 0, 1) := by decide +kernel
theorem dX9_nights_37 : decode cX9_nights 37 = .ok (.getfield 42, 3) := by decide +kernel
theorem dX9_nights_40 : decode cX9_nights 40 = .ok (.iload_n 1, 1) := by decide +kernel
theorem dX9_nights_41 : decode cX9_nights 41 = .ok (.invokevirtual 131, 3) := by decide +kernel
theorem dX9_nights_44 : decode cX9_nights 44 = .ok (.ireturn, 1) := by decide +kernel
theorem dX9_nights_45 : decode cX9_nights 45 = .ok (.aload_n 0, 1) := by decide +kernel
theorem dX9_nights_46 : decode cX9_nights 46 = .ok (.getfield 42, 3) := by decide +kernel
theorem dX9_nights_49 : decode cX9_nights 49 = .ok (.iload_n 1, 1) := by decide +kernel
theorem dX9_nights_50 : decode cX9_nights 50 = .ok (.invokevirtual 135, 3) := by decide +kernel
theorem dX9_nights_53 : decode cX9_nights 53 = .ok (.ireturn, 1) := by decide +kernel
theorem dX9_nights_54 : decode cX9_nights 54 = .ok (.aload_n 0, 1) := by decide +kernel
theorem dX9_nights_55 : decode cX9_nights 55 = .ok (.getfield 42, 3) := by decide +kernel
theorem dX9_nights_58 : decode cX9_nights 58 = .ok (.iload_n 1, 1) := by decide +kernel
theorem dX9_nights_59 : decode cX9_nights 59 = .ok (.invokevirtual 138, 3) := by decide +kernel
theorem dX9_nights_62 : decode cX9_nights 62 = .ok (.ifCond .eq 7, 3) := by decide +kernel
theorem dX9_nights_65 : decode cX9_nights 65 = .ok (.iconst 1, 1) := by decide +kernel
theorem dX9_nights_66 : decode cX9_nights 66 = .ok (.goto 4, 3) := by decide +kernel
theorem dX9_nights_69 : decode cX9_nights 69 = .ok (.iconst 0, 1) := by decide +kernel
theorem dX9_nights_70 : decode cX9_nights 70 = .ok (.ireturn, 1) := by decide +kernel
theorem dX9_nights_71 : decode cX9_nights 71 = .ok (.ldc 72, 2) := by decide +kernel
theorem dX9_nights_73 : decode cX9_nights 73 = .ok (.ireturn, 1) := by decide +kernel
theorem dX9_feed_0 : decode cX9_feed 0 = .ok (.aload_n 0, 1) := by decide +kernel
theorem dX9_feed_1 : decode cX9_feed 1 = .ok (.getfield 19, 3) := by decide +kernel
theorem dX9_feed_4 : decode cX9_feed 4 = .ok (.getfield 141, 3) := by decide +kernel
theorem dX9_feed_7 : decode cX9_feed 7 = .ok (.bipush 12, 2) := by decide +kernel
theorem dX9_feed_9 : decode cX9_feed 9 = .ok (.iadd, 1) := by decide +kernel
theorem dX9_feed_10 : decode cX9_feed 10 = .ok (.bipush 72, 2) := by decide +kernel
theorem dX9_feed_12 : decode cX9_feed 12 = .ok (.if_icmp .le 6, 3) := by decide +kernel
theorem dX9_feed_15 : decode cX9_feed 15 = .ok (.ldc 77, 2) := by decide +kernel
theorem dX9_feed_17 : decode cX9_feed 17 = .ok (.ireturn, 1) := by decide +kernel
theorem dX9_feed_18 : decode cX9_feed 18 = .ok (.aload_n 0, 1) := by decide +kernel
theorem dX9_feed_19 : decode cX9_feed 19 = .ok (.getfield 19, 3) := by decide +kernel
theorem dX9_feed_22 : decode cX9_feed 22 = .ok (.iload_n 1, 1) := by decide +kernel
theorem dX9_feed_23 : decode cX9_feed 23 = .ok (.invokevirtual 142, 3) := by decide +kernel
theorem dX9_feed_26 : decode cX9_feed 26 = .ok (.aload_n 0, 1) := by decide +kernel
theorem dX9_feed_27 : decode cX9_feed 27 = .ok (.getfield 19, 3) := by decide +kernel
theorem dX9_feed_30 : decode cX9_feed 30 = .ok (.iload_n 2, 1) := by decide +kernel
theorem dX9_feed_31 : decode cX9_feed 31 = .ok (.invokevirtual 142, 3) := by decide +kernel
theorem dX9_feed_34 : decode cX9_feed 34 = .ok (.aload_n 0, 1) := by decide +kernel
theorem dX9_feed_35 : decode cX9_feed 35 = .ok (.getfield 19, 3) := by decide +kernel
theorem dX9_feed_38 : decode cX9_feed 38 = .ok (.iload_n 3, 1) := by decide +kernel
theorem dX9_feed_39 : decode cX9_feed 39 = .ok (.invokevirtual 142, 3) := by decide +kernel
theorem dX9_feed_42 : decode cX9_feed 42 = .ok (.aload_n 0, 1) := by decide +kernel
theorem dX9_feed_43 : decode cX9_feed 43 = .ok (.getfield 19, 3) := by decide +kernel
theorem dX9_feed_46 : decode cX9_feed 46 = .ok (.getfield 141, 3) := by decide +kernel
theorem dX9_feed_49 : decode cX9_feed 49 = .ok (.ireturn, 1) := by decide +kernel
theorem dX9_trim_0 : decode cX9_trim 0 = .ok (.iload_n 1, 1) := by decide +kernel
theorem dX9_trim_1 : decode cX9_trim 1 = .ok (.ifCond .lt 14, 3) := by decide +kernel
theorem dX9_trim_4 : decode cX9_trim 4 = .ok (.iload_n 1, 1) := by decide +kernel
theorem dX9_trim_5 : decode cX9_trim 5 = .ok (.aload_n 0, 1) := by decide +kernel
theorem dX9_trim_6 : decode cX9_trim 6 = .ok (.getfield 19, 3) := by decide +kernel
theorem dX9_trim_9 : decode cX9_trim 9 = .ok (.getfield 141, 3) := by decide +kernel
theorem dX9_trim_12 : decode cX9_trim 12 = .ok (.if_icmp .le 6, 3) := by decide +kernel
theorem dX9_trim_15 : decode cX9_trim 15 = .ok (.ldc 72, 2) := by decide +kernel
theorem dX9_trim_17 : decode cX9_trim 17 = .ok (.ireturn, 1) := by decide +kernel
theorem dX9_trim_18 : decode cX9_trim 18 = .ok (.aload_n 0, 1) := by decide +kernel
theorem dX9_trim_19 : decode cX9_trim 19 = .ok (.getfield 19, 3) := by decide +kernel
theorem dX9_trim_22 : decode cX9_trim 22 = .ok (.iload_n 1, 1) := by decide +kernel
theorem dX9_trim_23 : decode cX9_trim 23 = .ok (.putfield 141, 3) := by decide +kernel
theorem dX9_trim_26 : decode cX9_trim 26 = .ok (.iload_n 1, 1) := by decide +kernel
theorem dX9_trim_27 : decode cX9_trim 27 = .ok (.ireturn, 1) := by decide +kernel
theorem dX9_law_0 : decode cX9_law 0 = .ok (.iload_n 1, 1) := by decide +kernel
theorem dX9_law_1 : decode cX9_law 1 = .ok (.invokestatic 68, 3) := by decide +kernel
theorem dX9_law_4 : decode cX9_law 4 = .ok (.ifCond .eq 11, 3) := by decide +kernel
theorem dX9_law_7 : decode cX9_law 7 = .ok (.aload_n 0, 1) := by decide +kernel
theorem dX9_law_8 : decode cX9_law 8 = .ok (.iload_n 1, 1) := by decide +kernel
theorem dX9_law_9 : decode cX9_law 9 = .ok (.invokevirtual 146, 3) := by decide +kernel
theorem dX9_law_12 : decode cX9_law 12 = .ok (.goto 5, 3) := by decide +kernel
theorem dX9_law_15 : decode cX9_law 15 = .ok (.ldc 72, 2) := by decide +kernel
theorem dX9_law_17 : decode cX9_law 17 = .ok (.istore_n 2, 1) := by decide +kernel
theorem dX9_law_18 : decode cX9_law 18 = .ok (.aload_n 0, 1) := by decide +kernel
theorem dX9_law_19 : decode cX9_law 19 = .ok (.getfield 19, 3) := by decide +kernel
theorem dX9_law_22 : decode cX9_law 22 = .ok (.iconst 0, 1) := by decide +kernel
theorem dX9_law_23 : decode cX9_law 23 = .ok (.putfield 141, 3) := by decide +kernel
theorem dX9_law_26 : decode cX9_law 26 = .ok (.iload_n 2, 1) := by decide +kernel
theorem dX9_law_27 : decode cX9_law 27 = .ok (.ireturn, 1) := by decide +kernel
theorem dX9_addLaw_0 : decode cX9_addLaw 0 = .ok (.aload_n 0, 1) := by decide +kernel
theorem dX9_addLaw_1 : decode cX9_addLaw 1 = .ok (.getfield 35, 3) := by decide +kernel
theorem dX9_addLaw_4 : decode cX9_addLaw 4 = .ok (.getfield 149, 3) := by decide +kernel
theorem dX9_addLaw_7 : decode cX9_addLaw 7 = .ok (.aload_n 0, 1) := by decide +kernel
theorem dX9_addLaw_8 : decode cX9_addLaw 8 = .ok (.getfield 35, 3) := by decide +kernel
theorem dX9_addLaw_11 : decode cX9_addLaw 11 = .ok (.getfield 153, 3) := by decide +kernel
theorem dX9_addLaw_14 : decode cX9_addLaw 14 = .ok (.aaload, 1) := by decide +kernel
theorem dX9_addLaw_15 : decode cX9_addLaw 15 = .ok (.astore_n 2, 1) := by decide +kernel
theorem dX9_addLaw_16 : decode cX9_addLaw 16 = .ok (.aload_n 0, 1) := by decide +kernel
theorem dX9_addLaw_17 : decode cX9_addLaw 17 = .ok (.getfield 28, 3) := by decide +kernel
theorem dX9_addLaw_20 : decode cX9_addLaw 20 = .ok (.aload_n 2, 1) := by decide +kernel
theorem dX9_addLaw_21 : decode cX9_addLaw 21 = .ok (.invokevirtual 154, 3) := by decide +kernel
theorem dX9_addLaw_24 : decode cX9_addLaw 24 = .ok (.istore_n 3, 1) := by decide +kernel
theorem dX9_addLaw_25 : decode cX9_addLaw 25 = .ok (.iload_n 3, 1) := by decide +kernel
theorem dX9_addLaw_26 : decode cX9_addLaw 26 = .ok (.ldc 98, 2) := by decide +kernel
theorem dX9_addLaw_28 : decode cX9_addLaw 28 = .ok (.if_icmp .eq 8, 3) := by decide +kernel
theorem dX9_addLaw_31 : decode cX9_addLaw 31 = .ok (.bipush (-100), 2) := by decide +kernel
theorem dX9_addLaw_33 : decode cX9_addLaw 33 = .ok (.iload_n 3, 1) := by decide +kernel
theorem dX9_addLaw_34 : decode cX9_addLaw 34 = .ok (.isub, 1) := by decide +kernel
theorem dX9_addLaw_35 : decode cX9_addLaw 35 = .ok (.ireturn, 1) := by decide +kernel
theorem dX9_addLaw_36 : decode cX9_addLaw 36 = .ok (.aload_n 0, 1) := by decide +kernel
theorem dX9_addLaw_37 : decode cX9_addLaw 37 = .ok (.getfield 35, 3) := by decide +kernel
theorem dX9_addLaw_40 : decode cX9_addLaw 40 = .ok (.getfield 153, 3) := by decide +kernel
theorem dX9_addLaw_43 : decode cX9_addLaw 43 = .ok (.bipush 8, 2) := by decide +kernel
theorem dX9_addLaw_45 : decode cX9_addLaw 45 = .ok (.if_icmp .ne 6, 3) := by decide +kernel
theorem dX9_addLaw_48 : decode cX9_addLaw 48 = .ok (.ldc 77, 2) := by decide +kernel
theorem dX9_addLaw_50 : decode cX9_addLaw 50 = .ok (.ireturn, 1) := by decide +kernel
theorem dX9_addLaw_51 : decode cX9_addLaw 51 = .ok (.aload_n 2, 1) := by decide +kernel
theorem dX9_addLaw_52 : decode cX9_addLaw 52 = .ok (.iload_n 1, 1) := by decide +kernel
theorem dX9_addLaw_53 : decode cX9_addLaw 53 = .ok (.putfield 158, 3) := by decide +kernel
theorem dX9_addLaw_56 : decode cX9_addLaw 56 = .ok (.aload_n 0, 1) := by decide +kernel
theorem dX9_addLaw_57 : decode cX9_addLaw 57 = .ok (.getfield 35, 3) := by decide +kernel
theorem dX9_addLaw_60 : decode cX9_addLaw 60 = .ok (.dup, 1) := by decide +kernel
theorem dX9_addLaw_61 : decode cX9_addLaw 61 = .ok (.getfield 153, 3) := by decide +kernel
theorem dX9_addLaw_64 : decode cX9_addLaw 64 = .ok (.iconst 1, 1) := by decide +kernel
theorem dX9_addLaw_65 : decode cX9_addLaw 65 = .ok (.iadd, 1) := by decide +kernel
theorem dX9_addLaw_66 : decode cX9_addLaw 66 = .ok (.putfield 153, 3) := by decide +kernel
theorem dX9_addLaw_69 : decode cX9_addLaw 69 = .ok (.aload_n 0, 1) := by decide +kernel
theorem dX9_addLaw_70 : decode cX9_addLaw 70 = .ok (.getfield 35, 3) := by decide +kernel
theorem dX9_addLaw_73 : decode cX9_addLaw 73 = .ok (.getfield 153, 3) := by decide +kernel
theorem dX9_addLaw_76 : decode cX9_addLaw 76 = .ok (.iconst 1, 1) := by decide +kernel
theorem dX9_addLaw_77 : decode cX9_addLaw 77 = .ok (.isub, 1) := by decide +kernel
theorem dX9_addLaw_78 : decode cX9_addLaw 78 = .ok (.ireturn, 1) := by decide +kernel
theorem dX9_inForce_0 : decode cX9_inForce 0 = .ok (.iload_n 1, 1) := by decide +kernel
theorem dX9_inForce_1 : decode cX9_inForce 1 = .ok (.invokestatic 68, 3) := by decide +kernel
theorem dX9_inForce_4 : decode cX9_inForce 4 = .ok (.ifCond .ne 6, 3) := by decide +kernel
theorem dX9_inForce_7 : decode cX9_inForce 7 = .ok (.ldc 72, 2) := by decide +kernel
theorem dX9_inForce_9 : decode cX9_inForce 9 = .ok (.ireturn, 1) := by decide +kernel
theorem dX9_inForce_10 : decode cX9_inForce 10 = .ok (.aload_n 0, 1) := by decide +kernel
theorem dX9_inForce_11 : decode cX9_inForce 11 = .ok (.getfield 35, 3) := by decide +kernel
theorem dX9_inForce_14 : decode cX9_inForce 14 = .ok (.iload_n 1, 1) := by decide +kernel
theorem dX9_inForce_15 : decode cX9_inForce 15 = .ok (.invokevirtual 163, 3) := by decide +kernel
theorem dX9_inForce_18 : decode cX9_inForce 18 = .ok (.ireturn, 1) := by decide +kernel
theorem dX9_sum_0 : decode cX9_sum 0 = .ok (.iload_n 1, 1) := by decide +kernel
theorem dX9_sum_1 : decode cX9_sum 1 = .ok (.invokestatic 68, 3) := by decide +kernel
theorem dX9_sum_4 : decode cX9_sum 4 = .ok (.ifCond .eq 18, 3) := by decide +kernel
theorem dX9_sum_7 : decode cX9_sum 7 = .ok (.iload_n 2, 1) := by decide +kernel
theorem dX9_sum_8 : decode cX9_sum 8 = .ok (.invokestatic 125, 3) := by decide +kernel
theorem dX9_sum_11 : decode cX9_sum 11 = .ok (.ifCond .eq 11, 3) := by decide +kernel
theorem dX9_sum_14 : decode cX9_sum 14 = .ok (.aload_n 0, 1) := by decide +kernel
theorem dX9_sum_15 : decode cX9_sum 15 = .ok (.iload_n 3, 1) := by decide +kernel
theorem dX9_sum_16 : decode cX9_sum 16 = .ok (.invokevirtual 112, 3) := by decide +kernel
theorem dX9_sum_19 : decode cX9_sum 19 = .ok (.ifCond .ne 6, 3) := by decide +kernel
theorem dX9_sum_22 : decode cX9_sum 22 = .ok (.ldc 72, 2) := by decide +kernel
theorem dX9_sum_24 : decode cX9_sum 24 = .ok (.ireturn, 1) := by decide +kernel
theorem dX9_sum_25 : decode cX9_sum 25 = .ok (.aload_n 0, 1) := by decide +kernel
theorem dX9_sum_26 : decode cX9_sum 26 = .ok (.iload_n 1, 1) := by decide +kernel
theorem dX9_sum_27 : decode cX9_sum 27 = .ok (.iload_n 2, 1) := by decide +kernel
theorem dX9_sum_28 : decode cX9_sum 28 = .ok (.iload_n 3, 1) := by decide +kernel
theorem dX9_sum_29 : decode cX9_sum 29 = .ok (.invokevirtual 166, 3) := by decide +kernel
theorem dX9_sum_32 : decode cX9_sum 32 = .ok (.ireturn, 1) := by decide +kernel
theorem dX9_due_0 : decode cX9_due 0 = .ok (.iload_n 1, 1) := by decide +kernel
theorem dX9_due_1 : decode cX9_due 1 = .ok (.invokestatic 68, 3) := by decide +kernel
theorem dX9_due_4 : decode cX9_due 4 = .ok (.ifCond .eq 19, 3) := by decide +kernel
theorem dX9_due_7 : decode cX9_due 7 = .ok (.iload_n 2, 1) := by decide +kernel
theorem dX9_due_8 : decode cX9_due 8 = .ok (.iconst 2, 1) := by decide +kernel
theorem dX9_due_9 : decode cX9_due 9 = .ok (.invokestatic 88, 3) := by decide +kernel
theorem dX9_due_12 : decode cX9_due 12 = .ok (.ifCond .eq 11, 3) := by decide +kernel
theorem dX9_due_15 : decode cX9_due 15 = .ok (.aload_n 0, 1) := by decide +kernel
theorem dX9_due_16 : decode cX9_due 16 = .ok (.iload_n 3, 1) := by decide +kernel
theorem dX9_due_17 : decode cX9_due 17 = .ok (.invokevirtual 112, 3) := by decide +kernel
theorem dX9_due_20 : decode cX9_due 20 = .ok (.ifCond .ne 6, 3) := by decide +kernel
theorem dX9_due_23 : decode cX9_due 23 = .ok (.ldc 72, 2) := by decide +kernel
theorem dX9_due_25 : decode cX9_due 25 = .ok (.ireturn, 1) := by decide +kernel
theorem dX9_due_26 : decode cX9_due 26 = .ok (.aload_n 0, 1) := by decide +kernel
theorem dX9_due_27 : decode cX9_due 27 = .ok (.iload_n 1, 1) := by decide +kernel
theorem dX9_due_28 : decode cX9_due 28 = .ok (.iload_n 2, 1) := by decide +kernel
theorem dX9_due_29 : decode cX9_due 29 = .ok (.iload_n 3, 1) := by decide +kernel
theorem dX9_due_30 : decode cX9_due 30 = .ok (.invokevirtual 170, 3) := by decide +kernel
theorem dX9_due_33 : decode cX9_due 33 = .ok (.ireturn, 1) := by decide +kernel
theorem dX9_edge_0 : decode cX9_edge 0 = .ok (.iload_n 1, 1) := by decide +kernel
theorem dX9_edge_1 : decode cX9_edge 1 = .ok (.invokestatic 68, 3) := by decide +kernel
theorem dX9_edge_4 : decode cX9_edge 4 = .ok (.ifCond .eq 12, 3) := by decide +kernel
theorem dX9_edge_7 : decode cX9_edge 7 = .ok (.iload_n 2, 1) := by decide +kernel
theorem dX9_edge_8 : decode cX9_edge 8 = .ok (.bipush 7, 2) := by decide +kernel
theorem dX9_edge_10 : decode cX9_edge 10 = .ok (.invokestatic 88, 3) := by decide +kernel
theorem dX9_edge_13 : decode cX9_edge 13 = .ok (.ifCond .ne 6, 3) := by decide +kernel
theorem dX9_edge_16 : decode cX9_edge 16 = .ok (.ldc 72, 2) := by decide +kernel
theorem dX9_edge_18 : decode cX9_edge 18 = .ok (.ireturn, 1) := by decide +kernel
theorem dX9_edge_19 : decode cX9_edge 19 = .ok (.aload_n 0, 1) := by decide +kernel
theorem dX9_edge_20 : decode cX9_edge 20 = .ok (.iload_n 1, 1) := by decide +kernel
theorem dX9_edge_21 : decode cX9_edge 21 = .ok (.iload_n 2, 1) := by decide +kernel
theorem dX9_edge_22 : decode cX9_edge 22 = .ok (.aload_n 0, 1) := by decide +kernel
theorem dX9_edge_23 : decode cX9_edge 23 = .ok (.getfield 78, 3) := by decide +kernel
theorem dX9_edge_26 : decode cX9_edge 26 = .ok (.invokevirtual 166, 3) := by decide +kernel
theorem dX9_edge_29 : decode cX9_edge 29 = .ok (.aload_n 0, 1) := by decide +kernel
theorem dX9_edge_30 : decode cX9_edge 30 = .ok (.iload_n 1, 1) := by decide +kernel
theorem dX9_edge_31 : decode cX9_edge 31 = .ok (.iload_n 2, 1) := by decide +kernel
theorem dX9_edge_32 : decode cX9_edge 32 = .ok (.iconst 1, 1) := by decide +kernel
theorem dX9_edge_33 : decode cX9_edge 33 = .ok (.iadd, 1) := by decide +kernel
theorem dX9_edge_34 : decode cX9_edge 34 = .ok (.aload_n 0, 1) := by decide +kernel
theorem dX9_edge_35 : decode cX9_edge 35 = .ok (.getfield 78, 3) := by decide +kernel
theorem dX9_edge_38 : decode cX9_edge 38 = .ok (.invokevirtual 166, 3) := by decide +kernel
theorem dX9_edge_41 : decode cX9_edge 41 = .ok (.isub, 1) := by decide +kernel
theorem dX9_edge_42 : decode cX9_edge 42 = .ok (.ireturn, 1) := by decide +kernel
theorem dX9_sumOf_0 : decode cX9_sumOf 0 = .ok (.aload_n 0, 1) := by decide +kernel
theorem dX9_sumOf_1 : decode cX9_sumOf 1 = .ok (.getfield 35, 3) := by decide +kernel
theorem dX9_sumOf_4 : decode cX9_sumOf 4 = .ok (.iload_n 1, 1) := by decide +kernel
theorem dX9_sumOf_5 : decode cX9_sumOf 5 = .ok (.invokevirtual 163, 3) := by decide +kernel
theorem dX9_sumOf_8 : decode cX9_sumOf 8 = .ok (.istore 4, 2) := by decide +kernel
theorem dX9_sumOf_10 : decode cX9_sumOf 10 = .ok (.iload 4, 2) := by decide +kernel
theorem dX9_sumOf_12 : decode cX9_sumOf 12 = .ok (.ldc 98, 2) := by decide +kernel
theorem dX9_sumOf_14 : decode cX9_sumOf 14 = .ok (.if_icmp .ne 5, 3) := by decide +kernel
theorem dX9_sumOf_17 : decode cX9_sumOf 17 = .ok (.iconst 0, 1) := by decide +kernel
theorem dX9_sumOf_18 : decode cX9_sumOf 18 = .ok (.ireturn, 1) := by decide +kernel
theorem dX9_sumOf_19 : decode cX9_sumOf 19 = .ok (.aload_n 0, 1) := by decide +kernel
theorem dX9_sumOf_20 : decode cX9_sumOf 20 = .ok (.getfield 10, 3) := by decide +kernel
theorem dX9_sumOf_23 : decode cX9_sumOf 23 = .ok (.iload_n 3, 1) := by decide +kernel
theorem dX9_sumOf_24 : decode cX9_sumOf 24 = .ok (.iload_n 1, 1) := by decide +kernel
theorem dX9_sumOf_25 : decode cX9_sumOf 25 = .ok (.invokevirtual 119, 3) := by decide +kernel
theorem dX9_sumOf_28 : decode cX9_sumOf 28 = .ok (.istore 5, 2) := by decide +kernel
theorem dX9_sumOf_30 : decode cX9_sumOf 30 = .ok (.iload 5, 2) := by decide +kernel
theorem dX9_sumOf_32 : decode cX9_sumOf 32 = .ok (.ifCond .ne 5, 3) := by decide +kernel
theorem dX9_sumOf_35 : decode cX9_sumOf 35 = .ok (.iconst 0, 1) := by decide +kernel
theorem dX9_sumOf_36 : decode cX9_sumOf 36 = .ok (.ireturn, 1) := by decide +kernel
theorem dX9_sumOf_37 : decode cX9_sumOf 37 = .ok (.aload_n 0, 1) := by decide +kernel
theorem dX9_sumOf_38 : decode cX9_sumOf 38 = .ok (.getfield 35, 3) := by decide +kernel
theorem dX9_sumOf_41 : decode cX9_sumOf 41 = .ok (.getfield 149, 3) := by decide +kernel
theorem dX9_sumOf_44 : decode cX9_sumOf 44 = .ok (.iload 4, 2) := by decide +kernel
theorem dX9_sumOf_46 : decode cX9_sumOf 46 = .ok (.aaload, 1) := by decide +kernel
theorem dX9_sumOf_47 : decode cX9_sumOf 47 = .ok (.astore 6, 2) := by decide +kernel
theorem dX9_sumOf_49 : decode cX9_sumOf 49 = .ok (.aload 6, 2) := by decide +kernel
theorem dX9_sumOf_51 : decode cX9_sumOf 51 = .ok (.aload_n 0, 1) := by decide +kernel
theorem dX9_sumOf_52 : decode cX9_sumOf 52 = .ok (.getfield 10, 3) := by decide +kernel
theorem dX9_sumOf_55 : decode cX9_sumOf 55 = .ok (.iload_n 3, 1) := by decide +kernel
theorem dX9_sumOf_56 : decode cX9_sumOf 56 = .ok (.iload_n 1, 1) := by decide +kernel
theorem dX9_sumOf_57 : decode cX9_sumOf 57 = .ok (.invokevirtual 115, 3) := by decide +kernel
theorem dX9_sumOf_60 : decode cX9_sumOf 60 = .ok (.aload_n 0, 1) := by decide +kernel
theorem dX9_sumOf_61 : decode cX9_sumOf 61 = .ok (.getfield 10, 3) := by decide +kernel
theorem dX9_sumOf_64 : decode cX9_sumOf 64 = .ok (.iload_n 3, 1) := by decide +kernel
theorem dX9_sumOf_65 : decode cX9_sumOf 65 = .ok (.iload_n 1, 1) := by decide +kernel
theorem dX9_sumOf_66 : decode cX9_sumOf 66 = .ok (.invokevirtual 122, 3) := by decide +kernel
theorem dX9_sumOf_69 : decode cX9_sumOf 69 = .ok (.invokevirtual 173, 3) := by decide +kernel
theorem dX9_sumOf_72 : decode cX9_sumOf 72 = .ok (.istore 7, 2) := by decide +kernel
theorem dX9_sumOf_74 : decode cX9_sumOf 74 = .ok (.aload 6, 2) := by decide +kernel
theorem dX9_sumOf_76 : decode cX9_sumOf 76 = .ok (.aload 6, 2) := by decide +kernel
theorem dX9_sumOf_78 : decode cX9_sumOf 78 = .ok (.iload 7, 2) := by decide +kernel
theorem dX9_sumOf_80 : decode cX9_sumOf 80 = .ok (.iload 5, 2) := by decide +kernel
theorem dX9_sumOf_82 : decode cX9_sumOf 82 = .ok (.invokevirtual 176, 3) := by decide +kernel
theorem dX9_sumOf_85 : decode cX9_sumOf 85 = .ok (.iload_n 2, 1) := by decide +kernel
theorem dX9_sumOf_86 : decode cX9_sumOf 86 = .ok (.invokevirtual 179, 3) := by decide +kernel
theorem dX9_sumOf_89 : decode cX9_sumOf 89 = .ok (.ireturn, 1) := by decide +kernel
theorem dX9_dueOf_0 : decode cX9_dueOf 0 = .ok (.aload_n 0, 1) := by decide +kernel
theorem dX9_dueOf_1 : decode cX9_dueOf 1 = .ok (.getfield 60, 3) := by decide +kernel
theorem dX9_dueOf_4 : decode cX9_dueOf 4 = .ok (.iload_n 1, 1) := by decide +kernel
theorem dX9_dueOf_5 : decode cX9_dueOf 5 = .ok (.baload, 1) := by decide +kernel
theorem dX9_dueOf_6 : decode cX9_dueOf 6 = .ok (.ifCond .eq 5, 3) := by decide +kernel
theorem dX9_dueOf_9 : decode cX9_dueOf 9 = .ok (.iconst 0, 1) := by decide +kernel
theorem dX9_dueOf_10 : decode cX9_dueOf 10 = .ok (.ireturn, 1) := by decide +kernel
theorem dX9_dueOf_11 : decode cX9_dueOf 11 = .ok (.aload_n 0, 1) := by decide +kernel
theorem dX9_dueOf_12 : decode cX9_dueOf 12 = .ok (.getfield 42, 3) := by decide +kernel
theorem dX9_dueOf_15 : decode cX9_dueOf 15 = .ok (.iload_n 1, 1) := by decide +kernel
theorem dX9_dueOf_16 : decode cX9_dueOf 16 = .ok (.invokevirtual 131, 3) := by decide +kernel
theorem dX9_dueOf_19 : decode cX9_dueOf 19 = .ok (.istore 4, 2) := by decide +kernel
theorem dX9_dueOf_21 : decode cX9_dueOf 21 = .ok (.aload_n 0, 1) := by decide +kernel
theorem dX9_dueOf_22 : decode cX9_dueOf 22 = .ok (.getfield 42, 3) := by decide +kernel
theorem dX9_dueOf_25 : decode cX9_dueOf 25 = .ok (.iload_n 1, 1) := by decide +kernel
theorem dX9_dueOf_26 : decode cX9_dueOf 26 = .ok (.invokevirtual 135, 3) := by decide +kernel
theorem dX9_dueOf_29 : decode cX9_dueOf 29 = .ok (.istore 5, 2) := by decide +kernel
theorem dX9_dueOf_31 : decode cX9_dueOf 31 = .ok (.aload_n 0, 1) := by decide +kernel
theorem dX9_dueOf_32 : decode cX9_dueOf 32 = .ok (.iload_n 1, 1) := by decide +kernel
theorem dX9_dueOf_33 : decode cX9_dueOf 33 = .ok (.iload 4, 2) := by decide +kernel
theorem dX9_dueOf_35 : decode cX9_dueOf 35 = .ok (.iload_n 3, 1) := by decide +kernel
theorem dX9_dueOf_36 : decode cX9_dueOf 36 = .ok (.invokevirtual 166, 3) := by decide +kernel
theorem dX9_dueOf_39 : decode cX9_dueOf 39 = .ok (.istore 6, 2) := by decide +kernel
theorem dX9_dueOf_41 : decode cX9_dueOf 41 = .ok (.iload 4, 2) := by decide +kernel
theorem dX9_dueOf_43 : decode cX9_dueOf 43 = .ok (.iload 5, 2) := by decide +kernel
theorem dX9_dueOf_45 : decode cX9_dueOf 45 = .ok (.if_icmp .ne 6, 3) := by decide +kernel
theorem dX9_dueOf_48 : decode cX9_dueOf 48 = .ok (.iload 6, 2) := by decide +kernel
theorem dX9_dueOf_50 : decode cX9_dueOf 50 = .ok (.ireturn, 1) := by decide +kernel
theorem dX9_dueOf_51 : decode cX9_dueOf 51 = .ok (.aload_n 0, 1) := by decide +kernel
theorem dX9_dueOf_52 : decode cX9_dueOf 52 = .ok (.iload_n 1, 1) := by decide +kernel
theorem dX9_dueOf_53 : decode cX9_dueOf 53 = .ok (.iload 5, 2) := by decide +kernel
theorem dX9_dueOf_55 : decode cX9_dueOf 55 = .ok (.iload_n 3, 1) := by decide +kernel
theorem dX9_dueOf_56 : decode cX9_dueOf 56 = .ok (.invokevirtual 166, 3) := by decide +kernel
theorem dX9_dueOf_59 : decode cX9_dueOf 59 = .ok (.istore 7, 2) := by decide +kernel
theorem dX9_dueOf_61 : decode cX9_dueOf 61 = .ok (.iload_n 2, 1) := by decide +kernel
theorem dX9_dueOf_62 : decode cX9_dueOf 62 = .ok (.iconst 1, 1) := by decide +kernel
theorem dX9_dueOf_63 : decode cX9_dueOf 63 = .ok (.if_icmp .ne 13, 3) := by decide +kernel
theorem dX9_dueOf_66 : decode cX9_dueOf 66 = .ok (.iload 6, 2) := by decide +kernel
theorem dX9_dueOf_68 : decode cX9_dueOf 68 = .ok (.iload 7, 2) := by decide +kernel
theorem dX9_dueOf_70 : decode cX9_dueOf 70 = .ok (.invokestatic 182, 3) := by decide +kernel
theorem dX9_dueOf_73 : decode cX9_dueOf 73 = .ok (.goto 10, 3) := by decide +kernel
theorem dX9_dueOf_76 : decode cX9_dueOf 76 = .ok (.iload 6, 2) := by decide +kernel
theorem dX9_dueOf_78 : decode cX9_dueOf 78 = .ok (.iload 7, 2) := by decide +kernel
theorem dX9_dueOf_80 : decode cX9_dueOf 80 = .ok (.invokestatic 187, 3) := by decide +kernel
theorem dX9_dueOf_83 : decode cX9_dueOf 83 = .ok (.ireturn, 1) := by decide +kernel
theorem dX9_line_0 : decode cX9_line 0 = .ok (.aload_n 0, 1) := by decide +kernel
theorem dX9_line_1 : decode cX9_line 1 = .ok (.iload_n 1, 1) := by decide +kernel
theorem dX9_line_2 : decode cX9_line 2 = .ok (.invokevirtual 112, 3) := by decide +kernel
theorem dX9_line_5 : decode cX9_line 5 = .ok (.ifCond .eq 23, 3) := by decide +kernel
theorem dX9_line_8 : decode cX9_line 8 = .ok (.iload_n 2, 1) := by decide +kernel
theorem dX9_line_9 : decode cX9_line 9 = .ok (.iconst 1, 1) := by decide +kernel
theorem dX9_line_10 : decode cX9_line 10 = .ok (.if_icmp .lt 18, 3) := by decide +kernel
theorem dX9_line_13 : decode cX9_line 13 = .ok (.iload_n 2, 1) := by decide +kernel
theorem dX9_line_14 : decode cX9_line 14 = .ok (.ldc 190, 2) := by decide +kernel
theorem dX9_line_16 : decode cX9_line 16 = .ok (.if_icmp .gt 12, 3) := by decide +kernel
theorem dX9_line_19 : decode cX9_line 19 = .ok (.iload_n 3, 1) := by decide +kernel
theorem dX9_line_20 : decode cX9_line 20 = .ok (.bipush 10, 2) := by decide +kernel
theorem dX9_line_22 : decode cX9_line 22 = .ok (.invokestatic 88, 3) := by decide +kernel
theorem dX9_line_25 : decode cX9_line 25 = .ok (.ifCond .ne 6, 3) := by decide +kernel
theorem dX9_line_28 : decode cX9_line 28 = .ok (.ldc 72, 2) := by decide +kernel
theorem dX9_line_30 : decode cX9_line 30 = .ok (.ireturn, 1) := by decide +kernel
theorem dX9_line_31 : decode cX9_line 31 = .ok (.aload_n 0, 1) := by decide +kernel
theorem dX9_line_32 : decode cX9_line 32 = .ok (.getfield 49, 3) := by decide +kernel
theorem dX9_line_35 : decode cX9_line 35 = .ok (.getfield 191, 3) := by decide +kernel
theorem dX9_line_38 : decode cX9_line 38 = .ok (.bipush 100, 2) := by decide +kernel
theorem dX9_line_40 : decode cX9_line 40 = .ok (.if_icmp .ne 6, 3) := by decide +kernel
theorem dX9_line_43 : decode cX9_line 43 = .ok (.ldc 77, 2) := by decide +kernel
theorem dX9_line_45 : decode cX9_line 45 = .ok (.ireturn, 1) := by decide +kernel
theorem dX9_line_46 : decode cX9_line 46 = .ok (.aload_n 0, 1) := by decide +kernel
theorem dX9_line_47 : decode cX9_line 47 = .ok (.getfield 49, 3) := by decide +kernel
theorem dX9_line_50 : decode cX9_line 50 = .ok (.iload_n 1, 1) := by decide +kernel
theorem dX9_line_51 : decode cX9_line 51 = .ok (.iload_n 2, 1) := by decide +kernel
theorem dX9_line_52 : decode cX9_line 52 = .ok (.iload_n 3, 1) := by decide +kernel
theorem dX9_line_53 : decode cX9_line 53 = .ok (.invokevirtual 192, 3) := by decide +kernel
theorem dX9_line_56 : decode cX9_line 56 = .ok (.ireturn, 1) := by decide +kernel
theorem dX9_marks_0 : decode cX9_marks 0 = .ok (.iload_n 1, 1) := by decide +kernel
theorem dX9_marks_1 : decode cX9_marks 1 = .ok (.sipush 1024, 3) := by decide +kernel
theorem dX9_marks_4 : decode cX9_marks 4 = .ok (.invokestatic 88, 3) := by decide +kernel
theorem dX9_marks_7 : decode cX9_marks 7 = .ok (.ifCond .ne 6, 3) := by decide +kernel
theorem dX9_marks_10 : decode cX9_marks 10 = .ok (.ldc 72, 2) := by decide +kernel
theorem dX9_marks_12 : decode cX9_marks 12 = .ok (.ireturn, 1) := by decide +kernel
theorem dX9_marks_13 : decode cX9_marks 13 = .ok (.aload_n 0, 1) := by decide +kernel
theorem dX9_marks_14 : decode cX9_marks 14 = .ok (.getfield 49, 3) := by decide +kernel
theorem dX9_marks_17 : decode cX9_marks 17 = .ok (.getfield 194, 3) := by decide +kernel
theorem dX9_marks_20 : decode cX9_marks 20 = .ok (.istore_n 2, 1) := by decide +kernel
theorem dX9_marks_21 : decode cX9_marks 21 = .ok (.aload_n 0, 1) := by decide +kernel
theorem dX9_marks_22 : decode cX9_marks 22 = .ok (.getfield 49, 3) := by decide +kernel
theorem dX9_marks_25 : decode cX9_marks 25 = .ok (.iload_n 1, 1) := by decide +kernel
theorem dX9_marks_26 : decode cX9_marks 26 = .ok (.putfield 194, 3) := by decide +kernel
theorem dX9_marks_29 : decode cX9_marks 29 = .ok (.iload_n 2, 1) := by decide +kernel
theorem dX9_marks_30 : decode cX9_marks 30 = .ok (.ireturn, 1) := by decide +kernel
theorem dX9_paid_0 : decode cX9_paid 0 = .ok (.iload_n 1, 1) := by decide +kernel
theorem dX9_paid_1 : decode cX9_paid 1 = .ok (.invokestatic 68, 3) := by decide +kernel
theorem dX9_paid_4 : decode cX9_paid 4 = .ok (.ifCond .eq 11, 3) := by decide +kernel
theorem dX9_paid_7 : decode cX9_paid 7 = .ok (.iload_n 2, 1) := by decide +kernel
theorem dX9_paid_8 : decode cX9_paid 8 = .ok (.iconst 2, 1) := by decide +kernel
theorem dX9_paid_9 : decode cX9_paid 9 = .ok (.invokestatic 88, 3) := by decide +kernel
theorem dX9_paid_12 : decode cX9_paid 12 = .ok (.ifCond .ne 6, 3) := by decide +kernel
theorem dX9_paid_15 : decode cX9_paid 15 = .ok (.ldc 72, 2) := by decide +kernel
theorem dX9_paid_17 : decode cX9_paid 17 = .ok (.ireturn, 1) := by decide +kernel
theorem dX9_paid_18 : decode cX9_paid 18 = .ok (.aload_n 0, 1) := by decide +kernel
theorem dX9_paid_19 : decode cX9_paid 19 = .ok (.getfield 49, 3) := by decide +kernel
theorem dX9_paid_22 : decode cX9_paid 22 = .ok (.iload_n 1, 1) := by decide +kernel
theorem dX9_paid_23 : decode cX9_paid 23 = .ok (.iload_n 2, 1) := by decide +kernel
theorem dX9_paid_24 : decode cX9_paid 24 = .ok (.ifCond .ne 7, 3) := by decide +kernel
theorem dX9_paid_27 : decode cX9_paid 27 = .ok (.iconst 1, 1) := by decide +kernel
theorem dX9_paid_28 : decode cX9_paid 28 = .ok (.goto 4, 3) := by decide +kernel
theorem dX9_paid_31 : decode cX9_paid 31 = .ok (.iconst 0, 1) := by decide +kernel
theorem dX9_paid_32 : decode cX9_paid 32 = .ok (.invokevirtual 197, 3) := by decide +kernel
theorem dX9_paid_35 : decode cX9_paid 35 = .ok (.ireturn, 1) := by decide +kernel
theorem dX9_owed_0 : decode cX9_owed 0 = .ok (.iload_n 1, 1) := by decide +kernel
theorem dX9_owed_1 : decode cX9_owed 1 = .ok (.iconst 2, 1) := by decide +kernel
theorem dX9_owed_2 : decode cX9_owed 2 = .ok (.invokestatic 88, 3) := by decide +kernel
theorem dX9_owed_5 : decode cX9_owed 5 = .ok (.ifCond .eq 11, 3) := by decide +kernel
theorem dX9_owed_8 : decode cX9_owed 8 = .ok (.aload_n 0, 1) := by decide +kernel
theorem dX9_owed_9 : decode cX9_owed 9 = .ok (.iload_n 2, 1) := by decide +kernel
theorem dX9_owed_10 : decode cX9_owed 10 = .ok (.invokevirtual 112, 3) := by decide +kernel
theorem dX9_owed_13 : decode cX9_owed 13 = .ok (.ifCond .ne 6, 3) := by decide +kernel
theorem dX9_owed_16 : decode cX9_owed 16 = .ok (.ldc 72, 2) := by decide +kernel
theorem dX9_owed_18 : decode cX9_owed 18 = .ok (.ireturn, 1) := by decide +kernel
theorem dX9_owed_19 : decode cX9_owed 19 = .ok (.aload_n 0, 1) := by decide +kernel
theorem dX9_owed_20 : decode cX9_owed 20 = .ok (.iload_n 1, 1) := by decide +kernel
theorem dX9_owed_21 : decode cX9_owed 21 = .ok (.iload_n 2, 1) := by decide +kernel
theorem dX9_owed_22 : decode cX9_owed 22 = .ok (.invokevirtual 201, 3) := by decide +kernel
theorem dX9_owed_25 : decode cX9_owed 25 = .ok (.aload_n 0, 1) := by decide +kernel
theorem dX9_owed_26 : decode cX9_owed 26 = .ok (.getfield 56, 3) := by decide +kernel
theorem dX9_owed_29 : decode cX9_owed 29 = .ok (.invokevirtual 205, 3) := by decide +kernel
theorem dX9_owed_32 : decode cX9_owed 32 = .ok (.ireturn, 1) := by decide +kernel
theorem dX9_over_0 : decode cX9_over 0 = .ok (.iload_n 1, 1) := by decide +kernel
theorem dX9_over_1 : decode cX9_over 1 = .ok (.iconst 2, 1) := by decide +kernel
theorem dX9_over_2 : decode cX9_over 2 = .ok (.invokestatic 88, 3) := by decide +kernel
theorem dX9_over_5 : decode cX9_over 5 = .ok (.ifCond .eq 11, 3) := by decide +kernel
theorem dX9_over_8 : decode cX9_over 8 = .ok (.aload_n 0, 1) := by decide +kernel
theorem dX9_over_9 : decode cX9_over 9 = .ok (.iload_n 2, 1) := by decide +kernel
theorem dX9_over_10 : decode cX9_over 10 = .ok (.invokevirtual 112, 3) := by decide +kernel
theorem dX9_over_13 : decode cX9_over 13 = .ok (.ifCond .ne 6, 3) := by decide +kernel
theorem dX9_over_16 : decode cX9_over 16 = .ok (.ldc 72, 2) := by decide +kernel
theorem dX9_over_18 : decode cX9_over 18 = .ok (.ireturn, 1) := by decide +kernel
theorem dX9_over_19 : decode cX9_over 19 = .ok (.aload_n 0, 1) := by decide +kernel
theorem dX9_over_20 : decode cX9_over 20 = .ok (.iload_n 1, 1) := by decide +kernel
theorem dX9_over_21 : decode cX9_over 21 = .ok (.iload_n 2, 1) := by decide +kernel
theorem dX9_over_22 : decode cX9_over 22 = .ok (.invokevirtual 201, 3) := by decide +kernel
theorem dX9_over_25 : decode cX9_over 25 = .ok (.aload_n 0, 1) := by decide +kernel
theorem dX9_over_26 : decode cX9_over 26 = .ok (.getfield 56, 3) := by decide +kernel
theorem dX9_over_29 : decode cX9_over 29 = .ok (.getfield 209, 3) := by decide +kernel
theorem dX9_over_32 : decode cX9_over 32 = .ok (.ireturn, 1) := by decide +kernel
theorem dX9_left_0 : decode cX9_left 0 = .ok (.iload_n 2, 1) := by decide +kernel
theorem dX9_left_1 : decode cX9_left 1 = .ok (.iconst 2, 1) := by decide +kernel
theorem dX9_left_2 : decode cX9_left 2 = .ok (.invokestatic 88, 3) := by decide +kernel
theorem dX9_left_5 : decode cX9_left 5 = .ok (.ifCond .eq 20, 3) := by decide +kernel
theorem dX9_left_8 : decode cX9_left 8 = .ok (.aload_n 0, 1) := by decide +kernel
theorem dX9_left_9 : decode cX9_left 9 = .ok (.iload_n 3, 1) := by decide +kernel
theorem dX9_left_10 : decode cX9_left 10 = .ok (.invokevirtual 112, 3) := by decide +kernel
theorem dX9_left_13 : decode cX9_left 13 = .ok (.ifCond .eq 12, 3) := by decide +kernel
theorem dX9_left_16 : decode cX9_left 16 = .ok (.iload_n 1, 1) := by decide +kernel
theorem dX9_left_17 : decode cX9_left 17 = .ok (.ifCond .lt 8, 3) := by decide +kernel
theorem dX9_left_20 : decode cX9_left 20 = .ok (.iload_n 1, 1) := by decide +kernel
theorem dX9_left_21 : decode cX9_left 21 = .ok (.iload_n 3, 1) := by decide +kernel
theorem dX9_left_22 : decode cX9_left 22 = .ok (.if_icmp .le 6, 3) := by decide +kernel
theorem dX9_left_25 : decode cX9_left 25 = .ok (.ldc 72, 2) := by decide +kernel
theorem dX9_left_27 : decode cX9_left 27 = .ok (.ireturn, 1) := by decide +kernel
theorem dX9_left_28 : decode cX9_left 28 = .ok (.aload_n 0, 1) := by decide +kernel
theorem dX9_left_29 : decode cX9_left 29 = .ok (.iload_n 2, 1) := by decide +kernel
theorem dX9_left_30 : decode cX9_left 30 = .ok (.iload_n 3, 1) := by decide +kernel
theorem dX9_left_31 : decode cX9_left 31 = .ok (.invokevirtual 201, 3) := by decide +kernel
theorem dX9_left_34 : decode cX9_left 34 = .ok (.aload_n 0, 1) := by decide +kernel
theorem dX9_left_35 : decode cX9_left 35 = .ok (.getfield 56, 3) := by decide +kernel
theorem dX9_left_38 : decode cX9_left 38 = .ok (.getfield 212, 3) := by decide +kernel
theorem dX9_left_41 : decode cX9_left 41 = .ok (.iload_n 1, 1) := by decide +kernel
theorem dX9_left_42 : decode cX9_left 42 = .ok (.iaload, 1) := by decide +kernel
theorem dX9_left_43 : decode cX9_left 43 = .ok (.ireturn, 1) := by decide +kernel
theorem dX9_oldest_0 : decode cX9_oldest 0 = .ok (.iload_n 1, 1) := by decide +kernel
theorem dX9_oldest_1 : decode cX9_oldest 1 = .ok (.iconst 2, 1) := by decide +kernel
theorem dX9_oldest_2 : decode cX9_oldest 2 = .ok (.invokestatic 88, 3) := by decide +kernel
theorem dX9_oldest_5 : decode cX9_oldest 5 = .ok (.ifCond .eq 11, 3) := by decide +kernel
theorem dX9_oldest_8 : decode cX9_oldest 8 = .ok (.aload_n 0, 1) := by decide +kernel
theorem dX9_oldest_9 : decode cX9_oldest 9 = .ok (.iload_n 2, 1) := by decide +kernel
theorem dX9_oldest_10 : decode cX9_oldest 10 = .ok (.invokevirtual 112, 3) := by decide +kernel
theorem dX9_oldest_13 : decode cX9_oldest 13 = .ok (.ifCond .ne 6, 3) := by decide +kernel
theorem dX9_oldest_16 : decode cX9_oldest 16 = .ok (.ldc 72, 2) := by decide +kernel
theorem dX9_oldest_18 : decode cX9_oldest 18 = .ok (.ireturn, 1) := by decide +kernel
theorem dX9_oldest_19 : decode cX9_oldest 19 = .ok (.aload_n 0, 1) := by decide +kernel
theorem dX9_oldest_20 : decode cX9_oldest 20 = .ok (.iload_n 1, 1) := by decide +kernel
theorem dX9_oldest_21 : decode cX9_oldest 21 = .ok (.iload_n 2, 1) := by decide +kernel
theorem dX9_oldest_22 : decode cX9_oldest 22 = .ok (.invokevirtual 201, 3) := by decide +kernel
theorem dX9_oldest_25 : decode cX9_oldest 25 = .ok (.aload_n 0, 1) := by decide +kernel
theorem dX9_oldest_26 : decode cX9_oldest 26 = .ok (.getfield 56, 3) := by decide +kernel
theorem dX9_oldest_29 : decode cX9_oldest 29 = .ok (.invokevirtual 215, 3) := by decide +kernel
theorem dX9_oldest_32 : decode cX9_oldest 32 = .ok (.ireturn, 1) := by decide +kernel
theorem dX9_payer_0 : decode cX9_payer 0 = .ok (.aload_n 0, 1) := by decide +kernel
theorem dX9_payer_1 : decode cX9_payer 1 = .ok (.iload_n 1, 1) := by decide +kernel
theorem dX9_payer_2 : decode cX9_payer 2 = .ok (.invokevirtual 112, 3) := by decide +kernel
theorem dX9_payer_5 : decode cX9_payer 5 = .ok (.ifCond .eq 11, 3) := by decide +kernel
theorem dX9_payer_8 : decode cX9_payer 8 = .ok (.iload_n 2, 1) := by decide +kernel
theorem dX9_payer_9 : decode cX9_payer 9 = .ok (.iconst 2, 1) := by decide +kernel
theorem dX9_payer_10 : decode cX9_payer 10 = .ok (.invokestatic 88, 3) := by decide +kernel
theorem dX9_payer_13 : decode cX9_payer 13 = .ok (.ifCond .ne 6, 3) := by decide +kernel
theorem dX9_payer_16 : decode cX9_payer 16 = .ok (.ldc 72, 2) := by decide +kernel
theorem dX9_payer_18 : decode cX9_payer 18 = .ok (.ireturn, 1) := by decide +kernel
theorem dX9_payer_19 : decode cX9_payer 19 = .ok (.aload_n 0, 1) := by decide +kernel
theorem dX9_payer_20 : decode cX9_payer 20 = .ok (.iload_n 2, 1) := by decide +kernel
theorem dX9_payer_21 : decode cX9_payer 21 = .ok (.aload_n 0, 1) := by decide +kernel
theorem dX9_payer_22 : decode cX9_payer 22 = .ok (.getfield 78, 3) := by decide +kernel
theorem dX9_payer_25 : decode cX9_payer 25 = .ok (.invokevirtual 201, 3) := by decide +kernel
theorem dX9_payer_28 : decode cX9_payer 28 = .ok (.aload_n 0, 1) := by decide +kernel
theorem dX9_payer_29 : decode cX9_payer 29 = .ok (.getfield 56, 3) := by decide +kernel
theorem dX9_payer_32 : decode cX9_payer 32 = .ok (.getfield 218, 3) := by decide +kernel
theorem dX9_payer_35 : decode cX9_payer 35 = .ok (.iload_n 1, 1) := by decide +kernel
theorem dX9_payer_36 : decode cX9_payer 36 = .ok (.iaload, 1) := by decide +kernel
theorem dX9_payer_37 : decode cX9_payer 37 = .ok (.ifCond .ne 6, 3) := by decide +kernel
theorem dX9_payer_40 : decode cX9_payer 40 = .ok (.ldc 98, 2) := by decide +kernel
theorem dX9_payer_42 : decode cX9_payer 42 = .ok (.ireturn, 1) := by decide +kernel
theorem dX9_payer_43 : decode cX9_payer 43 = .ok (.aload_n 0, 1) := by decide +kernel
theorem dX9_payer_44 : decode cX9_payer 44 = .ok (.getfield 49, 3) := by decide +kernel
theorem dX9_payer_47 : decode cX9_payer 47 = .ok (.aload_n 0, 1) := by decide +kernel
theorem dX9_payer_48 : decode cX9_payer 48 = .ok (.getfield 56, 3) := by decide +kernel
theorem dX9_payer_51 : decode cX9_payer 51 = .ok (.iload_n 1, 1) := by decide +kernel
theorem dX9_payer_52 : decode cX9_payer 52 = .ok (.invokevirtual 221, 3) := by decide +kernel
theorem dX9_payer_55 : decode cX9_payer 55 = .ok (.aload_n 0, 1) := by decide +kernel
theorem dX9_payer_56 : decode cX9_payer 56 = .ok (.getfield 78, 3) := by decide +kernel
theorem dX9_payer_59 : decode cX9_payer 59 = .ok (.invokevirtual 224, 3) := by decide +kernel
theorem dX9_payer_62 : decode cX9_payer 62 = .ok (.ireturn, 1) := by decide +kernel
theorem dX9_interest_0 : decode cX9_interest 0 = .ok (.iload_n 1, 1) := by decide +kernel
theorem dX9_interest_1 : decode cX9_interest 1 = .ok (.iconst 2, 1) := by decide +kernel
theorem dX9_interest_2 : decode cX9_interest 2 = .ok (.invokestatic 88, 3) := by decide +kernel
theorem dX9_interest_5 : decode cX9_interest 5 = .ok (.ifCond .eq 11, 3) := by decide +kernel
theorem dX9_interest_8 : decode cX9_interest 8 = .ok (.aload_n 0, 1) := by decide +kernel
theorem dX9_interest_9 : decode cX9_interest 9 = .ok (.iload_n 2, 1) := by decide +kernel
theorem dX9_interest_10 : decode cX9_interest 10 = .ok (.invokevirtual 112, 3) := by decide +kernel
theorem dX9_interest_13 : decode cX9_interest 13 = .ok (.ifCond .ne 6, 3) := by decide +kernel
theorem dX9_interest_16 : decode cX9_interest 16 = .ok (.ldc 72, 2) := by decide +kernel
theorem dX9_interest_18 : decode cX9_interest 18 = .ok (.ireturn, 1) := by decide +kernel
theorem dX9_interest_19 : decode cX9_interest 19 = .ok (.aload_n 0, 1) := by decide +kernel
theorem dX9_interest_20 : decode cX9_interest 20 = .ok (.iload_n 1, 1) := by decide +kernel
theorem dX9_interest_21 : decode cX9_interest 21 = .ok (.iload_n 2, 1) := by decide +kernel
theorem dX9_interest_22 : decode cX9_interest 22 = .ok (.invokevirtual 201, 3) := by decide +kernel
theorem dX9_interest_25 : decode cX9_interest 25 = .ok (.iconst 0, 1) := by decide +kernel
theorem dX9_interest_26 : decode cX9_interest 26 = .ok (.istore_n 3, 1) := by decide +kernel
theorem dX9_interest_27 : decode cX9_interest 27 = .ok (.iconst 4, 1) := by decide +kernel
theorem dX9_interest_28 : decode cX9_interest 28 = .ok (.istore 4, 2) := by decide +kernel
theorem dX9_interest_30 : decode cX9_interest 30 = .ok (.iload 4, 2) := by decide +kernel
theorem dX9_interest_32 : decode cX9_interest 32 = .ok (.iload_n 2, 1) := by decide +kernel
theorem dX9_interest_33 : decode cX9_interest 33 = .ok (.if_icmp .gt 43, 3) := by decide +kernel
theorem dX9_interest_36 : decode cX9_interest 36 = .ok (.aload_n 0, 1) := by decide +kernel
theorem dX9_interest_37 : decode cX9_interest 37 = .ok (.getfield 56, 3) := by decide +kernel
theorem dX9_interest_40 : decode cX9_interest 40 = .ok (.aload_n 0, 1) := by decide +kernel
theorem dX9_interest_41 : decode cX9_interest 41 = .ok (.getfield 49, 3) := by decide +kernel
theorem dX9_interest_44 : decode cX9_interest 44 = .ok (.iload 4, 2) := by decide +kernel
theorem dX9_interest_46 : decode cX9_interest 46 = .ok (.invokevirtual 227, 3) := by decide +kernel
theorem dX9_interest_49 : decode cX9_interest 49 = .ok (.invokevirtual 230, 3) := by decide +kernel
theorem dX9_interest_52 : decode cX9_interest 52 = .ok (.iload_n 3, 1) := by decide +kernel
theorem dX9_interest_53 : decode cX9_interest 53 = .ok (.aload_n 0, 1) := by decide +kernel
theorem dX9_interest_54 : decode cX9_interest 54 = .ok (.getfield 56, 3) := by decide +kernel
theorem dX9_interest_57 : decode cX9_interest 57 = .ok (.iload 4, 2) := by decide +kernel
theorem dX9_interest_59 : decode cX9_interest 59 = .ok (.iconst 4, 1) := by decide +kernel
theorem dX9_interest_60 : decode cX9_interest 60 = .ok (.isub, 1) := by decide +kernel
theorem dX9_interest_61 : decode cX9_interest 61 = .ok (.aload_n 0, 1) := by decide +kernel
theorem dX9_interest_62 : decode cX9_interest 62 = .ok (.getfield 233, 3) := by decide +kernel
theorem dX9_interest_65 : decode cX9_interest 65 = .ok (.invokevirtual 236, 3) := by decide +kernel
theorem dX9_interest_68 : decode cX9_interest 68 = .ok (.iadd, 1) := by decide +kernel
theorem dX9_interest_69 : decode cX9_interest 69 = .ok (.istore_n 3, 1) := by decide +kernel
theorem dX9_interest_70 : decode cX9_interest 70 = .ok (.iinc 4 1, 3) := by decide +kernel
theorem dX9_interest_73 : decode cX9_interest 73 = .ok (.goto (-43), 3) := by decide +kernel
theorem dX9_interest_76 : decode cX9_interest 76 = .ok (.iload_n 3, 1) := by decide +kernel
theorem dX9_interest_77 : decode cX9_interest 77 = .ok (.ireturn, 1) := by decide +kernel
theorem dX9_forgive_0 : decode cX9_forgive 0 = .ok (.iload_n 1, 1) := by decide +kernel
theorem dX9_forgive_1 : decode cX9_forgive 1 = .ok (.invokestatic 68, 3) := by decide +kernel
theorem dX9_forgive_4 : decode cX9_forgive 4 = .ok (.ifCond .eq 11, 3) := by decide +kernel
theorem dX9_forgive_7 : decode cX9_forgive 7 = .ok (.iload_n 2, 1) := by decide +kernel
theorem dX9_forgive_8 : decode cX9_forgive 8 = .ok (.iconst 2, 1) := by decide +kernel
theorem dX9_forgive_9 : decode cX9_forgive 9 = .ok (.invokestatic 88, 3) := by decide +kernel
theorem dX9_forgive_12 : decode cX9_forgive 12 = .ok (.ifCond .ne 6, 3) := by decide +kernel
theorem dX9_forgive_15 : decode cX9_forgive 15 = .ok (.ldc 72, 2) := by decide +kernel
theorem dX9_forgive_17 : decode cX9_forgive 17 = .ok (.ireturn, 1) := by decide +kernel
theorem dX9_forgive_18 : decode cX9_forgive 18 = .ok (.aload_n 0, 1) := by decide +kernel
theorem dX9_forgive_19 : decode cX9_forgive 19 = .ok (.getfield 60, 3) := by decide +kernel
theorem dX9_forgive_22 : decode cX9_forgive 22 = .ok (.iload_n 1, 1) := by decide +kernel
theorem dX9_forgive_23 : decode cX9_forgive 23 = .ok (.baload, 1) := by decide +kernel
theorem dX9_forgive_24 : decode cX9_forgive 24 = .ok (.ifCond .eq 7, 3) := by decide +kernel
theorem dX9_forgive_27 : decode cX9_forgive 27 = .ok (.iconst 1, 1) := by decide +kernel
theorem dX9_forgive_28 : decode cX9_forgive 28 = .ok (.goto 4, 3) := by decide +kernel
theorem dX9_forgive_31 : decode cX9_forgive 31 = .ok (.iconst 0, 1) := by decide +kernel
theorem dX9_forgive_32 : decode cX9_forgive 32 = .ok (.istore_n 3, 1) := by decide +kernel
theorem dX9_forgive_33 : decode cX9_forgive 33 = .ok (.aload_n 0, 1) := by decide +kernel
theorem dX9_forgive_34 : decode cX9_forgive 34 = .ok (.getfield 60, 3) := by decide +kernel
theorem dX9_forgive_37 : decode cX9_forgive 37 = .ok (.iload_n 1, 1) := by decide +kernel
theorem dX9_forgive_38 : decode cX9_forgive 38 = .ok (.iload_n 2, 1) := by decide +kernel
theorem dX9_forgive_39 : decode cX9_forgive 39 = .ok (.iconst 1, 1) := by decide +kernel
theorem dX9_forgive_40 : decode cX9_forgive 40 = .ok (.if_icmp .ne 7, 3) := by decide +kernel
theorem dX9_forgive_43 : decode cX9_forgive 43 = .ok (.iconst 1, 1) := by decide +kernel
theorem dX9_forgive_44 : decode cX9_forgive 44 = .ok (.goto 4, 3) := by decide +kernel
theorem dX9_forgive_47 : decode cX9_forgive 47 = .ok (.iconst 0, 1) := by decide +kernel
theorem dX9_forgive_48 : decode cX9_forgive 48 = .ok (.bastore, 1) := by decide +kernel
theorem dX9_forgive_49 : decode cX9_forgive 49 = .ok (.iload_n 3, 1) := by decide +kernel
theorem dX9_forgive_50 : decode cX9_forgive 50 = .ok (.ireturn, 1) := by decide +kernel
theorem dX9_rate_0 : decode cX9_rate 0 = .ok (.iload_n 1, 1) := by decide +kernel
theorem dX9_rate_1 : decode cX9_rate 1 = .ok (.ifCond .lt 10, 3) := by decide +kernel
theorem dX9_rate_4 : decode cX9_rate 4 = .ok (.iload_n 1, 1) := by decide +kernel
theorem dX9_rate_5 : decode cX9_rate 5 = .ok (.sipush 500, 3) := by decide +kernel
theorem dX9_rate_8 : decode cX9_rate 8 = .ok (.if_icmp .le 6, 3) := by decide +kernel
theorem dX9_rate_11 : decode cX9_rate 11 = .ok (.ldc 72, 2) := by decide +kernel
theorem dX9_rate_13 : decode cX9_rate 13 = .ok (.ireturn, 1) := by decide +kernel
theorem dX9_rate_14 : decode cX9_rate 14 = .ok (.aload_n 0, 1) := by decide +kernel
theorem dX9_rate_15 : decode cX9_rate 15 = .ok (.getfield 233, 3) := by decide +kernel
theorem dX9_rate_18 : decode cX9_rate 18 = .ok (.istore_n 2, 1) := by decide +kernel
theorem dX9_rate_19 : decode cX9_rate 19 = .ok (.aload_n 0, 1) := by decide +kernel
theorem dX9_rate_20 : decode cX9_rate 20 = .ok (.iload_n 1, 1) := by decide +kernel
theorem dX9_rate_21 : decode cX9_rate 21 = .ok (.putfield 233, 3) := by decide +kernel
theorem dX9_rate_24 : decode cX9_rate 24 = .ok (.iload_n 2, 1) := by decide +kernel
theorem dX9_rate_25 : decode cX9_rate 25 = .ok (.ireturn, 1) := by decide +kernel
theorem dX9_weeks_0 : decode cX9_weeks 0 = .ok (.iload_n 1, 1) := by decide +kernel
theorem dX9_weeks_1 : decode cX9_weeks 1 = .ok (.iconst 1, 1) := by decide +kernel
theorem dX9_weeks_2 : decode cX9_weeks 2 = .ok (.if_icmp .lt 21, 3) := by decide +kernel
theorem dX9_weeks_5 : decode cX9_weeks 5 = .ok (.iload_n 1, 1) := by decide +kernel
theorem dX9_weeks_6 : decode cX9_weeks 6 = .ok (.bipush 60, 2) := by decide +kernel
theorem dX9_weeks_8 : decode cX9_weeks 8 = .ok (.if_icmp .gt 15, 3) := by decide +kernel
theorem dX9_weeks_11 : decode cX9_weeks 11 = .ok (.aload_n 0, 1) := by decide +kernel
theorem dX9_weeks_12 : decode cX9_weeks 12 = .ok (.getfield 78, 3) := by decide +kernel
theorem dX9_weeks_15 : decode cX9_weeks 15 = .ok (.iload_n 1, 1) := by decide +kernel
theorem dX9_weeks_16 : decode cX9_weeks 16 = .ok (.iadd, 1) := by decide +kernel
theorem dX9_weeks_17 : decode cX9_weeks 17 = .ok (.invokestatic 68, 3) := by decide +kernel
theorem dX9_weeks_20 : decode cX9_weeks 20 = .ok (.ifCond .ne 6, 3) := by decide +kernel
theorem dX9_weeks_23 : decode cX9_weeks 23 = .ok (.ldc 72, 2) := by decide +kernel
theorem dX9_weeks_25 : decode cX9_weeks 25 = .ok (.ireturn, 1) := by decide +kernel
theorem dX9_weeks_26 : decode cX9_weeks 26 = .ok (.aload_n 0, 1) := by decide +kernel
theorem dX9_weeks_27 : decode cX9_weeks 27 = .ok (.dup, 1) := by decide +kernel
theorem dX9_weeks_28 : decode cX9_weeks 28 = .ok (.getfield 78, 3) := by decide +kernel
theorem dX9_weeks_31 : decode cX9_weeks 31 = .ok (.iload_n 1, 1) := by decide +kernel
theorem dX9_weeks_32 : decode cX9_weeks 32 = .ok (.iadd, 1) := by decide +kernel
theorem dX9_weeks_33 : decode cX9_weeks 33 = .ok (.putfield 78, 3) := by decide +kernel
theorem dX9_weeks_36 : decode cX9_weeks 36 = .ok (.aload_n 0, 1) := by decide +kernel
theorem dX9_weeks_37 : decode cX9_weeks 37 = .ok (.getfield 78, 3) := by decide +kernel
theorem dX9_weeks_40 : decode cX9_weeks 40 = .ok (.ireturn, 1) := by decide +kernel
theorem dX9_settle_0 : decode cX9_settle 0 = .ok (.iconst 0, 1) := by decide +kernel
theorem dX9_settle_1 : decode cX9_settle 1 = .ok (.istore_n 3, 1) := by decide +kernel
theorem dX9_settle_2 : decode cX9_settle 2 = .ok (.iload_n 3, 1) := by decide +kernel
theorem dX9_settle_3 : decode cX9_settle 3 = .ok (.iload_n 2, 1) := by decide +kernel
theorem dX9_settle_4 : decode cX9_settle 4 = .ok (.if_icmp .gt 25, 3) := by decide +kernel
theorem dX9_settle_7 : decode cX9_settle 7 = .ok (.aload_n 0, 1) := by decide +kernel
theorem dX9_settle_8 : decode cX9_settle 8 = .ok (.getfield 56, 3) := by decide +kernel
theorem dX9_settle_11 : decode cX9_settle 11 = .ok (.getfield 218, 3) := by decide +kernel
theorem dX9_settle_14 : decode cX9_settle 14 = .ok (.iload_n 3, 1) := by decide +kernel
theorem dX9_settle_15 : decode cX9_settle 15 = .ok (.aload_n 0, 1) := by decide +kernel
theorem dX9_settle_16 : decode cX9_settle 16 = .ok (.iload_n 3, 1) := by decide +kernel
theorem dX9_settle_17 : decode cX9_settle 17 = .ok (.iload_n 1, 1) := by decide +kernel
theorem dX9_settle_18 : decode cX9_settle 18 = .ok (.iload_n 2, 1) := by decide +kernel
theorem dX9_settle_19 : decode cX9_settle 19 = .ok (.invokevirtual 170, 3) := by decide +kernel
theorem dX9_settle_22 : decode cX9_settle 22 = .ok (.iastore, 1) := by decide +kernel
theorem dX9_settle_23 : decode cX9_settle 23 = .ok (.iinc 3 1, 3) := by decide +kernel
theorem dX9_settle_26 : decode cX9_settle 26 = .ok (.goto (-24), 3) := by decide +kernel
theorem dX9_settle_29 : decode cX9_settle 29 = .ok (.aload_n 0, 1) := by decide +kernel
theorem dX9_settle_30 : decode cX9_settle 30 = .ok (.getfield 56, 3) := by decide +kernel
theorem dX9_settle_33 : decode cX9_settle 33 = .ok (.iload_n 2, 1) := by decide +kernel
theorem dX9_settle_34 : decode cX9_settle 34 = .ok (.iconst 1, 1) := by decide +kernel
theorem dX9_settle_35 : decode cX9_settle 35 = .ok (.iadd, 1) := by decide +kernel
theorem dX9_settle_36 : decode cX9_settle 36 = .ok (.putfield 239, 3) := by decide +kernel
theorem dX9_settle_39 : decode cX9_settle 39 = .ok (.aload_n 0, 1) := by decide +kernel
theorem dX9_settle_40 : decode cX9_settle 40 = .ok (.getfield 56, 3) := by decide +kernel
theorem dX9_settle_43 : decode cX9_settle 43 = .ok (.aload_n 0, 1) := by decide +kernel
theorem dX9_settle_44 : decode cX9_settle 44 = .ok (.getfield 49, 3) := by decide +kernel
theorem dX9_settle_47 : decode cX9_settle 47 = .ok (.iload_n 2, 1) := by decide +kernel
theorem dX9_settle_48 : decode cX9_settle 48 = .ok (.invokevirtual 227, 3) := by decide +kernel
theorem dX9_settle_51 : decode cX9_settle 51 = .ok (.invokevirtual 230, 3) := by decide +kernel
theorem dX9_settle_54 : decode cX9_settle 54 = .ok (.return_, 1) := by decide +kernel
theorem dX9_sheet_0 : decode cX9_sheet 0 = .ok (.iload_n 1, 1) := by decide +kernel
theorem dX9_sheet_1 : decode cX9_sheet 1 = .ok (.iconst 2, 1) := by decide +kernel
theorem dX9_sheet_2 : decode cX9_sheet 2 = .ok (.invokestatic 88, 3) := by decide +kernel
theorem dX9_sheet_5 : decode cX9_sheet 5 = .ok (.ifCond .eq 9, 3) := by decide +kernel
theorem dX9_sheet_8 : decode cX9_sheet 8 = .ok (.iload_n 2, 1) := by decide +kernel
theorem dX9_sheet_9 : decode cX9_sheet 9 = .ok (.bipush 120, 2) := by decide +kernel
theorem dX9_sheet_11 : decode cX9_sheet 11 = .ok (.if_icmp .le 6, 3) := by decide +kernel
theorem dX9_sheet_14 : decode cX9_sheet 14 = .ok (.ldc 72, 2) := by decide +kernel
theorem dX9_sheet_16 : decode cX9_sheet 16 = .ok (.ireturn, 1) := by decide +kernel
theorem dX9_sheet_17 : decode cX9_sheet 17 = .ok (.iload_n 2, 1) := by decide +kernel
theorem dX9_sheet_18 : decode cX9_sheet 18 = .ok (.ifCond .ge 6, 3) := by decide +kernel
theorem dX9_sheet_21 : decode cX9_sheet 21 = .ok (.ldc 242, 2) := by decide +kernel
theorem dX9_sheet_23 : decode cX9_sheet 23 = .ok (.ireturn, 1) := by decide +kernel
theorem dX9_sheet_24 : decode cX9_sheet 24 = .ok (.aload_n 0, 1) := by decide +kernel
theorem dX9_sheet_25 : decode cX9_sheet 25 = .ok (.getfield 42, 3) := by decide +kernel
theorem dX9_sheet_28 : decode cX9_sheet 28 = .ok (.getfield 243, 3) := by decide +kernel
theorem dX9_sheet_31 : decode cX9_sheet 31 = .ok (.iload_n 1, 1) := by decide +kernel
theorem dX9_sheet_32 : decode cX9_sheet 32 = .ok (.aaload, 1) := by decide +kernel
theorem dX9_sheet_33 : decode cX9_sheet 33 = .ok (.iload_n 2, 1) := by decide +kernel
theorem dX9_sheet_34 : decode cX9_sheet 34 = .ok (.invokevirtual 247, 3) := by decide +kernel
theorem dX9_sheet_37 : decode cX9_sheet 37 = .ok (.iload_n 2, 1) := by decide +kernel
theorem dX9_sheet_38 : decode cX9_sheet 38 = .ok (.ireturn, 1) := by decide +kernel
theorem dX9_mark_0 : decode cX9_mark 0 = .ok (.iload_n 1, 1) := by decide +kernel
theorem dX9_mark_1 : decode cX9_mark 1 = .ok (.iconst 2, 1) := by decide +kernel
theorem dX9_mark_2 : decode cX9_mark 2 = .ok (.invokestatic 88, 3) := by decide +kernel
theorem dX9_mark_5 : decode cX9_mark 5 = .ok (.ifCond .ne 6, 3) := by decide +kernel
theorem dX9_mark_8 : decode cX9_mark 8 = .ok (.ldc 72, 2) := by decide +kernel
theorem dX9_mark_10 : decode cX9_mark 10 = .ok (.ireturn, 1) := by decide +kernel
theorem dX9_mark_11 : decode cX9_mark 11 = .ok (.aload_n 0, 1) := by decide +kernel
theorem dX9_mark_12 : decode cX9_mark 12 = .ok (.getfield 42, 3) := by decide +kernel
theorem dX9_mark_15 : decode cX9_mark 15 = .ok (.getfield 243, 3) := by decide +kernel
theorem dX9_mark_18 : decode cX9_mark 18 = .ok (.iload_n 1, 1) := by decide +kernel
theorem dX9_mark_19 : decode cX9_mark 19 = .ok (.aaload, 1) := by decide +kernel
theorem dX9_mark_20 : decode cX9_mark 20 = .ok (.astore 4, 2) := by decide +kernel
theorem dX9_mark_22 : decode cX9_mark 22 = .ok (.aload 4, 2) := by decide +kernel
theorem dX9_mark_24 : decode cX9_mark 24 = .ok (.invokevirtual 252, 3) := by decide +kernel
theorem dX9_mark_27 : decode cX9_mark 27 = .ok (.ifCond .eq 7, 3) := by decide +kernel
theorem dX9_mark_30 : decode cX9_mark 30 = .ok (.ldc_w 256, 3) := by decide +kernel
theorem dX9_mark_33 : decode cX9_mark 33 = .ok (.ireturn, 1) := by decide +kernel
theorem dX9_mark_34 : decode cX9_mark 34 = .ok (.iload_n 2, 1) := by decide +kernel
theorem dX9_mark_35 : decode cX9_mark 35 = .ok (.aload 4, 2) := by decide +kernel
theorem dX9_mark_37 : decode cX9_mark 37 = .ok (.getfield 257, 3) := by decide +kernel
theorem dX9_mark_40 : decode cX9_mark 40 = .ok (.invokestatic 88, 3) := by decide +kernel
theorem dX9_mark_43 : decode cX9_mark 43 = .ok (.ifCond .ne 7, 3) := by decide +kernel
theorem dX9_mark_46 : decode cX9_mark 46 = .ok (.ldc_w 258, 3) := by decide +kernel
theorem dX9_mark_49 : decode cX9_mark 49 = .ok (.ireturn, 1) := by decide +kernel
theorem dX9_mark_50 : decode cX9_mark 50 = .ok (.aload 4, 2) := by decide +kernel
theorem dX9_mark_52 : decode cX9_mark 52 = .ok (.getfield 259, 3) := by decide +kernel
theorem dX9_mark_55 : decode cX9_mark 55 = .ok (.iload_n 2, 1) := by decide +kernel
theorem dX9_mark_56 : decode cX9_mark 56 = .ok (.baload, 1) := by decide +kernel
theorem dX9_mark_57 : decode cX9_mark 57 = .ok (.istore 5, 2) := by decide +kernel
theorem dX9_mark_59 : decode cX9_mark 59 = .ok (.aload 4, 2) := by decide +kernel
theorem dX9_mark_61 : decode cX9_mark 61 = .ok (.getfield 259, 3) := by decide +kernel
theorem dX9_mark_64 : decode cX9_mark 64 = .ok (.iload_n 2, 1) := by decide +kernel
theorem dX9_mark_65 : decode cX9_mark 65 = .ok (.iload_n 3, 1) := by decide +kernel
theorem dX9_mark_66 : decode cX9_mark 66 = .ok (.i2b, 1) := by decide +kernel
theorem dX9_mark_67 : decode cX9_mark 67 = .ok (.bastore, 1) := by decide +kernel
theorem dX9_mark_68 : decode cX9_mark 68 = .ok (.iload 5, 2) := by decide +kernel
theorem dX9_mark_70 : decode cX9_mark 70 = .ok (.ireturn, 1) := by decide +kernel
theorem dX9_copy_0 : decode cX9_copy 0 = .ok (.iload_n 1, 1) := by decide +kernel
theorem dX9_copy_1 : decode cX9_copy 1 = .ok (.iconst 2, 1) := by decide +kernel
theorem dX9_copy_2 : decode cX9_copy 2 = .ok (.invokestatic 88, 3) := by decide +kernel
theorem dX9_copy_5 : decode cX9_copy 5 = .ok (.ifCond .eq 11, 3) := by decide +kernel
theorem dX9_copy_8 : decode cX9_copy 8 = .ok (.iload_n 3, 1) := by decide +kernel
theorem dX9_copy_9 : decode cX9_copy 9 = .ok (.iconst 2, 1) := by decide +kernel
theorem dX9_copy_10 : decode cX9_copy 10 = .ok (.invokestatic 88, 3) := by decide +kernel
theorem dX9_copy_13 : decode cX9_copy 13 = .ok (.ifCond .ne 6, 3) := by decide +kernel
theorem dX9_copy_16 : decode cX9_copy 16 = .ok (.ldc 72, 2) := by decide +kernel
theorem dX9_copy_18 : decode cX9_copy 18 = .ok (.ireturn, 1) := by decide +kernel
theorem dX9_copy_19 : decode cX9_copy 19 = .ok (.aload_n 0, 1) := by decide +kernel
theorem dX9_copy_20 : decode cX9_copy 20 = .ok (.getfield 42, 3) := by decide +kernel
theorem dX9_copy_23 : decode cX9_copy 23 = .ok (.getfield 243, 3) := by decide +kernel
theorem dX9_copy_26 : decode cX9_copy 26 = .ok (.iload_n 1, 1) := by decide +kernel
theorem dX9_copy_27 : decode cX9_copy 27 = .ok (.aaload, 1) := by decide +kernel
theorem dX9_copy_28 : decode cX9_copy 28 = .ok (.astore 6, 2) := by decide +kernel
theorem dX9_copy_30 : decode cX9_copy 30 = .ok (.aload_n 0, 1) := by decide +kernel
theorem dX9_copy_31 : decode cX9_copy 31 = .ok (.getfield 42, 3) := by decide +kernel
theorem dX9_copy_34 : decode cX9_copy 34 = .ok (.getfield 243, 3) := by decide +kernel
theorem dX9_copy_37 : decode cX9_copy 37 = .ok (.iload_n 3, 1) := by decide +kernel
theorem dX9_copy_38 : decode cX9_copy 38 = .ok (.aaload, 1) := by decide +kernel
theorem dX9_copy_39 : decode cX9_copy 39 = .ok (.astore 7, 2) := by decide +kernel
theorem dX9_copy_41 : decode cX9_copy 41 = .ok (.aload 6, 2) := by decide +kernel
theorem dX9_copy_43 : decode cX9_copy 43 = .ok (.invokevirtual 252, 3) := by decide +kernel
theorem dX9_copy_46 : decode cX9_copy 46 = .ok (.ifCond .ne 11, 3) := by decide +kernel
theorem dX9_copy_49 : decode cX9_copy 49 = .ok (.aload 7, 2) := by decide +kernel
theorem dX9_copy_51 : decode cX9_copy 51 = .ok (.invokevirtual 252, 3) := by decide +kernel
theorem dX9_copy_54 : decode cX9_copy 54 = .ok (.ifCond .eq 7, 3) := by decide +kernel
theorem dX9_copy_57 : decode cX9_copy 57 = .ok (.ldc_w 256, 3) := by decide +kernel
theorem dX9_copy_60 : decode cX9_copy 60 = .ok (.ireturn, 1) := by decide +kernel
theorem dX9_copy_61 : decode cX9_copy 61 = .ok (.aload 6, 2) := by decide +kernel
theorem dX9_copy_63 : decode cX9_copy 63 = .ok (.iload_n 2, 1) := by decide +kernel
theorem dX9_copy_64 : decode cX9_copy 64 = .ok (.iload 5, 2) := by decide +kernel
theorem dX9_copy_66 : decode cX9_copy 66 = .ok (.invokevirtual 263, 3) := by decide +kernel
theorem dX9_copy_69 : decode cX9_copy 69 = .ok (.ifCond .eq 15, 3) := by decide +kernel
theorem dX9_copy_72 : decode cX9_copy 72 = .ok (.aload 7, 2) := by decide +kernel
theorem dX9_copy_74 : decode cX9_copy 74 = .ok (.iload 4, 2) := by decide +kernel
theorem dX9_copy_76 : decode cX9_copy 76 = .ok (.iload 5, 2) := by decide +kernel
theorem dX9_copy_78 : decode cX9_copy 78 = .ok (.invokevirtual 263, 3) := by decide +kernel
theorem dX9_copy_81 : decode cX9_copy 81 = .ok (.ifCond .ne 7, 3) := by decide +kernel
theorem dX9_copy_84 : decode cX9_copy 84 = .ok (.ldc_w 258, 3) := by decide +kernel
theorem dX9_copy_87 : decode cX9_copy 87 = .ok (.ireturn, 1) := by decide +kernel
theorem dX9_copy_88 : decode cX9_copy 88 = .ok (.aload 6, 2) := by decide +kernel
theorem dX9_copy_90 : decode cX9_copy 90 = .ok (.getfield 259, 3) := by decide +kernel
theorem dX9_copy_93 : decode cX9_copy 93 = .ok (.iload_n 2, 1) := by decide +kernel
theorem dX9_copy_94 : decode cX9_copy 94 = .ok (.aload 7, 2) := by decide +kernel
theorem dX9_copy_96 : decode cX9_copy 96 = .ok (.getfield 259, 3) := by decide +kernel
theorem dX9_copy_99 : decode cX9_copy 99 = .ok (.iload 4, 2) := by decide +kernel
theorem dX9_copy_101 : decode cX9_copy 101 = .ok (.iload 5, 2) := by decide +kernel
theorem dX9_copy_103 : decode cX9_copy 103 = .ok (.invokestatic 266, 3) := by decide +kernel
theorem dX9_copy_106 : decode cX9_copy 106 = .ok (.iload 5, 2) := by decide +kernel
theorem dX9_copy_108 : decode cX9_copy 108 = .ok (.ireturn, 1) := by decide +kernel
theorem dX9_lose_0 : decode cX9_lose 0 = .ok (.iload_n 1, 1) := by decide +kernel
theorem dX9_lose_1 : decode cX9_lose 1 = .ok (.iconst 2, 1) := by decide +kernel
theorem dX9_lose_2 : decode cX9_lose 2 = .ok (.invokestatic 88, 3) := by decide +kernel
theorem dX9_lose_5 : decode cX9_lose 5 = .ok (.ifCond .ne 6, 3) := by decide +kernel
theorem dX9_lose_8 : decode cX9_lose 8 = .ok (.ldc 72, 2) := by decide +kernel
theorem dX9_lose_10 : decode cX9_lose 10 = .ok (.ireturn, 1) := by decide +kernel
theorem dX9_lose_11 : decode cX9_lose 11 = .ok (.aload_n 0, 1) := by decide +kernel
theorem dX9_lose_12 : decode cX9_lose 12 = .ok (.getfield 42, 3) := by decide +kernel
theorem dX9_lose_15 : decode cX9_lose 15 = .ok (.getfield 243, 3) := by decide +kernel
theorem dX9_lose_18 : decode cX9_lose 18 = .ok (.iload_n 1, 1) := by decide +kernel
theorem dX9_lose_19 : decode cX9_lose 19 = .ok (.aaload, 1) := by decide +kernel
theorem dX9_lose_20 : decode cX9_lose 20 = .ok (.astore_n 2, 1) := by decide +kernel
theorem dX9_lose_21 : decode cX9_lose 21 = .ok (.aload_n 2, 1) := by decide +kernel
theorem dX9_lose_22 : decode cX9_lose 22 = .ok (.invokevirtual 252, 3) := by decide +kernel
theorem dX9_lose_25 : decode cX9_lose 25 = .ok (.ifCond .eq 7, 3) := by decide +kernel
theorem dX9_lose_28 : decode cX9_lose 28 = .ok (.ldc_w 256, 3) := by decide +kernel
theorem dX9_lose_31 : decode cX9_lose 31 = .ok (.ireturn, 1) := by decide +kernel
theorem dX9_lose_32 : decode cX9_lose 32 = .ok (.aload_n 2, 1) := by decide +kernel
theorem dX9_lose_33 : decode cX9_lose 33 = .ok (.getfield 257, 3) := by decide +kernel
theorem dX9_lose_36 : decode cX9_lose 36 = .ok (.istore_n 3, 1) := by decide +kernel
theorem dX9_lose_37 : decode cX9_lose 37 = .ok (.aload_n 2, 1) := by decide +kernel
theorem dX9_lose_38 : decode cX9_lose 38 = .ok (.iconst (-1), 1) := by decide +kernel
theorem dX9_lose_39 : decode cX9_lose 39 = .ok (.putfield 257, 3) := by decide +kernel
theorem dX9_lose_42 : decode cX9_lose 42 = .ok (.iload_n 3, 1) := by decide +kernel
theorem dX9_lose_43 : decode cX9_lose 43 = .ok (.ireturn, 1) := by decide +kernel
theorem dX9_count_0 : decode cX9_count 0 = .ok (.iload_n 1, 1) := by decide +kernel
theorem dX9_count_1 : decode cX9_count 1 = .ok (.tableswitch 109 0 7 #[47, 55, 63, 71, 79, 84, 89, 101], 47) := by decide +kernel
theorem dX9_count_48 : decode cX9_count 48 = .ok (.aload_n 0, 1) := by decide +kernel
theorem dX9_count_49 : decode cX9_count 49 = .ok (.getfield 10, 3) := by decide +kernel
theorem dX9_count_52 : decode cX9_count 52 = .ok (.getfield 73, 3) := by decide +kernel
theorem dX9_count_55 : decode cX9_count 55 = .ok (.ireturn, 1) := by decide +kernel
theorem dX9_count_56 : decode cX9_count 56 = .ok (.aload_n 0, 1) := by decide +kernel
theorem dX9_count_57 : decode cX9_count 57 = .ok (.getfield 10, 3) := by decide +kernel
theorem dX9_count_60 : decode cX9_count 60 = .ok (.invokevirtual 272, 3) := by decide +kernel
theorem dX9_count_63 : decode cX9_count 63 = .ok (.ireturn, 1) := by decide +kernel
theorem dX9_count_64 : decode cX9_count 64 = .ok (.aload_n 0, 1) := by decide +kernel
theorem dX9_count_65 : decode cX9_count 65 = .ok (.getfield 35, 3) := by decide +kernel
theorem dX9_count_68 : decode cX9_count 68 = .ok (.getfield 153, 3) := by decide +kernel
theorem dX9_count_71 : decode cX9_count 71 = .ok (.ireturn, 1) := by decide +kernel
theorem dX9_count_72 : decode cX9_count 72 = .ok (.aload_n 0, 1) := by decide +kernel
theorem dX9_count_73 : decode cX9_count 73 = .ok (.getfield 49, 3) := by decide +kernel
theorem dX9_count_76 : decode cX9_count 76 = .ok (.getfield 191, 3) := by decide +kernel
theorem dX9_count_79 : decode cX9_count 79 = .ok (.ireturn, 1) := by decide +kernel
theorem dX9_count_80 : decode cX9_count 80 = .ok (.aload_n 0, 1) := by decide +kernel
theorem dX9_count_81 : decode cX9_count 81 = .ok (.getfield 78, 3) := by decide +kernel
theorem dX9_count_84 : decode cX9_count 84 = .ok (.ireturn, 1) := by decide +kernel
theorem dX9_count_85 : decode cX9_count 85 = .ok (.aload_n 0, 1) := by decide +kernel
theorem dX9_count_86 : decode cX9_count 86 = .ok (.invokevirtual 275, 3) := by decide +kernel
theorem dX9_count_89 : decode cX9_count 89 = .ok (.ireturn, 1) := by decide +kernel
theorem dX9_count_90 : decode cX9_count 90 = .ok (.aload_n 0, 1) := by decide +kernel
theorem dX9_count_91 : decode cX9_count 91 = .ok (.getfield 42, 3) := by decide +kernel
theorem dX9_count_94 : decode cX9_count 94 = .ok (.aload_n 0, 1) := by decide +kernel
theorem dX9_count_95 : decode cX9_count 95 = .ok (.getfield 78, 3) := by decide +kernel
theorem dX9_count_98 : decode cX9_count 98 = .ok (.invokevirtual 278, 3) := by decide +kernel
theorem dX9_count_101 : decode cX9_count 101 = .ok (.ireturn, 1) := by decide +kernel
theorem dX9_count_102 : decode cX9_count 102 = .ok (.aload_n 0, 1) := by decide +kernel
theorem dX9_count_103 : decode cX9_count 103 = .ok (.getfield 19, 3) := by decide +kernel
theorem dX9_count_106 : decode cX9_count 106 = .ok (.getfield 141, 3) := by decide +kernel
theorem dX9_count_109 : decode cX9_count 109 = .ok (.ireturn, 1) := by decide +kernel
theorem dX9_count_110 : decode cX9_count 110 = .ok (.ldc 72, 2) := by decide +kernel
theorem dX9_count_112 : decode cX9_count 112 = .ok (.ireturn, 1) := by decide +kernel
theorem dX9_forgivenWeeks_0 : decode cX9_forgivenWeeks 0 = .ok (.iconst 0, 1) := by decide +kernel
theorem dX9_forgivenWeeks_1 : decode cX9_forgivenWeeks 1 = .ok (.istore_n 1, 1) := by decide +kernel
theorem dX9_forgivenWeeks_2 : decode cX9_forgivenWeeks 2 = .ok (.iconst 0, 1) := by decide +kernel
theorem dX9_forgivenWeeks_3 : decode cX9_forgivenWeeks 3 = .ok (.istore_n 2, 1) := by decide +kernel
theorem dX9_forgivenWeeks_4 : decode cX9_forgivenWeeks 4 = .ok (.iload_n 2, 1) := by decide +kernel
theorem dX9_forgivenWeeks_5 : decode cX9_forgivenWeeks 5 = .ok (.bipush 120, 2) := by decide +kernel
theorem dX9_forgivenWeeks_7 : decode cX9_forgivenWeeks 7 = .ok (.if_icmp .ge 21, 3) := by decide +kernel
theorem dX9_forgivenWeeks_10 : decode cX9_forgivenWeeks 10 = .ok (.aload_n 0, 1) := by decide +kernel
theorem dX9_forgivenWeeks_11 : decode cX9_forgivenWeeks 11 = .ok (.getfield 60, 3) := by decide +kernel
theorem dX9_forgivenWeeks_14 : decode cX9_forgivenWeeks 14 = .ok (.iload_n 2, 1) := by decide +kernel
theorem dX9_forgivenWeeks_15 : decode cX9_forgivenWeeks 15 = .ok (.baload, 1) := by decide +kernel
theorem dX9_forgivenWeeks_16 : decode cX9_forgivenWeeks 16 = .ok (.ifCond .eq 6, 3) := by decide +kernel
theorem dX9_forgivenWeeks_19 : decode cX9_forgivenWeeks 19 = .ok (.iinc 1 1, 3) := by decide +kernel
theorem dX9_forgivenWeeks_22 : decode cX9_forgivenWeeks 22 = .ok (.iinc 2 1, 3) := by decide +kernel
theorem dX9_forgivenWeeks_25 : decode cX9_forgivenWeeks 25 = .ok (.goto (-21), 3) := by decide +kernel
theorem dX9_forgivenWeeks_28 : decode cX9_forgivenWeeks 28 = .ok (.iload_n 1, 1) := by decide +kernel
theorem dX9_forgivenWeeks_29 : decode cX9_forgivenWeeks 29 = .ok (.ireturn, 1) := by decide +kernel
theorem dX9_isBelow_0 : decode cX9_isBelow 0 = .ok (.iload_n 0, 1) := by decide +kernel
theorem dX9_isBelow_1 : decode cX9_isBelow 1 = .ok (.ifCond .lt 12, 3) := by decide +kernel
theorem dX9_isBelow_4 : decode cX9_isBelow 4 = .ok (.iload_n 0, 1) := by decide +kernel
theorem dX9_isBelow_5 : decode cX9_isBelow 5 = .ok (.iload_n 1, 1) := by decide +kernel
theorem dX9_isBelow_6 : decode cX9_isBelow 6 = .ok (.if_icmp .ge 7, 3) := by decide +kernel
theorem dX9_isBelow_9 : decode cX9_isBelow 9 = .ok (.iconst 1, 1) := by decide +kernel
theorem dX9_isBelow_10 : decode cX9_isBelow 10 = .ok (.goto 4, 3) := by decide +kernel
theorem dX9_isBelow_13 : decode cX9_isBelow 13 = .ok (.iconst 0, 1) := by decide +kernel
theorem dX9_isBelow_14 : decode cX9_isBelow 14 = .ok (.ireturn, 1) := by decide +kernel
theorem dX9_isWeek_0 : decode cX9_isWeek 0 = .ok (.iload_n 0, 1) := by decide +kernel
theorem dX9_isWeek_1 : decode cX9_isWeek 1 = .ok (.bipush 120, 2) := by decide +kernel
theorem dX9_isWeek_3 : decode cX9_isWeek 3 = .ok (.invokestatic 88, 3) := by decide +kernel
theorem dX9_isWeek_6 : decode cX9_isWeek 6 = .ok (.ireturn, 1) := by decide +kernel
theorem dX9_areNights_0 : decode cX9_areNights 0 = .ok (.iload_n 0, 1) := by decide +kernel
theorem dX9_areNights_1 : decode cX9_areNights 1 = .ok (.ifCond .lt 13, 3) := by decide +kernel
theorem dX9_areNights_4 : decode cX9_areNights 4 = .ok (.iload_n 0, 1) := by decide +kernel
theorem dX9_areNights_5 : decode cX9_areNights 5 = .ok (.bipush 7, 2) := by decide +kernel
theorem dX9_areNights_7 : decode cX9_areNights 7 = .ok (.if_icmp .gt 7, 3) := by decide +kernel
theorem dX9_areNights_10 : decode cX9_areNights 10 = .ok (.iconst 1, 1) := by decide +kernel
theorem dX9_areNights_11 : decode cX9_areNights 11 = .ok (.goto 4, 3) := by decide +kernel
theorem dX9_areNights_14 : decode cX9_areNights 14 = .ok (.iconst 0, 1) := by decide +kernel
theorem dX9_areNights_15 : decode cX9_areNights 15 = .ok (.ireturn, 1) := by decide +kernel
theorem dX9_isPast_0 : decode cX9_isPast 0 = .ok (.iload_n 1, 1) := by decide +kernel
theorem dX9_isPast_1 : decode cX9_isPast 1 = .ok (.ifCond .lt 15, 3) := by decide +kernel
theorem dX9_isPast_4 : decode cX9_isPast 4 = .ok (.iload_n 1, 1) := by decide +kernel
theorem dX9_isPast_5 : decode cX9_isPast 5 = .ok (.aload_n 0, 1) := by decide +kernel
theorem dX9_isPast_6 : decode cX9_isPast 6 = .ok (.getfield 78, 3) := by decide +kernel
theorem dX9_isPast_9 : decode cX9_isPast 9 = .ok (.if_icmp .gt 7, 3) := by decide +kernel
theorem dX9_isPast_12 : decode cX9_isPast 12 = .ok (.iconst 1, 1) := by decide +kernel
theorem dX9_isPast_13 : decode cX9_isPast 13 = .ok (.goto 4, 3) := by decide +kernel
theorem dX9_isPast_16 : decode cX9_isPast 16 = .ok (.iconst 0, 1) := by decide +kernel
theorem dX9_isPast_17 : decode cX9_isPast 17 = .ok (.ireturn, 1) := by decide +kernel
theorem dX10_init_0 : decode cX10_init 0 = .ok (.aload_n 0, 1) := by decide +kernel
theorem dX10_init_1 : decode cX10_init 1 = .ok (.invokespecial 1, 3) := by decide +kernel
theorem dX10_init_4 : decode cX10_init 4 = .ok (.aload_n 0, 1) := by decide +kernel
theorem dX10_init_5 : decode cX10_init 5 = .ok (.bipush 80, 2) := by decide +kernel
theorem dX10_init_7 : decode cX10_init 7 = .ok (.newarray .int, 2) := by decide +kernel
theorem dX10_init_9 : decode cX10_init 9 = .ok (.putfield 7, 3) := by decide +kernel
theorem dX10_init_12 : decode cX10_init 12 = .ok (.aload_n 0, 1) := by decide +kernel
theorem dX10_init_13 : decode cX10_init 13 = .ok (.bipush 80, 2) := by decide +kernel
theorem dX10_init_15 : decode cX10_init 15 = .ok (.newarray .int, 2) := by decide +kernel
theorem dX10_init_17 : decode cX10_init 17 = .ok (.putfield 13, 3) := by decide +kernel
theorem dX10_init_20 : decode cX10_init 20 = .ok (.aload_n 0, 1) := by decide +kernel
theorem dX10_init_21 : decode cX10_init 21 = .ok (.bipush 80, 2) := by decide +kernel
theorem dX10_init_23 : decode cX10_init 23 = .ok (.newarray .int, 2) := by decide +kernel
theorem dX10_init_25 : decode cX10_init 25 = .ok (.putfield 16, 3) := by decide +kernel
theorem dX10_init_28 : decode cX10_init 28 = .ok (.aload_n 0, 1) := by decide +kernel
theorem dX10_init_29 : decode cX10_init 29 = .ok (.bipush 80, 2) := by decide +kernel
theorem dX10_init_31 : decode cX10_init 31 = .ok (.newarray .int, 2) := by decide +kernel
theorem dX10_init_33 : decode cX10_init 33 = .ok (.putfield 19, 3) := by decide +kernel
theorem dX10_init_36 : decode cX10_init 36 = .ok (.aload_n 0, 1) := by decide +kernel
theorem dX10_init_37 : decode cX10_init 37 = .ok (.bipush 80, 2) := by decide +kernel
theorem dX10_init_39 : decode cX10_init 39 = .ok (.newarray .int, 2) := by decide +kernel
theorem dX10_init_41 : decode cX10_init 41 = .ok (.putfield 22, 3) := by decide +kernel
theorem dX10_init_44 : decode cX10_init 44 = .ok (.aload_n 0, 1) := by decide +kernel
theorem dX10_init_45 : decode cX10_init 45 = .ok (.bipush 120, 2) := by decide +kernel
theorem dX10_init_47 : decode cX10_init 47 = .ok (.newarray .int, 2) := by decide +kernel
theorem dX10_init_49 : decode cX10_init 49 = .ok (.putfield 25, 3) := by decide +kernel
theorem dX10_init_52 : decode cX10_init 52 = .ok (.aload_n 0, 1) := by decide +kernel
theorem dX10_init_53 : decode cX10_init 53 = .ok (.bipush 120, 2) := by decide +kernel
theorem dX10_init_55 : decode cX10_init 55 = .ok (.newarray .boolean, 2) := by decide +kernel
theorem dX10_init_57 : decode cX10_init 57 = .ok (.putfield 28, 3) := by decide +kernel
theorem dX10_init_60 : decode cX10_init 60 = .ok (.aload_n 0, 1) := by decide +kernel
theorem dX10_init_61 : decode cX10_init 61 = .ok (.bipush 8, 2) := by decide +kernel
theorem dX10_init_63 : decode cX10_init 63 = .ok (.newarray .int, 2) := by decide +kernel
theorem dX10_init_65 : decode cX10_init 65 = .ok (.putfield 32, 3) := by decide +kernel
theorem dX10_init_68 : decode cX10_init 68 = .ok (.aload_n 0, 1) := by decide +kernel
theorem dX10_init_69 : decode cX10_init 69 = .ok (.bipush 8, 2) := by decide +kernel
theorem dX10_init_71 : decode cX10_init 71 = .ok (.newarray .int, 2) := by decide +kernel
theorem dX10_init_73 : decode cX10_init 73 = .ok (.putfield 35, 3) := by decide +kernel
theorem dX10_init_76 : decode cX10_init 76 = .ok (.aload_n 0, 1) := by decide +kernel
theorem dX10_init_77 : decode cX10_init 77 = .ok (.bipush 8, 2) := by decide +kernel
theorem dX10_init_79 : decode cX10_init 79 = .ok (.newarray .int, 2) := by decide +kernel
theorem dX10_init_81 : decode cX10_init 81 = .ok (.putfield 38, 3) := by decide +kernel
theorem dX10_init_84 : decode cX10_init 84 = .ok (.aload_n 0, 1) := by decide +kernel
theorem dX10_init_85 : decode cX10_init 85 = .ok (.bipush 8, 2) := by decide +kernel
theorem dX10_init_87 : decode cX10_init 87 = .ok (.newarray .int, 2) := by decide +kernel
theorem dX10_init_89 : decode cX10_init 89 = .ok (.putfield 41, 3) := by decide +kernel
theorem dX10_init_92 : decode cX10_init 92 = .ok (.aload_n 0, 1) := by decide +kernel
theorem dX10_init_93 : decode cX10_init 93 = .ok (.bipush 8, 2) := by decide +kernel
theorem dX10_init_95 : decode cX10_init 95 = .ok (.newarray .int, 2) := by decide +kernel
theorem dX10_init_97 : decode cX10_init 97 = .ok (.putfield 44, 3) := by decide +kernel
theorem dX10_init_100 : decode cX10_init 100 = .ok (.aload_n 0, 1) := by decide +kernel
theorem dX10_init_101 : decode cX10_init 101 = .ok (.bipush 8, 2) := by decide +kernel
theorem dX10_init_103 : decode cX10_init 103 = .ok (.newarray .int, 2) := by decide +kernel
theorem dX10_init_105 : decode cX10_init 105 = .ok (.putfield 47, 3) := by decide +kernel
theorem dX10_init_108 : decode cX10_init 108 = .ok (.aload_n 0, 1) := by decide +kernel
theorem dX10_init_109 : decode cX10_init 109 = .ok (.bipush 8, 2) := by decide +kernel
theorem dX10_init_111 : decode cX10_init 111 = .ok (.newarray .int, 2) := by decide +kernel
theorem dX10_init_113 : decode cX10_init 113 = .ok (.putfield 50, 3) := by decide +kernel
theorem dX10_init_116 : decode cX10_init 116 = .ok (.aload_n 0, 1) := by decide +kernel
theorem dX10_init_117 : decode cX10_init 117 = .ok (.bipush 8, 2) := by decide +kernel
theorem dX10_init_119 : decode cX10_init 119 = .ok (.newarray .int, 2) := by decide +kernel
theorem dX10_init_121 : decode cX10_init 121 = .ok (.putfield 53, 3) := by decide +kernel
theorem dX10_init_124 : decode cX10_init 124 = .ok (.aload_n 0, 1) := by decide +kernel
theorem dX10_init_125 : decode cX10_init 125 = .ok (.bipush 100, 2) := by decide +kernel
theorem dX10_init_127 : decode cX10_init 127 = .ok (.newarray .int, 2) := by decide +kernel
theorem dX10_init_129 : decode cX10_init 129 = .ok (.putfield 56, 3) := by decide +kernel
theorem dX10_init_132 : decode cX10_init 132 = .ok (.aload_n 0, 1) := by decide +kernel
theorem dX10_init_133 : decode cX10_init 133 = .ok (.bipush 100, 2) := by decide +kernel
theorem dX10_init_135 : decode cX10_init 135 = .ok (.newarray .int, 2) := by decide +kernel
theorem dX10_init_137 : decode cX10_init 137 = .ok (.putfield 59, 3) := by decide +kernel
theorem dX10_init_140 : decode cX10_init 140 = .ok (.aload_n 0, 1) := by decide +kernel
theorem dX10_init_141 : decode cX10_init 141 = .ok (.bipush 100, 2) := by decide +kernel
theorem dX10_init_143 : decode cX10_init 143 = .ok (.newarray .int, 2) := by decide +kernel
theorem dX10_init_145 : decode cX10_init 145 = .ok (.putfield 62, 3) := by decide +kernel
theorem dX10_init_148 : decode cX10_init 148 = .ok (.aload_n 0, 1) := by decide +kernel
theorem dX10_init_149 : decode cX10_init 149 = .ok (.iconst 1, 1) := by decide +kernel
theorem dX10_init_150 : decode cX10_init 150 = .ok (.putfield 65, 3) := by decide +kernel
theorem dX10_init_153 : decode cX10_init 153 = .ok (.aload_n 0, 1) := by decide +kernel
theorem dX10_init_154 : decode cX10_init 154 = .ok (.bipush 72, 2) := by decide +kernel
theorem dX10_init_156 : decode cX10_init 156 = .ok (.newarray .int, 2) := by decide +kernel
theorem dX10_init_158 : decode cX10_init 158 = .ok (.putfield 69, 3) := by decide +kernel
theorem dX10_init_161 : decode cX10_init 161 = .ok (.aload_n 0, 1) := by decide +kernel
theorem dX10_init_162 : decode cX10_init 162 = .ok (.iconst 2, 1) := by decide +kernel
theorem dX10_init_163 : decode cX10_init 163 = .ok (.newarray .int, 2) := by decide +kernel
theorem dX10_init_165 : decode cX10_init 165 = .ok (.putfield 72, 3) := by decide +kernel
theorem dX10_init_168 : decode cX10_init 168 = .ok (.aload_n 0, 1) := by decide +kernel
theorem dX10_init_169 : decode cX10_init 169 = .ok (.sipush 240, 3) := by decide +kernel
theorem dX10_init_172 : decode cX10_init 172 = .ok (.newarray .int, 2) := by decide +kernel
theorem dX10_init_174 : decode cX10_init 174 = .ok (.putfield 75, 3) := by decide +kernel
theorem dX10_init_177 : decode cX10_init 177 = .ok (.aload_n 0, 1) := by decide +kernel
theorem dX10_init_178 : decode cX10_init 178 = .ok (.bipush 7, 2) := by decide +kernel
theorem dX10_init_180 : decode cX10_init 180 = .ok (.newarray .int, 2) := by decide +kernel
theorem dX10_init_182 : decode cX10_init 182 = .ok (.putfield 78, 3) := by decide +kernel
theorem dX10_init_185 : decode cX10_init 185 = .ok (.aload_n 0, 1) := by decide +kernel
theorem dX10_init_186 : decode cX10_init 186 = .ok (.bipush 120, 2) := by decide +kernel
theorem dX10_init_188 : decode cX10_init 188 = .ok (.newarray .int, 2) := by decide +kernel
theorem dX10_init_190 : decode cX10_init 190 = .ok (.putfield 81, 3) := by decide +kernel
theorem dX10_init_193 : decode cX10_init 193 = .ok (.aload_n 0, 1) := by decide +kernel
theorem dX10_init_194 : decode cX10_init 194 = .ok (.bipush 120, 2) := by decide +kernel
theorem dX10_init_196 : decode cX10_init 196 = .ok (.newarray .int, 2) := by decide +kernel
theorem dX10_init_198 : decode cX10_init 198 = .ok (.putfield 84, 3) := by decide +kernel
theorem dX10_init_201 : decode cX10_init 201 = .ok (.aload_n 0, 1) := by decide +kernel
theorem dX10_init_202 : decode cX10_init 202 = .ok (.bipush 120, 2) := by decide +kernel
theorem dX10_init_204 : decode cX10_init 204 = .ok (.newarray .int, 2) := by decide +kernel
theorem dX10_init_206 : decode cX10_init 206 = .ok (.putfield 87, 3) := by decide +kernel
theorem dX10_init_209 : decode cX10_init 209 = .ok (.iconst 0, 1) := by decide +kernel
theorem dX10_init_210 : decode cX10_init 210 = .ok (.istore_n 1, 1) := by decide +kernel
theorem dX10_init_211 : decode cX10_init 211 = .ok (.iload_n 1, 1) := by decide +kernel
theorem dX10_init_212 : decode cX10_init 212 = .ok (.bipush 120, 2) := by decide +kernel
theorem dX10_init_214 : decode cX10_init 214 = .ok (.if_icmp .ge 16, 3) := by decide +kernel
theorem dX10_init_217 : decode cX10_init 217 = .ok (.aload_n 0, 1) := by decide +kernel
theorem dX10_init_218 : decode cX10_init 218 = .ok (.getfield 25, 3) := by decide +kernel
theorem dX10_init_221 : decode cX10_init 221 = .ok (.iload_n 1, 1) := by decide +kernel
theorem dX10_init_222 : decode cX10_init 222 = .ok (.iconst (-1), 1) := by decide +kernel
theorem dX10_init_223 : decode cX10_init 223 = .ok (.iastore, 1) := by decide +kernel
theorem dX10_init_224 : decode cX10_init 224 = .ok (.iinc 1 1, 3) := by decide +kernel
theorem dX10_init_227 : decode cX10_init 227 = .ok (.goto (-16), 3) := by decide +kernel
theorem dX10_init_230 : decode cX10_init 230 = .ok (.aload_n 0, 1) := by decide +kernel
theorem dX10_init_231 : decode cX10_init 231 = .ok (.getfield 72, 3) := by decide +kernel
theorem dX10_init_234 : decode cX10_init 234 = .ok (.iconst 0, 1) := by decide +kernel
theorem dX10_init_235 : decode cX10_init 235 = .ok (.iconst (-1), 1) := by decide +kernel
theorem dX10_init_236 : decode cX10_init 236 = .ok (.iastore, 1) := by decide +kernel
theorem dX10_init_237 : decode cX10_init 237 = .ok (.aload_n 0, 1) := by decide +kernel
theorem dX10_init_238 : decode cX10_init 238 = .ok (.getfield 72, 3) := by decide +kernel
theorem dX10_init_241 : decode cX10_init 241 = .ok (.iconst 1, 1) := by decide +kernel
theorem dX10_init_242 : decode cX10_init 242 = .ok (.iconst (-1), 1) := by decide +kernel
theorem dX10_init_243 : decode cX10_init 243 = .ok (.iastore, 1) := by decide +kernel
theorem dX10_init_244 : decode cX10_init 244 = .ok (.return_, 1) := by decide +kernel
theorem dX10_isIn_0 : decode cX10_isIn 0 = .ok (.iload_n 0, 1) := by decide +kernel
theorem dX10_isIn_1 : decode cX10_isIn 1 = .ok (.iload_n 1, 1) := by decide +kernel
theorem dX10_isIn_2 : decode cX10_isIn 2 = .ok (.if_icmp .lt 12, 3) := by decide +kernel
theorem dX10_isIn_5 : decode cX10_isIn 5 = .ok (.iload_n 0, 1) := by decide +kernel
theorem dX10_isIn_6 : decode cX10_isIn 6 = .ok (.iload_n 2, 1) := by decide +kernel
theorem dX10_isIn_7 : decode cX10_isIn 7 = .ok (.if_icmp .gt 7, 3) := by decide +kernel
theorem dX10_isIn_10 : decode cX10_isIn 10 = .ok (.iconst 1, 1) := by decide +kernel
theorem dX10_isIn_11 : decode cX10_isIn 11 = .ok (.goto 4, 3) := by decide +kernel
theorem dX10_isIn_14 : decode cX10_isIn 14 = .ok (.iconst 0, 1) := by decide +kernel
theorem dX10_isIn_15 : decode cX10_isIn 15 = .ok (.ireturn, 1) := by decide +kernel
theorem dX10_isWeek_0 : decode cX10_isWeek 0 = .ok (.iload_n 0, 1) := by decide +kernel
theorem dX10_isWeek_1 : decode cX10_isWeek 1 = .ok (.iconst 0, 1) := by decide +kernel
theorem dX10_isWeek_2 : decode cX10_isWeek 2 = .ok (.bipush 119, 2) := by decide +kernel
theorem dX10_isWeek_4 : decode cX10_isWeek 4 = .ok (.invokestatic 90, 3) := by decide +kernel
theorem dX10_isWeek_7 : decode cX10_isWeek 7 = .ok (.ireturn, 1) := by decide +kernel
theorem dX10_isPast_0 : decode cX10_isPast 0 = .ok (.iload_n 1, 1) := by decide +kernel
theorem dX10_isPast_1 : decode cX10_isPast 1 = .ok (.iconst 0, 1) := by decide +kernel
theorem dX10_isPast_2 : decode cX10_isPast 2 = .ok (.aload_n 0, 1) := by decide +kernel
theorem dX10_isPast_3 : decode cX10_isPast 3 = .ok (.getfield 94, 3) := by decide +kernel
theorem dX10_isPast_6 : decode cX10_isPast 6 = .ok (.invokestatic 90, 3) := by decide +kernel
theorem dX10_isPast_9 : decode cX10_isPast 9 = .ok (.ireturn, 1) := by decide +kernel
theorem dX10_isValue_0 : decode cX10_isValue 0 = .ok (.iload_n 0, 1) := by decide +kernel
theorem dX10_isValue_1 : decode cX10_isValue 1 = .ok (.tableswitch 62 0 3 #[31, 54, 38, 54], 31) := by decide +kernel
theorem dX10_isValue_32 : decode cX10_isValue 32 = .ok (.iload_n 1, 1) := by decide +kernel
theorem dX10_isValue_33 : decode cX10_isValue 33 = .ok (.iconst 0, 1) := by decide +kernel
theorem dX10_isValue_34 : decode cX10_isValue 34 = .ok (.iconst 5, 1) := by decide +kernel
theorem dX10_isValue_35 : decode cX10_isValue 35 = .ok (.invokestatic 90, 3) := by decide +kernel
theorem dX10_isValue_38 : decode cX10_isValue 38 = .ok (.ireturn, 1) := by decide +kernel
theorem dX10_isValue_39 : decode cX10_isValue 39 = .ok (.iload_n 1, 1) := by decide +kernel
theorem dX10_isValue_40 : decode cX10_isValue 40 = .ok (.iconst 1, 1) := by decide +kernel
theorem dX10_isValue_41 : decode cX10_isValue 41 = .ok (.if_icmp .eq 8, 3) := by decide +kernel
theorem dX10_isValue_44 : decode cX10_isValue 44 = .ok (.iload_n 1, 1) := by decide +kernel
theorem dX10_isValue_45 : decode cX10_isValue 45 = .ok (.iconst (-1), 1) := by decide +kernel
theorem dX10_isValue_46 : decode cX10_isValue 46 = .ok (.if_icmp .ne 7, 3) := by decide +kernel
theorem dX10_isValue_49 : decode cX10_isValue 49 = .ok (.iconst 1, 1) := by decide +kernel
theorem dX10_isValue_50 : decode cX10_isValue 50 = .ok (.goto 4, 3) := by decide +kernel
theorem dX10_isValue_53 : decode cX10_isValue 53 = .ok (.iconst 0, 1) := by decide +kernel
theorem dX10_isValue_54 : decode cX10_isValue 54 = .ok (.ireturn, 1) := by decide +kernel
theorem dX10_isValue_55 : decode cX10_isValue 55 = .ok (.iload_n 1, 1) := by decide +kernel
theorem dX10_isValue_56 : decode cX10_isValue 56 = .ok (.iconst 0, 1) := by decide +kernel
theorem dX10_isValue_57 : decode cX10_isValue 57 = .ok (.ldc 97, 2) := by decide +kernel
theorem dX10_isValue_59 : decode cX10_isValue 59 = .ok (.invokestatic 90, 3) := by decide +kernel
theorem dX10_isValue_62 : decode cX10_isValue 62 = .ok (.ireturn, 1) := by decide +kernel
theorem dX10_isValue_63 : decode cX10_isValue 63 = .ok (.iconst 0, 1) := by decide +kernel
theorem dX10_isValue_64 : decode cX10_isValue 64 = .ok (.ireturn, 1) := by decide +kernel
theorem dX10_change_0 : decode cX10_change 0 = .ok (.iload_n 1, 1) := by decide +kernel
theorem dX10_change_1 : decode cX10_change 1 = .ok (.iload_n 2, 1) := by decide +kernel
theorem dX10_change_2 : decode cX10_change 2 = .ok (.invokestatic 98, 3) := by decide +kernel
theorem dX10_change_5 : decode cX10_change 5 = .ok (.ifCond .eq 10, 3) := by decide +kernel
theorem dX10_change_8 : decode cX10_change 8 = .ok (.iload_n 3, 1) := by decide +kernel
theorem dX10_change_9 : decode cX10_change 9 = .ok (.invokestatic 102, 3) := by decide +kernel
theorem dX10_change_12 : decode cX10_change 12 = .ok (.ifCond .ne 6, 3) := by decide +kernel
theorem dX10_change_15 : decode cX10_change 15 = .ok (.ldc 106, 2) := by decide +kernel
theorem dX10_change_17 : decode cX10_change 17 = .ok (.ireturn, 1) := by decide +kernel
theorem dX10_change_18 : decode cX10_change 18 = .ok (.aload_n 0, 1) := by decide +kernel
theorem dX10_change_19 : decode cX10_change 19 = .ok (.getfield 107, 3) := by decide +kernel
theorem dX10_change_22 : decode cX10_change 22 = .ok (.bipush 80, 2) := by decide +kernel
theorem dX10_change_24 : decode cX10_change 24 = .ok (.if_icmp .ne 6, 3) := by decide +kernel
theorem dX10_change_27 : decode cX10_change 27 = .ok (.ldc 110, 2) := by decide +kernel
theorem dX10_change_29 : decode cX10_change 29 = .ok (.ireturn, 1) := by decide +kernel
theorem dX10_change_30 : decode cX10_change 30 = .ok (.aload_n 0, 1) := by decide +kernel
theorem dX10_change_31 : decode cX10_change 31 = .ok (.getfield 7, 3) := by decide +kernel
theorem dX10_change_34 : decode cX10_change 34 = .ok (.aload_n 0, 1) := by decide +kernel
theorem dX10_change_35 : decode cX10_change 35 = .ok (.getfield 107, 3) := by decide +kernel
theorem dX10_change_38 : decode cX10_change 38 = .ok (.iload_n 1, 1) := by decide +kernel
theorem dX10_change_39 : decode cX10_change 39 = .ok (.iastore, 1) := by decide +kernel
theorem dX10_change_40 : decode cX10_change 40 = .ok (.aload_n 0, 1) := by decide +kernel
theorem dX10_change_41 : decode cX10_change 41 = .ok (.getfield 13, 3) := by decide +kernel
theorem dX10_change_44 : decode cX10_change 44 = .ok (.aload_n 0, 1) := by decide +kernel
theorem dX10_change_45 : decode cX10_change 45 = .ok (.getfield 107, 3) := by decide +kernel
theorem dX10_change_48 : decode cX10_change 48 = .ok (.iload_n 2, 1) := by decide +kernel
theorem dX10_change_49 : decode cX10_change 49 = .ok (.iastore, 1) := by decide +kernel
theorem dX10_change_50 : decode cX10_change 50 = .ok (.aload_n 0, 1) := by decide +kernel
theorem dX10_change_51 : decode cX10_change 51 = .ok (.getfield 16, 3) := by decide +kernel
theorem dX10_change_54 : decode cX10_change 54 = .ok (.aload_n 0, 1) := by decide +kernel
theorem dX10_change_55 : decode cX10_change 55 = .ok (.getfield 107, 3) := by decide +kernel
theorem dX10_change_58 : decode cX10_change 58 = .ok (.iload_n 3, 1) := by decide +kernel
theorem dX10_change_59 : decode cX10_change 59 = .ok (.iastore, 1) := by decide +kernel
theorem dX10_change_60 : decode cX10_change 60 = .ok (.aload_n 0, 1) := by decide +kernel
theorem dX10_change_61 : decode cX10_change 61 = .ok (.getfield 19, 3) := by decide +kernel
theorem dX10_change_64 : decode cX10_change 64 = .ok (.aload_n 0, 1) := by decide +kernel
theorem dX10_change_65 : decode cX10_change 65 = .ok (.getfield 107, 3) := by decide +kernel
theorem dX10_change_68 : decode cX10_change 68 = .ok (.aload_n 0, 1) := by decide +kernel
theorem dX10_change_69 : decode cX10_change 69 = .ok (.getfield 94, 3) := by decide +kernel
theorem dX10_change_72 : decode cX10_change 72 = .ok (.iastore, 1) := by decide +kernel
theorem dX10_change_73 : decode cX10_change 73 = .ok (.aload_n 0, 1) := by decide +kernel
theorem dX10_change_74 : decode cX10_change 74 = .ok (.getfield 22, 3) := by decide +kernel
theorem dX10_change_77 : decode cX10_change 77 = .ok (.aload_n 0, 1) := by decide +kernel
theorem dX10_change_78 : decode cX10_change 78 = .ok (.getfield 107, 3) := by decide +kernel
theorem dX10_change_81 : decode cX10_change 81 = .ok (.iconst (-1), 1) := by decide +kernel
theorem dX10_change_82 : decode cX10_change 82 = .ok (.iastore, 1) := by decide +kernel
theorem dX10_change_83 : decode cX10_change 83 = .ok (.aload_n 0, 1) := by decide +kernel
theorem dX10_change_84 : decode cX10_change 84 = .ok (.dup, 1) := by decide +kernel
theorem dX10_change_85 : decode cX10_change 85 = .ok (.getfield 107, 3) := by decide +kernel
theorem dX10_change_88 : decode cX10_change 88 = .ok (.iconst 1, 1) := by decide +kernel
theorem dX10_change_89 : decode cX10_change 89 = .ok (.iadd, 1) := by decide +kernel
theorem dX10_change_90 : decode cX10_change 90 = .ok (.putfield 107, 3) := by decide +kernel
theorem dX10_change_93 : decode cX10_change 93 = .ok (.aload_n 0, 1) := by decide +kernel
theorem dX10_change_94 : decode cX10_change 94 = .ok (.getfield 107, 3) := by decide +kernel
theorem dX10_change_97 : decode cX10_change 97 = .ok (.iconst 1, 1) := by decide +kernel
theorem dX10_change_98 : decode cX10_change 98 = .ok (.isub, 1) := by decide +kernel
theorem dX10_change_99 : decode cX10_change 99 = .ok (.ireturn, 1) := by decide +kernel
theorem dX10_isChange_0 : decode cX10_isChange 0 = .ok (.iload_n 1, 1) := by decide +kernel
theorem dX10_isChange_1 : decode cX10_isChange 1 = .ok (.iconst 0, 1) := by decide +kernel
theorem dX10_isChange_2 : decode cX10_isChange 2 = .ok (.aload_n 0, 1) := by decide +kernel
theorem dX10_isChange_3 : decode cX10_isChange 3 = .ok (.getfield 107, 3) := by decide +kernel
theorem dX10_isChange_6 : decode cX10_isChange 6 = .ok (.iconst 1, 1) := by decide +kernel
theorem dX10_isChange_7 : decode cX10_isChange 7 = .ok (.isub, 1) := by decide +kernel
theorem dX10_isChange_8 : decode cX10_isChange 8 = .ok (.invokestatic 90, 3) := by decide +kernel
theorem dX10_isChange_11 : decode cX10_isChange 11 = .ok (.ireturn, 1) := by decide +kernel
theorem dX10_isOf_0 : decode cX10_isOf 0 = .ok (.aload_n 0, 1) := by decide +kernel
theorem dX10_isOf_1 : decode cX10_isOf 1 = .ok (.iload_n 1, 1) := by decide +kernel
theorem dX10_isOf_2 : decode cX10_isOf 2 = .ok (.invokevirtual 111, 3) := by decide +kernel
theorem dX10_isOf_5 : decode cX10_isOf 5 = .ok (.ifCond .eq 12, 3) := by decide +kernel
theorem dX10_isOf_8 : decode cX10_isOf 8 = .ok (.iload_n 2, 1) := by decide +kernel
theorem dX10_isOf_9 : decode cX10_isOf 9 = .ok (.iconst 0, 1) := by decide +kernel
theorem dX10_isOf_10 : decode cX10_isOf 10 = .ok (.iconst 3, 1) := by decide +kernel
theorem dX10_isOf_11 : decode cX10_isOf 11 = .ok (.invokestatic 90, 3) := by decide +kernel
theorem dX10_isOf_14 : decode cX10_isOf 14 = .ok (.ifCond .ne 6, 3) := by decide +kernel
theorem dX10_isOf_17 : decode cX10_isOf 17 = .ok (.ldc 106, 2) := by decide +kernel
theorem dX10_isOf_19 : decode cX10_isOf 19 = .ok (.ireturn, 1) := by decide +kernel
theorem dX10_isOf_20 : decode cX10_isOf 20 = .ok (.iload_n 2, 1) := by decide +kernel
theorem dX10_isOf_21 : decode cX10_isOf 21 = .ok (.ifCond .eq 28, 3) := by decide +kernel
theorem dX10_isOf_24 : decode cX10_isOf 24 = .ok (.aload_n 0, 1) := by decide +kernel
theorem dX10_isOf_25 : decode cX10_isOf 25 = .ok (.getfield 7, 3) := by decide +kernel
theorem dX10_isOf_28 : decode cX10_isOf 28 = .ok (.iload_n 1, 1) := by decide +kernel
theorem dX10_isOf_29 : decode cX10_isOf 29 = .ok (.iaload, 1) := by decide +kernel
theorem dX10_isOf_30 : decode cX10_isOf 30 = .ok (.iload_n 2, 1) := by decide +kernel
theorem dX10_isOf_31 : decode cX10_isOf 31 = .ok (.if_icmp .eq 18, 3) := by decide +kernel
theorem dX10_isOf_34 : decode cX10_isOf 34 = .ok (.iload_n 2, 1) := by decide +kernel
theorem dX10_isOf_35 : decode cX10_isOf 35 = .ok (.iconst 1, 1) := by decide +kernel
theorem dX10_isOf_36 : decode cX10_isOf 36 = .ok (.if_icmp .ne 17, 3) := by decide +kernel
theorem dX10_isOf_39 : decode cX10_isOf 39 = .ok (.aload_n 0, 1) := by decide +kernel
theorem dX10_isOf_40 : decode cX10_isOf 40 = .ok (.getfield 7, 3) := by decide +kernel
theorem dX10_isOf_43 : decode cX10_isOf 43 = .ok (.iload_n 1, 1) := by decide +kernel
theorem dX10_isOf_44 : decode cX10_isOf 44 = .ok (.iaload, 1) := by decide +kernel
theorem dX10_isOf_45 : decode cX10_isOf 45 = .ok (.iconst 3, 1) := by decide +kernel
theorem dX10_isOf_46 : decode cX10_isOf 46 = .ok (.if_icmp .ne 7, 3) := by decide +kernel
theorem dX10_isOf_49 : decode cX10_isOf 49 = .ok (.iconst 1, 1) := by decide +kernel
theorem dX10_isOf_50 : decode cX10_isOf 50 = .ok (.goto 4, 3) := by decide +kernel
theorem dX10_isOf_53 : decode cX10_isOf 53 = .ok (.iconst 0, 1) := by decide +kernel
theorem dX10_isOf_54 : decode cX10_isOf 54 = .ok (.ireturn, 1) := by decide +kernel
theorem dX10_takeBack_0 : decode cX10_takeBack 0 = .ok (.aload_n 0, 1) := by decide +kernel
theorem dX10_takeBack_1 : decode cX10_takeBack 1 = .ok (.iload_n 1, 1) := by decide +kernel
theorem dX10_takeBack_2 : decode cX10_takeBack 2 = .ok (.invokevirtual 111, 3) := by decide +kernel
theorem dX10_takeBack_5 : decode cX10_takeBack 5 = .ok (.ifCond .ne 6, 3) := by decide +kernel
theorem dX10_takeBack_8 : decode cX10_takeBack 8 = .ok (.ldc 106, 2) := by decide +kernel
theorem dX10_takeBack_10 : decode cX10_takeBack 10 = .ok (.ireturn, 1) := by decide +kernel
theorem dX10_takeBack_11 : decode cX10_takeBack 11 = .ok (.aload_n 0, 1) := by decide +kernel
theorem dX10_takeBack_12 : decode cX10_takeBack 12 = .ok (.getfield 22, 3) := by decide +kernel
theorem dX10_takeBack_15 : decode cX10_takeBack 15 = .ok (.iload_n 1, 1) := by decide +kernel
theorem dX10_takeBack_16 : decode cX10_takeBack 16 = .ok (.iaload, 1) := by decide +kernel
theorem dX10_takeBack_17 : decode cX10_takeBack 17 = .ok (.ifCond .lt 6, 3) := by decide +kernel
theorem dX10_takeBack_20 : decode cX10_takeBack 20 = .ok (.ldc 114, 2) := by decide +kernel
theorem dX10_takeBack_22 : decode cX10_takeBack 22 = .ok (.ireturn, 1) := by decide +kernel
theorem dX10_takeBack_23 : decode cX10_takeBack 23 = .ok (.aload_n 0, 1) := by decide +kernel
theorem dX10_takeBack_24 : decode cX10_takeBack 24 = .ok (.getfield 22, 3) := by decide +kernel
theorem dX10_takeBack_27 : decode cX10_takeBack 27 = .ok (.iload_n 1, 1) := by decide +kernel
theorem dX10_takeBack_28 : decode cX10_takeBack 28 = .ok (.aload_n 0, 1) := by decide +kernel
theorem dX10_takeBack_29 : decode cX10_takeBack 29 = .ok (.getfield 94, 3) := by decide +kernel
theorem dX10_takeBack_32 : decode cX10_takeBack 32 = .ok (.iastore, 1) := by decide +kernel
theorem dX10_takeBack_33 : decode cX10_takeBack 33 = .ok (.iconst 1, 1) := by decide +kernel
theorem dX10_takeBack_34 : decode cX10_takeBack 34 = .ok (.ireturn, 1) := by decide +kernel
theorem dX10_told_0 : decode cX10_told 0 = .ok (.aload_n 0, 1) := by decide +kernel
theorem dX10_told_1 : decode cX10_told 1 = .ok (.iload_n 1, 1) := by decide +kernel
theorem dX10_told_2 : decode cX10_told 2 = .ok (.invokevirtual 111, 3) := by decide +kernel
theorem dX10_told_5 : decode cX10_told 5 = .ok (.ifCond .eq 12, 3) := by decide +kernel
theorem dX10_told_8 : decode cX10_told 8 = .ok (.iload_n 2, 1) := by decide +kernel
theorem dX10_told_9 : decode cX10_told 9 = .ok (.iconst 0, 1) := by decide +kernel
theorem dX10_told_10 : decode cX10_told 10 = .ok (.iconst 4, 1) := by decide +kernel
theorem dX10_told_11 : decode cX10_told 11 = .ok (.invokestatic 90, 3) := by decide +kernel
theorem dX10_told_14 : decode cX10_told 14 = .ok (.ifCond .ne 6, 3) := by decide +kernel
theorem dX10_told_17 : decode cX10_told 17 = .ok (.ldc 106, 2) := by decide +kernel
theorem dX10_told_19 : decode cX10_told 19 = .ok (.ireturn, 1) := by decide +kernel
theorem dX10_told_20 : decode cX10_told 20 = .ok (.iload_n 2, 1) := by decide +kernel
theorem dX10_told_21 : decode cX10_told 21 = .ok (.tableswitch 59 0 3 #[31, 38, 45, 52], 31) := by decide +kernel
theorem dX10_told_52 : decode cX10_told 52 = .ok (.aload_n 0, 1) := by decide +kernel
theorem dX10_told_53 : decode cX10_told 53 = .ok (.getfield 7, 3) := by decide +kernel
theorem dX10_told_56 : decode cX10_told 56 = .ok (.iload_n 1, 1) := by decide +kernel
theorem dX10_told_57 : decode cX10_told 57 = .ok (.iaload, 1) := by decide +kernel
theorem dX10_told_58 : decode cX10_told 58 = .ok (.ireturn, 1) := by decide +kernel
theorem dX10_told_59 : decode cX10_told 59 = .ok (.aload_n 0, 1) := by decide +kernel
theorem dX10_told_60 : decode cX10_told 60 = .ok (.getfield 13, 3) := by decide +kernel
theorem dX10_told_63 : decode cX10_told 63 = .ok (.iload_n 1, 1) := by decide +kernel
theorem dX10_told_64 : decode cX10_told 64 = .ok (.iaload, 1) := by decide +kernel
theorem dX10_told_65 : decode cX10_told 65 = .ok (.ireturn, 1) := by decide +kernel
theorem dX10_told_66 : decode cX10_told 66 = .ok (.aload_n 0, 1) := by decide +kernel
theorem dX10_told_67 : decode cX10_told 67 = .ok (.getfield 16, 3) := by decide +kernel
theorem dX10_told_70 : decode cX10_told 70 = .ok (.iload_n 1, 1) := by decide +kernel
theorem dX10_told_71 : decode cX10_told 71 = .ok (.iaload, 1) := by decide +kernel
theorem dX10_told_72 : decode cX10_told 72 = .ok (.ireturn, 1) := by decide +kernel
theorem dX10_told_73 : decode cX10_told 73 = .ok (.aload_n 0, 1) := by decide +kernel
theorem dX10_told_74 : decode cX10_told 74 = .ok (.getfield 19, 3) := by decide +kernel
theorem dX10_told_77 : decode cX10_told 77 = .ok (.iload_n 1, 1) := by decide +kernel
theorem dX10_told_78 : decode cX10_told 78 = .ok (.iaload, 1) := by decide +kernel
theorem dX10_told_79 : decode cX10_told 79 = .ok (.ireturn, 1) := by decide +kernel
theorem dX10_told_80 : decode cX10_told 80 = .ok (.aload_n 0, 1) := by decide +kernel
theorem dX10_told_81 : decode cX10_told 81 = .ok (.getfield 22, 3) := by decide +kernel
theorem dX10_told_84 : decode cX10_told 84 = .ok (.iload_n 1, 1) := by decide +kernel
theorem dX10_told_85 : decode cX10_told 85 = .ok (.iaload, 1) := by decide +kernel
theorem dX10_told_86 : decode cX10_told 86 = .ok (.ifCond .ge 8, 3) := by decide +kernel
theorem dX10_told_89 : decode cX10_told 89 = .ok (.ldc 115, 2) := by decide +kernel
theorem dX10_told_91 : decode cX10_told 91 = .ok (.goto 9, 3) := by decide +kernel
theorem dX10_told_94 : decode cX10_told 94 = .ok (.aload_n 0, 1) := by decide +kernel
theorem dX10_told_95 : decode cX10_told 95 = .ok (.getfield 22, 3) := by decide +kernel
theorem dX10_told_98 : decode cX10_told 98 = .ok (.iload_n 1, 1) := by decide +kernel
theorem dX10_told_99 : decode cX10_told 99 = .ok (.iaload, 1) := by decide +kernel
theorem dX10_told_100 : decode cX10_told 100 = .ok (.ireturn, 1) := by decide +kernel
theorem dX10_holds_0 : decode cX10_holds 0 = .ok (.aload_n 0, 1) := by decide +kernel
theorem dX10_holds_1 : decode cX10_holds 1 = .ok (.getfield 19, 3) := by decide +kernel
theorem dX10_holds_4 : decode cX10_holds 4 = .ok (.iload_n 1, 1) := by decide +kernel
theorem dX10_holds_5 : decode cX10_holds 5 = .ok (.iaload, 1) := by decide +kernel
theorem dX10_holds_6 : decode cX10_holds 6 = .ok (.iload_n 2, 1) := by decide +kernel
theorem dX10_holds_7 : decode cX10_holds 7 = .ok (.if_icmp .gt 36, 3) := by decide +kernel
theorem dX10_holds_10 : decode cX10_holds 10 = .ok (.aload_n 0, 1) := by decide +kernel
theorem dX10_holds_11 : decode cX10_holds 11 = .ok (.getfield 22, 3) := by decide +kernel
theorem dX10_holds_14 : decode cX10_holds 14 = .ok (.iload_n 1, 1) := by decide +kernel
theorem dX10_holds_15 : decode cX10_holds 15 = .ok (.iaload, 1) := by decide +kernel
theorem dX10_holds_16 : decode cX10_holds 16 = .ok (.ifCond .lt 13, 3) := by decide +kernel
theorem dX10_holds_19 : decode cX10_holds 19 = .ok (.aload_n 0, 1) := by decide +kernel
theorem dX10_holds_20 : decode cX10_holds 20 = .ok (.getfield 22, 3) := by decide +kernel
theorem dX10_holds_23 : decode cX10_holds 23 = .ok (.iload_n 1, 1) := by decide +kernel
theorem dX10_holds_24 : decode cX10_holds 24 = .ok (.iaload, 1) := by decide +kernel
theorem dX10_holds_25 : decode cX10_holds 25 = .ok (.iload_n 2, 1) := by decide +kernel
theorem dX10_holds_26 : decode cX10_holds 26 = .ok (.if_icmp .le 17, 3) := by decide +kernel
theorem dX10_holds_29 : decode cX10_holds 29 = .ok (.aload_n 0, 1) := by decide +kernel
theorem dX10_holds_30 : decode cX10_holds 30 = .ok (.getfield 16, 3) := by decide +kernel
theorem dX10_holds_33 : decode cX10_holds 33 = .ok (.iload_n 1, 1) := by decide +kernel
theorem dX10_holds_34 : decode cX10_holds 34 = .ok (.iaload, 1) := by decide +kernel
theorem dX10_holds_35 : decode cX10_holds 35 = .ok (.iload_n 3, 1) := by decide +kernel
theorem dX10_holds_36 : decode cX10_holds 36 = .ok (.if_icmp .gt 7, 3) := by decide +kernel
theorem dX10_holds_39 : decode cX10_holds 39 = .ok (.iconst 1, 1) := by decide +kernel
theorem dX10_holds_40 : decode cX10_holds 40 = .ok (.goto 4, 3) := by decide +kernel
theorem dX10_holds_43 : decode cX10_holds 43 = .ok (.iconst 0, 1) := by decide +kernel
theorem dX10_holds_44 : decode cX10_holds 44 = .ok (.ireturn, 1) := by decide +kernel
theorem dX10_latest_0 : decode cX10_latest 0 = .ok (.iconst (-1), 1) := by decide +kernel
theorem dX10_latest_1 : decode cX10_latest 1 = .ok (.istore 4, 2) := by decide +kernel
theorem dX10_latest_3 : decode cX10_latest 3 = .ok (.iconst 0, 1) := by decide +kernel
theorem dX10_latest_4 : decode cX10_latest 4 = .ok (.istore 5, 2) := by decide +kernel
theorem dX10_latest_6 : decode cX10_latest 6 = .ok (.iload 5, 2) := by decide +kernel
theorem dX10_latest_8 : decode cX10_latest 8 = .ok (.aload_n 0, 1) := by decide +kernel
theorem dX10_latest_9 : decode cX10_latest 9 = .ok (.getfield 107, 3) := by decide +kernel
theorem dX10_latest_12 : decode cX10_latest 12 = .ok (.if_icmp .ge 57, 3) := by decide +kernel
theorem dX10_latest_15 : decode cX10_latest 15 = .ok (.aload_n 0, 1) := by decide +kernel
theorem dX10_latest_16 : decode cX10_latest 16 = .ok (.getfield 7, 3) := by decide +kernel
theorem dX10_latest_19 : decode cX10_latest 19 = .ok (.iload 5, 2) := by decide +kernel
theorem dX10_latest_21 : decode cX10_latest 21 = .ok (.iaload, 1) := by decide +kernel
theorem dX10_latest_22 : decode cX10_latest 22 = .ok (.iload_n 1, 1) := by decide +kernel
theorem dX10_latest_23 : decode cX10_latest 23 = .ok (.if_icmp .ne 40, 3) := by decide +kernel
theorem dX10_latest_26 : decode cX10_latest 26 = .ok (.aload_n 0, 1) := by decide +kernel
theorem dX10_latest_27 : decode cX10_latest 27 = .ok (.iload 5, 2) := by decide +kernel
theorem dX10_latest_29 : decode cX10_latest 29 = .ok (.iload_n 2, 1) := by decide +kernel
theorem dX10_latest_30 : decode cX10_latest 30 = .ok (.iload_n 3, 1) := by decide +kernel
theorem dX10_latest_31 : decode cX10_latest 31 = .ok (.invokevirtual 116, 3) := by decide +kernel
theorem dX10_latest_34 : decode cX10_latest 34 = .ok (.ifCond .eq 29, 3) := by decide +kernel
theorem dX10_latest_37 : decode cX10_latest 37 = .ok (.iload 4, 2) := by decide +kernel
theorem dX10_latest_39 : decode cX10_latest 39 = .ok (.ifCond .lt 20, 3) := by decide +kernel
theorem dX10_latest_42 : decode cX10_latest 42 = .ok (.aload_n 0, 1) := by decide +kernel
theorem dX10_latest_43 : decode cX10_latest 43 = .ok (.getfield 16, 3) := by decide +kernel
theorem dX10_latest_46 : decode cX10_latest 46 = .ok (.iload 5, 2) := by decide +kernel
theorem dX10_latest_48 : decode cX10_latest 48 = .ok (.iaload, 1) := by decide +kernel
theorem dX10_latest_49 : decode cX10_latest 49 = .ok (.aload_n 0, 1) := by decide +kernel
theorem dX10_latest_50 : decode cX10_latest 50 = .ok (.getfield 16, 3) := by decide +kernel
theorem dX10_latest_53 : decode cX10_latest 53 = .ok (.iload 4, 2) := by decide +kernel
theorem dX10_latest_55 : decode cX10_latest 55 = .ok (.iaload, 1) := by decide +kernel
theorem dX10_latest_56 : decode cX10_latest 56 = .ok (.if_icmp .lt 7, 3) := by decide +kernel
theorem dX10_latest_59 : decode cX10_latest 59 = .ok (.iload 5, 2) := by decide +kernel
theorem dX10_latest_61 : decode cX10_latest 61 = .ok (.istore 4, 2) := by decide +kernel
theorem dX10_latest_63 : decode cX10_latest 63 = .ok (.iinc 5 1, 3) := by decide +kernel
theorem dX10_latest_66 : decode cX10_latest 66 = .ok (.goto (-60), 3) := by decide +kernel
theorem dX10_latest_69 : decode cX10_latest 69 = .ok (.iload 4, 2) := by decide +kernel
theorem dX10_latest_71 : decode cX10_latest 71 = .ok (.ifCond .ge 7, 3) := by decide +kernel
theorem dX10_latest_74 : decode cX10_latest 74 = .ok (.iconst (-1), 1) := by decide +kernel
theorem dX10_latest_75 : decode cX10_latest 75 = .ok (.goto 10, 3) := by decide +kernel
theorem dX10_latest_78 : decode cX10_latest 78 = .ok (.aload_n 0, 1) := by decide +kernel
theorem dX10_latest_79 : decode cX10_latest 79 = .ok (.getfield 13, 3) := by decide +kernel
theorem dX10_latest_82 : decode cX10_latest 82 = .ok (.iload 4, 2) := by decide +kernel
theorem dX10_latest_84 : decode cX10_latest 84 = .ok (.iaload, 1) := by decide +kernel
theorem dX10_latest_85 : decode cX10_latest 85 = .ok (.ireturn, 1) := by decide +kernel
theorem dX10_income_0 : decode cX10_income 0 = .ok (.aload_n 0, 1) := by decide +kernel
theorem dX10_income_1 : decode cX10_income 1 = .ok (.iconst 3, 1) := by decide +kernel
theorem dX10_income_2 : decode cX10_income 2 = .ok (.iload_n 1, 1) := by decide +kernel
theorem dX10_income_3 : decode cX10_income 3 = .ok (.iload_n 2, 1) := by decide +kernel
theorem dX10_income_4 : decode cX10_income 4 = .ok (.invokevirtual 119, 3) := by decide +kernel
theorem dX10_income_7 : decode cX10_income 7 = .ok (.istore_n 3, 1) := by decide +kernel
theorem dX10_income_8 : decode cX10_income 8 = .ok (.iload_n 3, 1) := by decide +kernel
theorem dX10_income_9 : decode cX10_income 9 = .ok (.ifCond .ge 13, 3) := by decide +kernel
theorem dX10_income_12 : decode cX10_income 12 = .ok (.aload_n 0, 1) := by decide +kernel
theorem dX10_income_13 : decode cX10_income 13 = .ok (.iconst 1, 1) := by decide +kernel
theorem dX10_income_14 : decode cX10_income 14 = .ok (.iload_n 1, 1) := by decide +kernel
theorem dX10_income_15 : decode cX10_income 15 = .ok (.iload_n 2, 1) := by decide +kernel
theorem dX10_income_16 : decode cX10_income 16 = .ok (.invokevirtual 119, 3) := by decide +kernel
theorem dX10_income_19 : decode cX10_income 19 = .ok (.goto 4, 3) := by decide +kernel
theorem dX10_income_22 : decode cX10_income 22 = .ok (.iload_n 3, 1) := by decide +kernel
theorem dX10_income_23 : decode cX10_income 23 = .ok (.istore_n 3, 1) := by decide +kernel
theorem dX10_income_24 : decode cX10_income 24 = .ok (.iload_n 3, 1) := by decide +kernel
theorem dX10_income_25 : decode cX10_income 25 = .ok (.ifCond .ge 7, 3) := by decide +kernel
theorem dX10_income_28 : decode cX10_income 28 = .ok (.iconst 0, 1) := by decide +kernel
theorem dX10_income_29 : decode cX10_income 29 = .ok (.goto 4, 3) := by decide +kernel
theorem dX10_income_32 : decode cX10_income 32 = .ok (.iload_n 3, 1) := by decide +kernel
theorem dX10_income_33 : decode cX10_income 33 = .ok (.ireturn, 1) := by decide +kernel
theorem dX10_children_0 : decode cX10_children 0 = .ok (.iconst 0, 1) := by decide +kernel
theorem dX10_children_1 : decode cX10_children 1 = .ok (.istore_n 3, 1) := by decide +kernel
theorem dX10_children_2 : decode cX10_children 2 = .ok (.iconst 0, 1) := by decide +kernel
theorem dX10_children_3 : decode cX10_children 3 = .ok (.istore 4, 2) := by decide +kernel
theorem dX10_children_5 : decode cX10_children 5 = .ok (.iload 4, 2) := by decide +kernel
theorem dX10_children_7 : decode cX10_children 7 = .ok (.aload_n 0, 1) := by decide +kernel
theorem dX10_children_8 : decode cX10_children 8 = .ok (.getfield 107, 3) := by decide +kernel
theorem dX10_children_11 : decode cX10_children 11 = .ok (.if_icmp .ge 45, 3) := by decide +kernel
theorem dX10_children_14 : decode cX10_children 14 = .ok (.iload_n 3, 1) := by decide +kernel
theorem dX10_children_15 : decode cX10_children 15 = .ok (.aload_n 0, 1) := by decide +kernel
theorem dX10_children_16 : decode cX10_children 16 = .ok (.getfield 7, 3) := by decide +kernel
theorem dX10_children_19 : decode cX10_children 19 = .ok (.iload 4, 2) := by decide +kernel
theorem dX10_children_21 : decode cX10_children 21 = .ok (.iaload, 1) := by decide +kernel
theorem dX10_children_22 : decode cX10_children 22 = .ok (.iconst 2, 1) := by decide +kernel
theorem dX10_children_23 : decode cX10_children 23 = .ok (.if_icmp .ne 24, 3) := by decide +kernel
theorem dX10_children_26 : decode cX10_children 26 = .ok (.aload_n 0, 1) := by decide +kernel
theorem dX10_children_27 : decode cX10_children 27 = .ok (.iload 4, 2) := by decide +kernel
theorem dX10_children_29 : decode cX10_children 29 = .ok (.iload_n 1, 1) := by decide +kernel
theorem dX10_children_30 : decode cX10_children 30 = .ok (.iload_n 2, 1) := by decide +kernel
theorem dX10_children_31 : decode cX10_children 31 = .ok (.invokevirtual 116, 3) := by decide +kernel
theorem dX10_children_34 : decode cX10_children 34 = .ok (.ifCond .eq 13, 3) := by decide +kernel
theorem dX10_children_37 : decode cX10_children 37 = .ok (.aload_n 0, 1) := by decide +kernel
theorem dX10_children_38 : decode cX10_children 38 = .ok (.getfield 13, 3) := by decide +kernel
theorem dX10_children_41 : decode cX10_children 41 = .ok (.iload 4, 2) := by decide +kernel
theorem dX10_children_43 : decode cX10_children 43 = .ok (.iaload, 1) := by decide +kernel
theorem dX10_children_44 : decode cX10_children 44 = .ok (.goto 4, 3) := by decide +kernel
theorem dX10_children_47 : decode cX10_children 47 = .ok (.iconst 0, 1) := by decide +kernel
theorem dX10_children_48 : decode cX10_children 48 = .ok (.iadd, 1) := by decide +kernel
theorem dX10_children_49 : decode cX10_children 49 = .ok (.istore_n 3, 1) := by decide +kernel
theorem dX10_children_50 : decode cX10_children 50 = .ok (.iinc 4 1, 3) := by decide +kernel
theorem dX10_children_53 : decode cX10_children 53 = .ok (.goto (-48), 3) := by decide +kernel
theorem dX10_children_56 : decode cX10_children 56 = .ok (.iload_n 3, 1) := by decide +kernel
theorem dX10_children_57 : decode cX10_children 57 = .ok (.ifCond .ge 7, 3) := by decide +kernel
theorem dX10_children_60 : decode cX10_children 60 = .ok (.iconst 0, 1) := by decide +kernel
theorem dX10_children_61 : decode cX10_children 61 = .ok (.goto 13, 3) := by decide +kernel
theorem dX10_children_64 : decode cX10_children 64 = .ok (.iload_n 3, 1) := by decide +kernel
theorem dX10_children_65 : decode cX10_children 65 = .ok (.iconst 4, 1) := by decide +kernel
theorem dX10_children_66 : decode cX10_children 66 = .ok (.if_icmp .le 7, 3) := by decide +kernel
theorem dX10_children_69 : decode cX10_children 69 = .ok (.iconst 4, 1) := by decide +kernel
theorem dX10_children_70 : decode cX10_children 70 = .ok (.goto 4, 3) := by decide +kernel
theorem dX10_children_73 : decode cX10_children 73 = .ok (.iload_n 3, 1) := by decide +kernel
theorem dX10_children_74 : decode cX10_children 74 = .ok (.ireturn, 1) := by decide +kernel
theorem dX10_others_0 : decode cX10_others 0 = .ok (.aload_n 0, 1) := by decide +kernel
theorem dX10_others_1 : decode cX10_others 1 = .ok (.iconst 0, 1) := by decide +kernel
theorem dX10_others_2 : decode cX10_others 2 = .ok (.iload_n 1, 1) := by decide +kernel
theorem dX10_others_3 : decode cX10_others 3 = .ok (.iload_n 2, 1) := by decide +kernel
theorem dX10_others_4 : decode cX10_others 4 = .ok (.invokevirtual 119, 3) := by decide +kernel
theorem dX10_others_7 : decode cX10_others 7 = .ok (.istore_n 3, 1) := by decide +kernel
theorem dX10_others_8 : decode cX10_others 8 = .ok (.iload_n 3, 1) := by decide +kernel
theorem dX10_others_9 : decode cX10_others 9 = .ok (.ifCond .ge 7, 3) := by decide +kernel
theorem dX10_others_12 : decode cX10_others 12 = .ok (.iconst 0, 1) := by decide +kernel
theorem dX10_others_13 : decode cX10_others 13 = .ok (.goto 4, 3) := by decide +kernel
theorem dX10_others_16 : decode cX10_others 16 = .ok (.iload_n 3, 1) := by decide +kernel
theorem dX10_others_17 : decode cX10_others 17 = .ok (.ireturn, 1) := by decide +kernel
theorem dX10_known_0 : decode cX10_known 0 = .ok (.aload_n 0, 1) := by decide +kernel
theorem dX10_known_1 : decode cX10_known 1 = .ok (.iload_n 1, 1) := by decide +kernel
theorem dX10_known_2 : decode cX10_known 2 = .ok (.invokevirtual 123, 3) := by decide +kernel
theorem dX10_known_5 : decode cX10_known 5 = .ok (.ifCond .eq 19, 3) := by decide +kernel
theorem dX10_known_8 : decode cX10_known 8 = .ok (.iload_n 2, 1) := by decide +kernel
theorem dX10_known_9 : decode cX10_known 9 = .ok (.invokestatic 102, 3) := by decide +kernel
theorem dX10_known_12 : decode cX10_known 12 = .ok (.ifCond .eq 12, 3) := by decide +kernel
theorem dX10_known_15 : decode cX10_known 15 = .ok (.iload_n 3, 1) := by decide +kernel
theorem dX10_known_16 : decode cX10_known 16 = .ok (.iconst 0, 1) := by decide +kernel
theorem dX10_known_17 : decode cX10_known 17 = .ok (.iconst 2, 1) := by decide +kernel
theorem dX10_known_18 : decode cX10_known 18 = .ok (.invokestatic 90, 3) := by decide +kernel
theorem dX10_known_21 : decode cX10_known 21 = .ok (.ifCond .ne 6, 3) := by decide +kernel
theorem dX10_known_24 : decode cX10_known 24 = .ok (.ldc 106, 2) := by decide +kernel
theorem dX10_known_26 : decode cX10_known 26 = .ok (.ireturn, 1) := by decide +kernel
theorem dX10_known_27 : decode cX10_known 27 = .ok (.iload_n 3, 1) := by decide +kernel
theorem dX10_known_28 : decode cX10_known 28 = .ok (.ifCond .ne 12, 3) := by decide +kernel
theorem dX10_known_31 : decode cX10_known 31 = .ok (.aload_n 0, 1) := by decide +kernel
theorem dX10_known_32 : decode cX10_known 32 = .ok (.iload_n 1, 1) := by decide +kernel
theorem dX10_known_33 : decode cX10_known 33 = .ok (.iload_n 2, 1) := by decide +kernel
theorem dX10_known_34 : decode cX10_known 34 = .ok (.invokevirtual 126, 3) := by decide +kernel
theorem dX10_known_37 : decode cX10_known 37 = .ok (.goto 23, 3) := by decide +kernel
theorem dX10_known_40 : decode cX10_known 40 = .ok (.iload_n 3, 1) := by decide +kernel
theorem dX10_known_41 : decode cX10_known 41 = .ok (.iconst 1, 1) := by decide +kernel
theorem dX10_known_42 : decode cX10_known 42 = .ok (.if_icmp .ne 12, 3) := by decide +kernel
theorem dX10_known_45 : decode cX10_known 45 = .ok (.aload_n 0, 1) := by decide +kernel
theorem dX10_known_46 : decode cX10_known 46 = .ok (.iload_n 1, 1) := by decide +kernel
theorem dX10_known_47 : decode cX10_known 47 = .ok (.iload_n 2, 1) := by decide +kernel
theorem dX10_known_48 : decode cX10_known 48 = .ok (.invokevirtual 130, 3) := by decide +kernel
theorem dX10_known_51 : decode cX10_known 51 = .ok (.goto 9, 3) := by decide +kernel
theorem dX10_known_54 : decode cX10_known 54 = .ok (.aload_n 0, 1) := by decide +kernel
theorem dX10_known_55 : decode cX10_known 55 = .ok (.iload_n 1, 1) := by decide +kernel
theorem dX10_known_56 : decode cX10_known 56 = .ok (.iload_n 2, 1) := by decide +kernel
theorem dX10_known_57 : decode cX10_known 57 = .ok (.invokevirtual 133, 3) := by decide +kernel
theorem dX10_known_60 : decode cX10_known 60 = .ok (.ireturn, 1) := by decide +kernel
theorem dX10_school_0 : decode cX10_school 0 = .ok (.iload_n 1, 1) := by decide +kernel
theorem dX10_school_1 : decode cX10_school 1 = .ok (.invokestatic 102, 3) := by decide +kernel
theorem dX10_school_4 : decode cX10_school 4 = .ok (.ifCond .eq 19, 3) := by decide +kernel
theorem dX10_school_7 : decode cX10_school 7 = .ok (.iload_n 2, 1) := by decide +kernel
theorem dX10_school_8 : decode cX10_school 8 = .ok (.ldc 115, 2) := by decide +kernel
theorem dX10_school_10 : decode cX10_school 10 = .ok (.if_icmp .eq 16, 3) := by decide +kernel
theorem dX10_school_13 : decode cX10_school 13 = .ok (.iload_n 2, 1) := by decide +kernel
theorem dX10_school_14 : decode cX10_school 14 = .ok (.iconst 0, 1) := by decide +kernel
theorem dX10_school_15 : decode cX10_school 15 = .ok (.bipush 7, 2) := by decide +kernel
theorem dX10_school_17 : decode cX10_school 17 = .ok (.invokestatic 90, 3) := by decide +kernel
theorem dX10_school_20 : decode cX10_school 20 = .ok (.ifCond .ne 6, 3) := by decide +kernel
theorem dX10_school_23 : decode cX10_school 23 = .ok (.ldc 106, 2) := by decide +kernel
theorem dX10_school_25 : decode cX10_school 25 = .ok (.ireturn, 1) := by decide +kernel
theorem dX10_school_26 : decode cX10_school 26 = .ok (.aload_n 0, 1) := by decide +kernel
theorem dX10_school_27 : decode cX10_school 27 = .ok (.getfield 25, 3) := by decide +kernel
theorem dX10_school_30 : decode cX10_school 30 = .ok (.iload_n 1, 1) := by decide +kernel
theorem dX10_school_31 : decode cX10_school 31 = .ok (.iaload, 1) := by decide +kernel
theorem dX10_school_32 : decode cX10_school 32 = .ok (.istore_n 3, 1) := by decide +kernel
theorem dX10_school_33 : decode cX10_school 33 = .ok (.aload_n 0, 1) := by decide +kernel
theorem dX10_school_34 : decode cX10_school 34 = .ok (.getfield 25, 3) := by decide +kernel
theorem dX10_school_37 : decode cX10_school 37 = .ok (.iload_n 1, 1) := by decide +kernel
theorem dX10_school_38 : decode cX10_school 38 = .ok (.iload_n 2, 1) := by decide +kernel
theorem dX10_school_39 : decode cX10_school 39 = .ok (.ldc 115, 2) := by decide +kernel
theorem dX10_school_41 : decode cX10_school 41 = .ok (.if_icmp .ne 7, 3) := by decide +kernel
theorem dX10_school_44 : decode cX10_school 44 = .ok (.iconst (-1), 1) := by decide +kernel
theorem dX10_school_45 : decode cX10_school 45 = .ok (.goto 4, 3) := by decide +kernel
theorem dX10_school_48 : decode cX10_school 48 = .ok (.iload_n 2, 1) := by decide +kernel
theorem dX10_school_49 : decode cX10_school 49 = .ok (.iastore, 1) := by decide +kernel
theorem dX10_school_50 : decode cX10_school 50 = .ok (.iload_n 3, 1) := by decide +kernel
theorem dX10_school_51 : decode cX10_school 51 = .ok (.ifCond .ge 8, 3) := by decide +kernel
theorem dX10_school_54 : decode cX10_school 54 = .ok (.ldc 115, 2) := by decide +kernel
theorem dX10_school_56 : decode cX10_school 56 = .ok (.goto 4, 3) := by decide +kernel
theorem dX10_school_59 : decode cX10_school 59 = .ok (.iload_n 3, 1) := by decide +kernel
theorem dX10_school_60 : decode cX10_school 60 = .ok (.ireturn, 1) := by decide +kernel
theorem dX10_diary_0 : decode cX10_diary 0 = .ok (.iload_n 2, 1) := by decide +kernel
theorem dX10_diary_1 : decode cX10_diary 1 = .ok (.aload_n 0, 1) := by decide +kernel
theorem dX10_diary_2 : decode cX10_diary 2 = .ok (.getfield 72, 3) := by decide +kernel
theorem dX10_diary_5 : decode cX10_diary 5 = .ok (.iload_n 1, 1) := by decide +kernel
theorem dX10_diary_6 : decode cX10_diary 6 = .ok (.iaload, 1) := by decide +kernel
theorem dX10_diary_7 : decode cX10_diary 7 = .ok (.if_icmp .lt 5, 3) := by decide +kernel
theorem dX10_diary_10 : decode cX10_diary 10 = .ok (.iconst (-1), 1) := by decide +kernel
theorem dX10_diary_11 : decode cX10_diary 11 = .ok (.ireturn, 1) := by decide +kernel
theorem dX10_diary_12 : decode cX10_diary 12 = .ok (.aload_n 0, 1) := by decide +kernel
theorem dX10_diary_13 : decode cX10_diary 13 = .ok (.getfield 75, 3) := by decide +kernel
theorem dX10_diary_16 : decode cX10_diary 16 = .ok (.bipush 120, 2) := by decide +kernel
theorem dX10_diary_18 : decode cX10_diary 18 = .ok (.iload_n 1, 1) := by decide +kernel
theorem dX10_diary_19 : decode cX10_diary 19 = .ok (.imul, 1) := by decide +kernel
theorem dX10_diary_20 : decode cX10_diary 20 = .ok (.iload_n 2, 1) := by decide +kernel
theorem dX10_diary_21 : decode cX10_diary 21 = .ok (.iadd, 1) := by decide +kernel
theorem dX10_diary_22 : decode cX10_diary 22 = .ok (.iaload, 1) := by decide +kernel
theorem dX10_diary_23 : decode cX10_diary 23 = .ok (.istore_n 3, 1) := by decide +kernel
theorem dX10_diary_24 : decode cX10_diary 24 = .ok (.iload_n 3, 1) := by decide +kernel
theorem dX10_diary_25 : decode cX10_diary 25 = .ok (.iconst 0, 1) := by decide +kernel
theorem dX10_diary_26 : decode cX10_diary 26 = .ok (.bipush 7, 2) := by decide +kernel
theorem dX10_diary_28 : decode cX10_diary 28 = .ok (.invokestatic 90, 3) := by decide +kernel
theorem dX10_diary_31 : decode cX10_diary 31 = .ok (.ifCond .eq 7, 3) := by decide +kernel
theorem dX10_diary_34 : decode cX10_diary 34 = .ok (.iload_n 3, 1) := by decide +kernel
theorem dX10_diary_35 : decode cX10_diary 35 = .ok (.goto 4, 3) := by decide +kernel
theorem dX10_diary_38 : decode cX10_diary 38 = .ok (.iconst (-1), 1) := by decide +kernel
theorem dX10_diary_39 : decode cX10_diary 39 = .ok (.ireturn, 1) := by decide +kernel
theorem dX10_end_0 : decode cX10_end 0 = .ok (.aload_n 0, 1) := by decide +kernel
theorem dX10_end_1 : decode cX10_end 1 = .ok (.getfield 25, 3) := by decide +kernel
theorem dX10_end_4 : decode cX10_end 4 = .ok (.iload_n 1, 1) := by decide +kernel
theorem dX10_end_5 : decode cX10_end 5 = .ok (.iaload, 1) := by decide +kernel
theorem dX10_end_6 : decode cX10_end 6 = .ok (.ifCond .lt 10, 3) := by decide +kernel
theorem dX10_end_9 : decode cX10_end 9 = .ok (.aload_n 0, 1) := by decide +kernel
theorem dX10_end_10 : decode cX10_end 10 = .ok (.getfield 25, 3) := by decide +kernel
theorem dX10_end_13 : decode cX10_end 13 = .ok (.iload_n 1, 1) := by decide +kernel
theorem dX10_end_14 : decode cX10_end 14 = .ok (.iaload, 1) := by decide +kernel
theorem dX10_end_15 : decode cX10_end 15 = .ok (.ireturn, 1) := by decide +kernel
theorem dX10_end_16 : decode cX10_end 16 = .ok (.aload_n 0, 1) := by decide +kernel
theorem dX10_end_17 : decode cX10_end 17 = .ok (.iconst 0, 1) := by decide +kernel
theorem dX10_end_18 : decode cX10_end 18 = .ok (.iload_n 1, 1) := by decide +kernel
theorem dX10_end_19 : decode cX10_end 19 = .ok (.invokevirtual 136, 3) := by decide +kernel
theorem dX10_end_22 : decode cX10_end 22 = .ok (.istore_n 3, 1) := by decide +kernel
theorem dX10_end_23 : decode cX10_end 23 = .ok (.aload_n 0, 1) := by decide +kernel
theorem dX10_end_24 : decode cX10_end 24 = .ok (.iconst 1, 1) := by decide +kernel
theorem dX10_end_25 : decode cX10_end 25 = .ok (.iload_n 1, 1) := by decide +kernel
theorem dX10_end_26 : decode cX10_end 26 = .ok (.invokevirtual 136, 3) := by decide +kernel
theorem dX10_end_29 : decode cX10_end 29 = .ok (.istore 4, 2) := by decide +kernel
theorem dX10_end_31 : decode cX10_end 31 = .ok (.iload_n 3, 1) := by decide +kernel
theorem dX10_end_32 : decode cX10_end 32 = .ok (.ifCond .lt 8, 3) := by decide +kernel
theorem dX10_end_35 : decode cX10_end 35 = .ok (.iload 4, 2) := by decide +kernel
theorem dX10_end_37 : decode cX10_end 37 = .ok (.ifCond .ge 27, 3) := by decide +kernel
theorem dX10_end_40 : decode cX10_end 40 = .ok (.iload_n 3, 1) := by decide +kernel
theorem dX10_end_41 : decode cX10_end 41 = .ok (.ifCond .ge 8, 3) := by decide +kernel
theorem dX10_end_44 : decode cX10_end 44 = .ok (.iload 4, 2) := by decide +kernel
theorem dX10_end_46 : decode cX10_end 46 = .ok (.goto 4, 3) := by decide +kernel
theorem dX10_end_49 : decode cX10_end 49 = .ok (.iload_n 3, 1) := by decide +kernel
theorem dX10_end_50 : decode cX10_end 50 = .ok (.istore 5, 2) := by decide +kernel
theorem dX10_end_52 : decode cX10_end 52 = .ok (.iload 5, 2) := by decide +kernel
theorem dX10_end_54 : decode cX10_end 54 = .ok (.ifCond .ge 7, 3) := by decide +kernel
theorem dX10_end_57 : decode cX10_end 57 = .ok (.iconst 0, 1) := by decide +kernel
theorem dX10_end_58 : decode cX10_end 58 = .ok (.goto 5, 3) := by decide +kernel
theorem dX10_end_61 : decode cX10_end 61 = .ok (.iload 5, 2) := by decide +kernel
theorem dX10_end_63 : decode cX10_end 63 = .ok (.ireturn, 1) := by decide +kernel
theorem dX10_end_64 : decode cX10_end 64 = .ok (.iload_n 3, 1) := by decide +kernel
theorem dX10_end_65 : decode cX10_end 65 = .ok (.iload 4, 2) := by decide +kernel
theorem dX10_end_67 : decode cX10_end 67 = .ok (.if_icmp .ge 7, 3) := by decide +kernel
theorem dX10_end_70 : decode cX10_end 70 = .ok (.iconst 1, 1) := by decide +kernel
theorem dX10_end_71 : decode cX10_end 71 = .ok (.goto 4, 3) := by decide +kernel
theorem dX10_end_74 : decode cX10_end 74 = .ok (.iconst 0, 1) := by decide +kernel
theorem dX10_end_75 : decode cX10_end 75 = .ok (.iload_n 2, 1) := by decide +kernel
theorem dX10_end_76 : decode cX10_end 76 = .ok (.if_icmp .ne 8, 3) := by decide +kernel
theorem dX10_end_79 : decode cX10_end 79 = .ok (.iload 4, 2) := by decide +kernel
theorem dX10_end_81 : decode cX10_end 81 = .ok (.goto 4, 3) := by decide +kernel
theorem dX10_end_84 : decode cX10_end 84 = .ok (.iload_n 3, 1) := by decide +kernel
theorem dX10_end_85 : decode cX10_end 85 = .ok (.ireturn, 1) := by decide +kernel
theorem dX10_nights_0 : decode cX10_nights 0 = .ok (.iload_n 1, 1) := by decide +kernel
theorem dX10_nights_1 : decode cX10_nights 1 = .ok (.invokestatic 102, 3) := by decide +kernel
theorem dX10_nights_4 : decode cX10_nights 4 = .ok (.ifCond .eq 12, 3) := by decide +kernel
theorem dX10_nights_7 : decode cX10_nights 7 = .ok (.iload_n 2, 1) := by decide +kernel
theorem dX10_nights_8 : decode cX10_nights 8 = .ok (.iconst 0, 1) := by decide +kernel
theorem dX10_nights_9 : decode cX10_nights 9 = .ok (.iconst 2, 1) := by decide +kernel
theorem dX10_nights_10 : decode cX10_nights 10 = .ok (.invokestatic 90, 3) := by decide +kernel
theorem dX10_nights_13 : decode cX10_nights 13 = .ok (.ifCond .ne 6, 3) := by decide +kernel
theorem dX10_nights_16 : decode cX10_nights 16 = .ok (.ldc 106, 2) := by decide +kernel
theorem dX10_nights_18 : decode cX10_nights 18 = .ok (.ireturn, 1) := by decide +kernel
theorem dX10_nights_19 : decode cX10_nights 19 = .ok (.iload_n 2, 1) := by decide +kernel
theorem dX10_nights_20 : decode cX10_nights 20 = .ok (.iconst 2, 1) := by decide +kernel
theorem dX10_nights_21 : decode cX10_nights 21 = .ok (.if_icmp .ge 19, 3) := by decide +kernel
theorem dX10_nights_24 : decode cX10_nights 24 = .ok (.aload_n 0, 1) := by decide +kernel
theorem dX10_nights_25 : decode cX10_nights 25 = .ok (.iload_n 1, 1) := by decide +kernel
theorem dX10_nights_26 : decode cX10_nights 26 = .ok (.iload_n 2, 1) := by decide +kernel
theorem dX10_nights_27 : decode cX10_nights 27 = .ok (.iconst 1, 1) := by decide +kernel
theorem dX10_nights_28 : decode cX10_nights 28 = .ok (.if_icmp .ne 7, 3) := by decide +kernel
theorem dX10_nights_31 : decode cX10_nights 31 = .ok (.iconst 1, 1) := by decide +kernel
theorem dX10_nights_32 : decode cX10_nights 32 = .ok (.goto 4, 3) := by decide +kernel
theorem dX10_nights_35 : decode cX10_nights 35 = .ok (.iconst 0, 1) := by decide +kernel
theorem dX10_nights_36 : decode cX10_nights 36 = .ok (.invokevirtual 139, 3) := by decide +kernel
theorem dX10_nights_39 : decode cX10_nights 39 = .ok (.ireturn, 1) := by decide +kernel
theorem dX10_nights_40 : decode cX10_nights 40 = .ok (.aload_n 0, 1) := by decide +kernel
theorem dX10_nights_41 : decode cX10_nights 41 = .ok (.iconst 0, 1) := by decide +kernel
theorem dX10_nights_42 : decode cX10_nights 42 = .ok (.iload_n 1, 1) := by decide +kernel
theorem dX10_nights_43 : decode cX10_nights 43 = .ok (.invokevirtual 136, 3) := by decide +kernel
theorem dX10_nights_46 : decode cX10_nights 46 = .ok (.istore_n 3, 1) := by decide +kernel
theorem dX10_nights_47 : decode cX10_nights 47 = .ok (.aload_n 0, 1) := by decide +kernel
theorem dX10_nights_48 : decode cX10_nights 48 = .ok (.iconst 1, 1) := by decide +kernel
theorem dX10_nights_49 : decode cX10_nights 49 = .ok (.iload_n 1, 1) := by decide +kernel
theorem dX10_nights_50 : decode cX10_nights 50 = .ok (.invokevirtual 136, 3) := by decide +kernel
theorem dX10_nights_53 : decode cX10_nights 53 = .ok (.istore 4, 2) := by decide +kernel
theorem dX10_nights_55 : decode cX10_nights 55 = .ok (.aload_n 0, 1) := by decide +kernel
theorem dX10_nights_56 : decode cX10_nights 56 = .ok (.getfield 25, 3) := by decide +kernel
theorem dX10_nights_59 : decode cX10_nights 59 = .ok (.iload_n 1, 1) := by decide +kernel
theorem dX10_nights_60 : decode cX10_nights 60 = .ok (.iaload, 1) := by decide +kernel
theorem dX10_nights_61 : decode cX10_nights 61 = .ok (.ifCond .ge 22, 3) := by decide +kernel
theorem dX10_nights_64 : decode cX10_nights 64 = .ok (.iload_n 3, 1) := by decide +kernel
theorem dX10_nights_65 : decode cX10_nights 65 = .ok (.ifCond .lt 18, 3) := by decide +kernel
theorem dX10_nights_68 : decode cX10_nights 68 = .ok (.iload 4, 2) := by decide +kernel
theorem dX10_nights_70 : decode cX10_nights 70 = .ok (.ifCond .lt 13, 3) := by decide +kernel
theorem dX10_nights_73 : decode cX10_nights 73 = .ok (.iload_n 3, 1) := by decide +kernel
theorem dX10_nights_74 : decode cX10_nights 74 = .ok (.iload 4, 2) := by decide +kernel
theorem dX10_nights_76 : decode cX10_nights 76 = .ok (.if_icmp .eq 7, 3) := by decide +kernel
theorem dX10_nights_79 : decode cX10_nights 79 = .ok (.iconst 1, 1) := by decide +kernel
theorem dX10_nights_80 : decode cX10_nights 80 = .ok (.goto 4, 3) := by decide +kernel
theorem dX10_nights_83 : decode cX10_nights 83 = .ok (.iconst 0, 1) := by decide +kernel
theorem dX10_nights_84 : decode cX10_nights 84 = .ok (.ireturn, 1) := by decide +kernel
theorem dX10_four_0 : decode cX10_four 0 = .ok (.bipush 24, 2) := by decide +kernel
theorem dX10_four_2 : decode cX10_four 2 = .ok (.istore_n 2, 1) := by decide +kernel
theorem dX10_four_3 : decode cX10_four 3 = .ok (.iload_n 2, 1) := by decide +kernel
theorem dX10_four_4 : decode cX10_four 4 = .ok (.ifCond .lt 35, 3) := by decide +kernel
theorem dX10_four_7 : decode cX10_four 7 = .ok (.aload_n 0, 1) := by decide +kernel
theorem dX10_four_8 : decode cX10_four 8 = .ok (.getfield 69, 3) := by decide +kernel
theorem dX10_four_11 : decode cX10_four 11 = .ok (.aload_n 0, 1) := by decide +kernel
theorem dX10_four_12 : decode cX10_four 12 = .ok (.getfield 143, 3) := by decide +kernel
theorem dX10_four_15 : decode cX10_four 15 = .ok (.iload_n 1, 1) := by decide +kernel
theorem dX10_four_16 : decode cX10_four 16 = .ok (.iload_n 2, 1) := by decide +kernel
theorem dX10_four_17 : decode cX10_four 17 = .ok (.ishr, 1) := by decide +kernel
theorem dX10_four_18 : decode cX10_four 18 = .ok (.sipush 255, 3) := by decide +kernel
theorem dX10_four_21 : decode cX10_four 21 = .ok (.iand, 1) := by decide +kernel
theorem dX10_four_22 : decode cX10_four 22 = .ok (.iastore, 1) := by decide +kernel
theorem dX10_four_23 : decode cX10_four 23 = .ok (.aload_n 0, 1) := by decide +kernel
theorem dX10_four_24 : decode cX10_four 24 = .ok (.dup, 1) := by decide +kernel
theorem dX10_four_25 : decode cX10_four 25 = .ok (.getfield 143, 3) := by decide +kernel
theorem dX10_four_28 : decode cX10_four 28 = .ok (.iconst 1, 1) := by decide +kernel
theorem dX10_four_29 : decode cX10_four 29 = .ok (.iadd, 1) := by decide +kernel
theorem dX10_four_30 : decode cX10_four 30 = .ok (.putfield 143, 3) := by decide +kernel
theorem dX10_four_33 : decode cX10_four 33 = .ok (.iinc 2 (-8), 3) := by decide +kernel
theorem dX10_four_36 : decode cX10_four 36 = .ok (.goto (-33), 3) := by decide +kernel
theorem dX10_four_39 : decode cX10_four 39 = .ok (.return_, 1) := by decide +kernel
theorem dX10_feed_0 : decode cX10_feed 0 = .ok (.aload_n 0, 1) := by decide +kernel
theorem dX10_feed_1 : decode cX10_feed 1 = .ok (.getfield 143, 3) := by decide +kernel
theorem dX10_feed_4 : decode cX10_feed 4 = .ok (.bipush 12, 2) := by decide +kernel
theorem dX10_feed_6 : decode cX10_feed 6 = .ok (.iadd, 1) := by decide +kernel
theorem dX10_feed_7 : decode cX10_feed 7 = .ok (.bipush 72, 2) := by decide +kernel
theorem dX10_feed_9 : decode cX10_feed 9 = .ok (.if_icmp .le 6, 3) := by decide +kernel
theorem dX10_feed_12 : decode cX10_feed 12 = .ok (.ldc 110, 2) := by decide +kernel
theorem dX10_feed_14 : decode cX10_feed 14 = .ok (.ireturn, 1) := by decide +kernel
theorem dX10_feed_15 : decode cX10_feed 15 = .ok (.aload_n 0, 1) := by decide +kernel
theorem dX10_feed_16 : decode cX10_feed 16 = .ok (.iload_n 1, 1) := by decide +kernel
theorem dX10_feed_17 : decode cX10_feed 17 = .ok (.invokevirtual 146, 3) := by decide +kernel
theorem dX10_feed_20 : decode cX10_feed 20 = .ok (.aload_n 0, 1) := by decide +kernel
theorem dX10_feed_21 : decode cX10_feed 21 = .ok (.iload_n 2, 1) := by decide +kernel
theorem dX10_feed_22 : decode cX10_feed 22 = .ok (.invokevirtual 146, 3) := by decide +kernel
theorem dX10_feed_25 : decode cX10_feed 25 = .ok (.aload_n 0, 1) := by decide +kernel
theorem dX10_feed_26 : decode cX10_feed 26 = .ok (.iload_n 3, 1) := by decide +kernel
theorem dX10_feed_27 : decode cX10_feed 27 = .ok (.invokevirtual 146, 3) := by decide +kernel
theorem dX10_feed_30 : decode cX10_feed 30 = .ok (.aload_n 0, 1) := by decide +kernel
theorem dX10_feed_31 : decode cX10_feed 31 = .ok (.getfield 143, 3) := by decide +kernel
theorem dX10_feed_34 : decode cX10_feed 34 = .ok (.ireturn, 1) := by decide +kernel
theorem dX10_trim_0 : decode cX10_trim 0 = .ok (.iload_n 1, 1) := by decide +kernel
theorem dX10_trim_1 : decode cX10_trim 1 = .ok (.iconst 0, 1) := by decide +kernel
theorem dX10_trim_2 : decode cX10_trim 2 = .ok (.aload_n 0, 1) := by decide +kernel
theorem dX10_trim_3 : decode cX10_trim 3 = .ok (.getfield 143, 3) := by decide +kernel
theorem dX10_trim_6 : decode cX10_trim 6 = .ok (.invokestatic 90, 3) := by decide +kernel
theorem dX10_trim_9 : decode cX10_trim 9 = .ok (.ifCond .ne 6, 3) := by decide +kernel
theorem dX10_trim_12 : decode cX10_trim 12 = .ok (.ldc 106, 2) := by decide +kernel
theorem dX10_trim_14 : decode cX10_trim 14 = .ok (.ireturn, 1) := by decide +kernel
theorem dX10_trim_15 : decode cX10_trim 15 = .ok (.aload_n 0, 1) := by decide +kernel
theorem dX10_trim_16 : decode cX10_trim 16 = .ok (.iload_n 1, 1) := by decide +kernel
theorem dX10_trim_17 : decode cX10_trim 17 = .ok (.putfield 143, 3) := by decide +kernel
theorem dX10_trim_20 : decode cX10_trim 20 = .ok (.iload_n 1, 1) := by decide +kernel
theorem dX10_trim_21 : decode cX10_trim 21 = .ok (.ireturn, 1) := by decide +kernel
theorem dX10_next_0 : decode cX10_next 0 = .ok (.aload_n 0, 1) := by decide +kernel
theorem dX10_next_1 : decode cX10_next 1 = .ok (.getfield 150, 3) := by decide +kernel
theorem dX10_next_4 : decode cX10_next 4 = .ok (.aload_n 0, 1) := by decide +kernel
theorem dX10_next_5 : decode cX10_next 5 = .ok (.getfield 143, 3) := by decide +kernel
theorem dX10_next_8 : decode cX10_next 8 = .ok (.if_icmp .ge 30, 3) := by decide +kernel
theorem dX10_next_11 : decode cX10_next 11 = .ok (.aload_n 0, 1) := by decide +kernel
theorem dX10_next_12 : decode cX10_next 12 = .ok (.getfield 69, 3) := by decide +kernel
theorem dX10_next_15 : decode cX10_next 15 = .ok (.aload_n 0, 1) := by decide +kernel
theorem dX10_next_16 : decode cX10_next 16 = .ok (.getfield 150, 3) := by decide +kernel
theorem dX10_next_19 : decode cX10_next 19 = .ok (.iaload, 1) := by decide +kernel
theorem dX10_next_20 : decode cX10_next 20 = .ok (.bipush 32, 2) := by decide +kernel
theorem dX10_next_22 : decode cX10_next 22 = .ok (.if_icmp .ne 16, 3) := by decide +kernel
theorem dX10_next_25 : decode cX10_next 25 = .ok (.aload_n 0, 1) := by decide +kernel
theorem dX10_next_26 : decode cX10_next 26 = .ok (.dup, 1) := by decide +kernel
theorem dX10_next_27 : decode cX10_next 27 = .ok (.getfield 150, 3) := by decide +kernel
theorem dX10_next_30 : decode cX10_next 30 = .ok (.iconst 1, 1) := by decide +kernel
theorem dX10_next_31 : decode cX10_next 31 = .ok (.iadd, 1) := by decide +kernel
theorem dX10_next_32 : decode cX10_next 32 = .ok (.putfield 150, 3) := by decide +kernel
theorem dX10_next_35 : decode cX10_next 35 = .ok (.goto (-35), 3) := by decide +kernel
theorem dX10_next_38 : decode cX10_next 38 = .ok (.aload_n 0, 1) := by decide +kernel
theorem dX10_next_39 : decode cX10_next 39 = .ok (.aload_n 0, 1) := by decide +kernel
theorem dX10_next_40 : decode cX10_next 40 = .ok (.getfield 150, 3) := by decide +kernel
theorem dX10_next_43 : decode cX10_next 43 = .ok (.putfield 153, 3) := by decide +kernel
theorem dX10_next_46 : decode cX10_next 46 = .ok (.aload_n 0, 1) := by decide +kernel
theorem dX10_next_47 : decode cX10_next 47 = .ok (.getfield 150, 3) := by decide +kernel
theorem dX10_next_50 : decode cX10_next 50 = .ok (.aload_n 0, 1) := by decide +kernel
theorem dX10_next_51 : decode cX10_next 51 = .ok (.getfield 143, 3) := by decide +kernel
theorem dX10_next_54 : decode cX10_next 54 = .ok (.if_icmp .ge 30, 3) := by decide +kernel
theorem dX10_next_57 : decode cX10_next 57 = .ok (.aload_n 0, 1) := by decide +kernel
theorem dX10_next_58 : decode cX10_next 58 = .ok (.getfield 69, 3) := by decide +kernel
theorem dX10_next_61 : decode cX10_next 61 = .ok (.aload_n 0, 1) := by decide +kernel
theorem dX10_next_62 : decode cX10_next 62 = .ok (.getfield 150, 3) := by decide +kernel
theorem dX10_next_65 : decode cX10_next 65 = .ok (.iaload, 1) := by decide +kernel
theorem dX10_next_66 : decode cX10_next 66 = .ok (.bipush 32, 2) := by decide +kernel
theorem dX10_next_68 : decode cX10_next 68 = .ok (.if_icmp .eq 16, 3) := by decide +kernel
theorem dX10_next_71 : decode cX10_next 71 = .ok (.aload_n 0, 1) := by decide +kernel
theorem dX10_next_72 : decode cX10_next 72 = .ok (.dup, 1) := by decide +kernel
theorem dX10_next_73 : decode cX10_next 73 = .ok (.getfield 150, 3) := by decide +kernel
theorem dX10_next_76 : decode cX10_next 76 = .ok (.iconst 1, 1) := by decide +kernel
theorem dX10_next_77 : decode cX10_next 77 = .ok (.iadd, 1) := by decide +kernel
theorem dX10_next_78 : decode cX10_next 78 = .ok (.putfield 150, 3) := by decide +kernel
theorem dX10_next_81 : decode cX10_next 81 = .ok (.goto (-35), 3) := by decide +kernel
theorem dX10_next_84 : decode cX10_next 84 = .ok (.aload_n 0, 1) := by decide +kernel
theorem dX10_next_85 : decode cX10_next 85 = .ok (.aload_n 0, 1) := by decide +kernel
theorem dX10_next_86 : decode cX10_next 86 = .ok (.getfield 150, 3) := by decide +kernel
theorem dX10_next_89 : decode cX10_next 89 = .ok (.aload_n 0, 1) := by decide +kernel
theorem dX10_next_90 : decode cX10_next 90 = .ok (.getfield 153, 3) := by decide +kernel
theorem dX10_next_93 : decode cX10_next 93 = .ok (.isub, 1) := by decide +kernel
theorem dX10_next_94 : decode cX10_next 94 = .ok (.putfield 156, 3) := by decide +kernel
theorem dX10_next_97 : decode cX10_next 97 = .ok (.return_, 1) := by decide +kernel
theorem dX10_here_0 : decode cX10_here 0 = .ok (.aload_n 0, 1) := by decide +kernel
theorem dX10_here_1 : decode cX10_here 1 = .ok (.getfield 156, 3) := by decide +kernel
theorem dX10_here_4 : decode cX10_here 4 = .ok (.ifCond .ne 10, 3) := by decide +kernel
theorem dX10_here_7 : decode cX10_here 7 = .ok (.aload_n 0, 1) := by decide +kernel
theorem dX10_here_8 : decode cX10_here 8 = .ok (.getfield 143, 3) := by decide +kernel
theorem dX10_here_11 : decode cX10_here 11 = .ok (.goto 7, 3) := by decide +kernel
theorem dX10_here_14 : decode cX10_here 14 = .ok (.aload_n 0, 1) := by decide +kernel
theorem dX10_here_15 : decode cX10_here 15 = .ok (.getfield 153, 3) := by decide +kernel
theorem dX10_here_18 : decode cX10_here 18 = .ok (.ireturn, 1) := by decide +kernel
theorem dX10_isWord_0 : decode cX10_isWord 0 = .ok (.aload_n 0, 1) := by decide +kernel
theorem dX10_isWord_1 : decode cX10_isWord 1 = .ok (.getfield 156, 3) := by decide +kernel
theorem dX10_isWord_4 : decode cX10_isWord 4 = .ok (.iload 5, 2) := by decide +kernel
theorem dX10_isWord_6 : decode cX10_isWord 6 = .ok (.ifCond .ne 7, 3) := by decide +kernel
theorem dX10_isWord_9 : decode cX10_isWord 9 = .ok (.iconst 4, 1) := by decide +kernel
theorem dX10_isWord_10 : decode cX10_isWord 10 = .ok (.goto 4, 3) := by decide +kernel
theorem dX10_isWord_13 : decode cX10_isWord 13 = .ok (.iconst 5, 1) := by decide +kernel
theorem dX10_isWord_14 : decode cX10_isWord 14 = .ok (.if_icmp .ne 50, 3) := by decide +kernel
theorem dX10_isWord_17 : decode cX10_isWord 17 = .ok (.aload_n 0, 1) := by decide +kernel
theorem dX10_isWord_18 : decode cX10_isWord 18 = .ok (.getfield 69, 3) := by decide +kernel
theorem dX10_isWord_21 : decode cX10_isWord 21 = .ok (.aload_n 0, 1) := by decide +kernel
theorem dX10_isWord_22 : decode cX10_isWord 22 = .ok (.getfield 153, 3) := by decide +kernel
theorem dX10_isWord_25 : decode cX10_isWord 25 = .ok (.iaload, 1) := by decide +kernel
theorem dX10_isWord_26 : decode cX10_isWord 26 = .ok (.iload_n 1, 1) := by decide +kernel
theorem dX10_isWord_27 : decode cX10_isWord 27 = .ok (.if_icmp .ne 37, 3) := by decide +kernel
theorem dX10_isWord_30 : decode cX10_isWord 30 = .ok (.aload_n 0, 1) := by decide +kernel
theorem dX10_isWord_31 : decode cX10_isWord 31 = .ok (.getfield 69, 3) := by decide +kernel
theorem dX10_isWord_34 : decode cX10_isWord 34 = .ok (.aload_n 0, 1) := by decide +kernel
theorem dX10_isWord_35 : decode cX10_isWord 35 = .ok (.getfield 153, 3) := by decide +kernel
theorem dX10_isWord_38 : decode cX10_isWord 38 = .ok (.iconst 1, 1) := by decide +kernel
theorem dX10_isWord_39 : decode cX10_isWord 39 = .ok (.iadd, 1) := by decide +kernel
theorem dX10_isWord_40 : decode cX10_isWord 40 = .ok (.iaload, 1) := by decide +kernel
theorem dX10_isWord_41 : decode cX10_isWord 41 = .ok (.iload_n 2, 1) := by decide +kernel
theorem dX10_isWord_42 : decode cX10_isWord 42 = .ok (.if_icmp .ne 22, 3) := by decide +kernel
theorem dX10_isWord_45 : decode cX10_isWord 45 = .ok (.aload_n 0, 1) := by decide +kernel
theorem dX10_isWord_46 : decode cX10_isWord 46 = .ok (.getfield 69, 3) := by decide +kernel
theorem dX10_isWord_49 : decode cX10_isWord 49 = .ok (.aload_n 0, 1) := by decide +kernel
theorem dX10_isWord_50 : decode cX10_isWord 50 = .ok (.getfield 153, 3) := by decide +kernel
theorem dX10_isWord_53 : decode cX10_isWord 53 = .ok (.iconst 2, 1) := by decide +kernel
theorem dX10_isWord_54 : decode cX10_isWord 54 = .ok (.iadd, 1) := by decide +kernel
theorem dX10_isWord_55 : decode cX10_isWord 55 = .ok (.iaload, 1) := by decide +kernel
theorem dX10_isWord_56 : decode cX10_isWord 56 = .ok (.iload_n 3, 1) := by decide +kernel
theorem dX10_isWord_57 : decode cX10_isWord 57 = .ok (.if_icmp .ne 7, 3) := by decide +kernel
theorem dX10_isWord_60 : decode cX10_isWord 60 = .ok (.iconst 1, 1) := by decide +kernel
theorem dX10_isWord_61 : decode cX10_isWord 61 = .ok (.goto 4, 3) := by decide +kernel
theorem dX10_isWord_64 : decode cX10_isWord 64 = .ok (.iconst 0, 1) := by decide +kernel
theorem dX10_isWord_65 : decode cX10_isWord 65 = .ok (.istore 6, 2) := by decide +kernel
theorem dX10_isWord_67 : decode cX10_isWord 67 = .ok (.iload 6, 2) := by decide +kernel
theorem dX10_isWord_69 : decode cX10_isWord 69 = .ok (.ifCond .eq 44, 3) := by decide +kernel
theorem dX10_isWord_72 : decode cX10_isWord 72 = .ok (.aload_n 0, 1) := by decide +kernel
theorem dX10_isWord_73 : decode cX10_isWord 73 = .ok (.getfield 69, 3) := by decide +kernel
theorem dX10_isWord_76 : decode cX10_isWord 76 = .ok (.aload_n 0, 1) := by decide +kernel
theorem dX10_isWord_77 : decode cX10_isWord 77 = .ok (.getfield 153, 3) := by decide +kernel
theorem dX10_isWord_80 : decode cX10_isWord 80 = .ok (.iconst 3, 1) := by decide +kernel
theorem dX10_isWord_81 : decode cX10_isWord 81 = .ok (.iadd, 1) := by decide +kernel
theorem dX10_isWord_82 : decode cX10_isWord 82 = .ok (.iaload, 1) := by decide +kernel
theorem dX10_isWord_83 : decode cX10_isWord 83 = .ok (.iload 4, 2) := by decide +kernel
theorem dX10_isWord_85 : decode cX10_isWord 85 = .ok (.if_icmp .ne 28, 3) := by decide +kernel
theorem dX10_isWord_88 : decode cX10_isWord 88 = .ok (.iload 5, 2) := by decide +kernel
theorem dX10_isWord_90 : decode cX10_isWord 90 = .ok (.ifCond .eq 19, 3) := by decide +kernel
theorem dX10_isWord_93 : decode cX10_isWord 93 = .ok (.aload_n 0, 1) := by decide +kernel
theorem dX10_isWord_94 : decode cX10_isWord 94 = .ok (.getfield 69, 3) := by decide +kernel
theorem dX10_isWord_97 : decode cX10_isWord 97 = .ok (.aload_n 0, 1) := by decide +kernel
theorem dX10_isWord_98 : decode cX10_isWord 98 = .ok (.getfield 153, 3) := by decide +kernel
theorem dX10_isWord_101 : decode cX10_isWord 101 = .ok (.iconst 4, 1) := by decide +kernel
theorem dX10_isWord_102 : decode cX10_isWord 102 = .ok (.iadd, 1) := by decide +kernel
theorem dX10_isWord_103 : decode cX10_isWord 103 = .ok (.iaload, 1) := by decide +kernel
theorem dX10_isWord_104 : decode cX10_isWord 104 = .ok (.iload 5, 2) := by decide +kernel
theorem dX10_isWord_106 : decode cX10_isWord 106 = .ok (.if_icmp .ne 7, 3) := by decide +kernel
theorem dX10_isWord_109 : decode cX10_isWord 109 = .ok (.iconst 1, 1) := by decide +kernel
theorem dX10_isWord_110 : decode cX10_isWord 110 = .ok (.goto 4, 3) := by decide +kernel
theorem dX10_isWord_113 : decode cX10_isWord 113 = .ok (.iconst 0, 1) := by decide +kernel
theorem dX10_isWord_114 : decode cX10_isWord 114 = .ok (.ireturn, 1) := by decide +kernel
theorem dX10_number_0 : decode cX10_number 0 = .ok (.iconst 0, 1) := by decide +kernel
theorem dX10_number_1 : decode cX10_number 1 = .ok (.istore_n 1, 1) := by decide +kernel
theorem dX10_number_2 : decode cX10_number 2 = .ok (.aload_n 0, 1) := by decide +kernel
theorem dX10_number_3 : decode cX10_number 3 = .ok (.getfield 153, 3) := by decide +kernel
theorem dX10_number_6 : decode cX10_number 6 = .ok (.istore_n 2, 1) := by decide +kernel
theorem dX10_number_7 : decode cX10_number 7 = .ok (.iload_n 2, 1) := by decide +kernel
theorem dX10_number_8 : decode cX10_number 8 = .ok (.aload_n 0, 1) := by decide +kernel
theorem dX10_number_9 : decode cX10_number 9 = .ok (.getfield 153, 3) := by decide +kernel
theorem dX10_number_12 : decode cX10_number 12 = .ok (.aload_n 0, 1) := by decide +kernel
theorem dX10_number_13 : decode cX10_number 13 = .ok (.getfield 156, 3) := by decide +kernel
theorem dX10_number_16 : decode cX10_number 16 = .ok (.iadd, 1) := by decide +kernel
theorem dX10_number_17 : decode cX10_number 17 = .ok (.if_icmp .ge 55, 3) := by decide +kernel
theorem dX10_number_20 : decode cX10_number 20 = .ok (.aload_n 0, 1) := by decide +kernel
theorem dX10_number_21 : decode cX10_number 21 = .ok (.getfield 69, 3) := by decide +kernel
theorem dX10_number_24 : decode cX10_number 24 = .ok (.iload_n 2, 1) := by decide +kernel
theorem dX10_number_25 : decode cX10_number 25 = .ok (.iaload, 1) := by decide +kernel
theorem dX10_number_26 : decode cX10_number 26 = .ok (.bipush 48, 2) := by decide +kernel
theorem dX10_number_28 : decode cX10_number 28 = .ok (.bipush 57, 2) := by decide +kernel
theorem dX10_number_30 : decode cX10_number 30 = .ok (.invokestatic 90, 3) := by decide +kernel
theorem dX10_number_33 : decode cX10_number 33 = .ok (.ifCond .ne 5, 3) := by decide +kernel
theorem dX10_number_36 : decode cX10_number 36 = .ok (.iconst (-1), 1) := by decide +kernel
theorem dX10_number_37 : decode cX10_number 37 = .ok (.ireturn, 1) := by decide +kernel
theorem dX10_number_38 : decode cX10_number 38 = .ok (.bipush 10, 2) := by decide +kernel
theorem dX10_number_40 : decode cX10_number 40 = .ok (.iload_n 1, 1) := by decide +kernel
theorem dX10_number_41 : decode cX10_number 41 = .ok (.imul, 1) := by decide +kernel
theorem dX10_number_42 : decode cX10_number 42 = .ok (.aload_n 0, 1) := by decide +kernel
theorem dX10_number_43 : decode cX10_number 43 = .ok (.getfield 69, 3) := by decide +kernel
theorem dX10_number_46 : decode cX10_number 46 = .ok (.iload_n 2, 1) := by decide +kernel
theorem dX10_number_47 : decode cX10_number 47 = .ok (.iaload, 1) := by decide +kernel
theorem dX10_number_48 : decode cX10_number 48 = .ok (.iadd, 1) := by decide +kernel
theorem dX10_number_49 : decode cX10_number 49 = .ok (.bipush 48, 2) := by decide +kernel
theorem dX10_number_51 : decode cX10_number 51 = .ok (.isub, 1) := by decide +kernel
theorem dX10_number_52 : decode cX10_number 52 = .ok (.istore_n 1, 1) := by decide +kernel
theorem dX10_number_53 : decode cX10_number 53 = .ok (.iload_n 1, 1) := by decide +kernel
theorem dX10_number_54 : decode cX10_number 54 = .ok (.ldc 159, 2) := by decide +kernel
theorem dX10_number_56 : decode cX10_number 56 = .ok (.if_icmp .le 8, 3) := by decide +kernel
theorem dX10_number_59 : decode cX10_number 59 = .ok (.ldc 159, 2) := by decide +kernel
theorem dX10_number_61 : decode cX10_number 61 = .ok (.goto 4, 3) := by decide +kernel
theorem dX10_number_64 : decode cX10_number 64 = .ok (.iload_n 1, 1) := by decide +kernel
theorem dX10_number_65 : decode cX10_number 65 = .ok (.istore_n 1, 1) := by decide +kernel
theorem dX10_number_66 : decode cX10_number 66 = .ok (.iinc 2 1, 3) := by decide +kernel
theorem dX10_number_69 : decode cX10_number 69 = .ok (.goto (-62), 3) := by decide +kernel
theorem dX10_number_72 : decode cX10_number 72 = .ok (.aload_n 0, 1) := by decide +kernel
theorem dX10_number_73 : decode cX10_number 73 = .ok (.getfield 156, 3) := by decide +kernel
theorem dX10_number_76 : decode cX10_number 76 = .ok (.ifCond .ne 7, 3) := by decide +kernel
theorem dX10_number_79 : decode cX10_number 79 = .ok (.iconst (-1), 1) := by decide +kernel
theorem dX10_number_80 : decode cX10_number 80 = .ok (.goto 4, 3) := by decide +kernel
theorem dX10_number_83 : decode cX10_number 83 = .ok (.iload_n 1, 1) := by decide +kernel
theorem dX10_number_84 : decode cX10_number 84 = .ok (.ireturn, 1) := by decide +kernel
theorem dX10_isNumber_0 : decode cX10_isNumber 0 = .ok (.aload_n 0, 1) := by decide +kernel
theorem dX10_isNumber_1 : decode cX10_isNumber 1 = .ok (.invokevirtual 160, 3) := by decide +kernel
theorem dX10_isNumber_4 : decode cX10_isNumber 4 = .ok (.aload_n 0, 1) := by decide +kernel
theorem dX10_isNumber_5 : decode cX10_isNumber 5 = .ok (.aload_n 0, 1) := by decide +kernel
theorem dX10_isNumber_6 : decode cX10_isNumber 6 = .ok (.invokevirtual 163, 3) := by decide +kernel
theorem dX10_isNumber_9 : decode cX10_isNumber 9 = .ok (.putfield 167, 3) := by decide +kernel
theorem dX10_isNumber_12 : decode cX10_isNumber 12 = .ok (.aload_n 0, 1) := by decide +kernel
theorem dX10_isNumber_13 : decode cX10_isNumber 13 = .ok (.getfield 167, 3) := by decide +kernel
theorem dX10_isNumber_16 : decode cX10_isNumber 16 = .ok (.iload_n 1, 1) := by decide +kernel
theorem dX10_isNumber_17 : decode cX10_isNumber 17 = .ok (.iload_n 2, 1) := by decide +kernel
theorem dX10_isNumber_18 : decode cX10_isNumber 18 = .ok (.invokestatic 90, 3) := by decide +kernel
theorem dX10_isNumber_21 : decode cX10_isNumber 21 = .ok (.ireturn, 1) := by decide +kernel
theorem dX10_isTake_0 : decode cX10_isTake 0 = .ok (.aload_n 0, 1) := by decide +kernel
theorem dX10_isTake_1 : decode cX10_isTake 1 = .ok (.bipush 116, 2) := by decide +kernel
theorem dX10_isTake_3 : decode cX10_isTake 3 = .ok (.bipush 97, 2) := by decide +kernel
theorem dX10_isTake_5 : decode cX10_isTake 5 = .ok (.bipush 107, 2) := by decide +kernel
theorem dX10_isTake_7 : decode cX10_isTake 7 = .ok (.bipush 101, 2) := by decide +kernel
theorem dX10_isTake_9 : decode cX10_isTake 9 = .ok (.iconst 0, 1) := by decide +kernel
theorem dX10_isTake_10 : decode cX10_isTake 10 = .ok (.invokevirtual 170, 3) := by decide +kernel
theorem dX10_isTake_13 : decode cX10_isTake 13 = .ok (.ireturn, 1) := by decide +kernel
theorem dX10_readOver_0 : decode cX10_readOver 0 = .ok (.aload_n 0, 1) := by decide +kernel
theorem dX10_readOver_1 : decode cX10_readOver 1 = .ok (.iconst 1, 1) := by decide +kernel
theorem dX10_readOver_2 : decode cX10_readOver 2 = .ok (.ldc 97, 2) := by decide +kernel
theorem dX10_readOver_4 : decode cX10_readOver 4 = .ok (.invokevirtual 174, 3) := by decide +kernel
theorem dX10_readOver_7 : decode cX10_readOver 7 = .ok (.ifCond .ne 5, 3) := by decide +kernel
theorem dX10_readOver_10 : decode cX10_readOver 10 = .ok (.iconst 0, 1) := by decide +kernel
theorem dX10_readOver_11 : decode cX10_readOver 11 = .ok (.ireturn, 1) := by decide +kernel
theorem dX10_readOver_12 : decode cX10_readOver 12 = .ok (.aload_n 0, 1) := by decide +kernel
theorem dX10_readOver_13 : decode cX10_readOver 13 = .ok (.getfield 38, 3) := by decide +kernel
theorem dX10_readOver_16 : decode cX10_readOver 16 = .ok (.iload_n 1, 1) := by decide +kernel
theorem dX10_readOver_17 : decode cX10_readOver 17 = .ok (.aload_n 0, 1) := by decide +kernel
theorem dX10_readOver_18 : decode cX10_readOver 18 = .ok (.getfield 167, 3) := by decide +kernel
theorem dX10_readOver_21 : decode cX10_readOver 21 = .ok (.iastore, 1) := by decide +kernel
theorem dX10_readOver_22 : decode cX10_readOver 22 = .ok (.aload_n 0, 1) := by decide +kernel
theorem dX10_readOver_23 : decode cX10_readOver 23 = .ok (.invokevirtual 160, 3) := by decide +kernel
theorem dX10_readOver_26 : decode cX10_readOver 26 = .ok (.aload_n 0, 1) := by decide +kernel
theorem dX10_readOver_27 : decode cX10_readOver 27 = .ok (.invokevirtual 177, 3) := by decide +kernel
theorem dX10_readOver_30 : decode cX10_readOver 30 = .ok (.ifCond .eq 13, 3) := by decide +kernel
theorem dX10_readOver_33 : decode cX10_readOver 33 = .ok (.aload_n 0, 1) := by decide +kernel
theorem dX10_readOver_34 : decode cX10_readOver 34 = .ok (.iconst 0, 1) := by decide +kernel
theorem dX10_readOver_35 : decode cX10_readOver 35 = .ok (.bipush 60, 2) := by decide +kernel
theorem dX10_readOver_37 : decode cX10_readOver 37 = .ok (.invokevirtual 174, 3) := by decide +kernel
theorem dX10_readOver_40 : decode cX10_readOver 40 = .ok (.ifCond .ne 5, 3) := by decide +kernel
theorem dX10_readOver_43 : decode cX10_readOver 43 = .ok (.iconst 0, 1) := by decide +kernel
theorem dX10_readOver_44 : decode cX10_readOver 44 = .ok (.ireturn, 1) := by decide +kernel
theorem dX10_readOver_45 : decode cX10_readOver 45 = .ok (.aload_n 0, 1) := by decide +kernel
theorem dX10_readOver_46 : decode cX10_readOver 46 = .ok (.getfield 41, 3) := by decide +kernel
theorem dX10_readOver_49 : decode cX10_readOver 49 = .ok (.iload_n 1, 1) := by decide +kernel
theorem dX10_readOver_50 : decode cX10_readOver 50 = .ok (.aload_n 0, 1) := by decide +kernel
theorem dX10_readOver_51 : decode cX10_readOver 51 = .ok (.getfield 167, 3) := by decide +kernel
theorem dX10_readOver_54 : decode cX10_readOver 54 = .ok (.iastore, 1) := by decide +kernel
theorem dX10_readOver_55 : decode cX10_readOver 55 = .ok (.aload_n 0, 1) := by decide +kernel
theorem dX10_readOver_56 : decode cX10_readOver 56 = .ok (.invokevirtual 160, 3) := by decide +kernel
theorem dX10_readOver_59 : decode cX10_readOver 59 = .ok (.iconst 1, 1) := by decide +kernel
theorem dX10_readOver_60 : decode cX10_readOver 60 = .ok (.ireturn, 1) := by decide +kernel
theorem dX10_readLaw_0 : decode cX10_readLaw 0 = .ok (.aload_n 0, 1) := by decide +kernel
theorem dX10_readLaw_1 : decode cX10_readLaw 1 = .ok (.iconst 0, 1) := by decide +kernel
theorem dX10_readLaw_2 : decode cX10_readLaw 2 = .ok (.putfield 150, 3) := by decide +kernel
theorem dX10_readLaw_5 : decode cX10_readLaw 5 = .ok (.aload_n 0, 1) := by decide +kernel
theorem dX10_readLaw_6 : decode cX10_readLaw 6 = .ok (.invokevirtual 160, 3) := by decide +kernel
theorem dX10_readLaw_9 : decode cX10_readLaw 9 = .ok (.aload_n 0, 1) := by decide +kernel
theorem dX10_readLaw_10 : decode cX10_readLaw 10 = .ok (.invokevirtual 177, 3) := by decide +kernel
theorem dX10_readLaw_13 : decode cX10_readLaw 13 = .ok (.ifCond .eq 13, 3) := by decide +kernel
theorem dX10_readLaw_16 : decode cX10_readLaw 16 = .ok (.aload_n 0, 1) := by decide +kernel
theorem dX10_readLaw_17 : decode cX10_readLaw 17 = .ok (.iconst 0, 1) := by decide +kernel
theorem dX10_readLaw_18 : decode cX10_readLaw 18 = .ok (.bipush 60, 2) := by decide +kernel
theorem dX10_readLaw_20 : decode cX10_readLaw 20 = .ok (.invokevirtual 174, 3) := by decide +kernel
theorem dX10_readLaw_23 : decode cX10_readLaw 23 = .ok (.ifCond .ne 5, 3) := by decide +kernel
theorem dX10_readLaw_26 : decode cX10_readLaw 26 = .ok (.iconst 0, 1) := by decide +kernel
theorem dX10_readLaw_27 : decode cX10_readLaw 27 = .ok (.ireturn, 1) := by decide +kernel
theorem dX10_readLaw_28 : decode cX10_readLaw 28 = .ok (.aload_n 0, 1) := by decide +kernel
theorem dX10_readLaw_29 : decode cX10_readLaw 29 = .ok (.getfield 35, 3) := by decide +kernel
theorem dX10_readLaw_32 : decode cX10_readLaw 32 = .ok (.iload_n 1, 1) := by decide +kernel
theorem dX10_readLaw_33 : decode cX10_readLaw 33 = .ok (.aload_n 0, 1) := by decide +kernel
theorem dX10_readLaw_34 : decode cX10_readLaw 34 = .ok (.getfield 167, 3) := by decide +kernel
theorem dX10_readLaw_37 : decode cX10_readLaw 37 = .ok (.iastore, 1) := by decide +kernel
theorem dX10_readLaw_38 : decode cX10_readLaw 38 = .ok (.aload_n 0, 1) := by decide +kernel
theorem dX10_readLaw_39 : decode cX10_readLaw 39 = .ok (.getfield 38, 3) := by decide +kernel
theorem dX10_readLaw_42 : decode cX10_readLaw 42 = .ok (.iload_n 1, 1) := by decide +kernel
theorem dX10_readLaw_43 : decode cX10_readLaw 43 = .ok (.iconst (-1), 1) := by decide +kernel
theorem dX10_readLaw_44 : decode cX10_readLaw 44 = .ok (.iastore, 1) := by decide +kernel
theorem dX10_readLaw_45 : decode cX10_readLaw 45 = .ok (.aload_n 0, 1) := by decide +kernel
theorem dX10_readLaw_46 : decode cX10_readLaw 46 = .ok (.getfield 41, 3) := by decide +kernel
theorem dX10_readLaw_49 : decode cX10_readLaw 49 = .ok (.iload_n 1, 1) := by decide +kernel
theorem dX10_readLaw_50 : decode cX10_readLaw 50 = .ok (.iconst 0, 1) := by decide +kernel
theorem dX10_readLaw_51 : decode cX10_readLaw 51 = .ok (.iastore, 1) := by decide +kernel
theorem dX10_readLaw_52 : decode cX10_readLaw 52 = .ok (.aload_n 0, 1) := by decide +kernel
theorem dX10_readLaw_53 : decode cX10_readLaw 53 = .ok (.getfield 44, 3) := by decide +kernel
theorem dX10_readLaw_56 : decode cX10_readLaw 56 = .ok (.iload_n 1, 1) := by decide +kernel
theorem dX10_readLaw_57 : decode cX10_readLaw 57 = .ok (.iconst 0, 1) := by decide +kernel
theorem dX10_readLaw_58 : decode cX10_readLaw 58 = .ok (.iastore, 1) := by decide +kernel
theorem dX10_readLaw_59 : decode cX10_readLaw 59 = .ok (.aload_n 0, 1) := by decide +kernel
theorem dX10_readLaw_60 : decode cX10_readLaw 60 = .ok (.getfield 47, 3) := by decide +kernel
theorem dX10_readLaw_63 : decode cX10_readLaw 63 = .ok (.iload_n 1, 1) := by decide +kernel
theorem dX10_readLaw_64 : decode cX10_readLaw 64 = .ok (.iconst 0, 1) := by decide +kernel
theorem dX10_readLaw_65 : decode cX10_readLaw 65 = .ok (.iastore, 1) := by decide +kernel
theorem dX10_readLaw_66 : decode cX10_readLaw 66 = .ok (.aload_n 0, 1) := by decide +kernel
theorem dX10_readLaw_67 : decode cX10_readLaw 67 = .ok (.getfield 50, 3) := by decide +kernel
theorem dX10_readLaw_70 : decode cX10_readLaw 70 = .ok (.iload_n 1, 1) := by decide +kernel
theorem dX10_readLaw_71 : decode cX10_readLaw 71 = .ok (.iconst 0, 1) := by decide +kernel
theorem dX10_readLaw_72 : decode cX10_readLaw 72 = .ok (.iastore, 1) := by decide +kernel
theorem dX10_readLaw_73 : decode cX10_readLaw 73 = .ok (.aload_n 0, 1) := by decide +kernel
theorem dX10_readLaw_74 : decode cX10_readLaw 74 = .ok (.getfield 53, 3) := by decide +kernel
theorem dX10_readLaw_77 : decode cX10_readLaw 77 = .ok (.iload_n 1, 1) := by decide +kernel
theorem dX10_readLaw_78 : decode cX10_readLaw 78 = .ok (.iconst (-1), 1) := by decide +kernel
theorem dX10_readLaw_79 : decode cX10_readLaw 79 = .ok (.iastore, 1) := by decide +kernel
theorem dX10_readLaw_80 : decode cX10_readLaw 80 = .ok (.aload_n 0, 1) := by decide +kernel
theorem dX10_readLaw_81 : decode cX10_readLaw 81 = .ok (.invokevirtual 160, 3) := by decide +kernel
theorem dX10_readLaw_84 : decode cX10_readLaw 84 = .ok (.aload_n 0, 1) := by decide +kernel
theorem dX10_readLaw_85 : decode cX10_readLaw 85 = .ok (.bipush 111, 2) := by decide +kernel
theorem dX10_readLaw_87 : decode cX10_readLaw 87 = .ok (.bipush 118, 2) := by decide +kernel
theorem dX10_readLaw_89 : decode cX10_readLaw 89 = .ok (.bipush 101, 2) := by decide +kernel
theorem dX10_readLaw_91 : decode cX10_readLaw 91 = .ok (.bipush 114, 2) := by decide +kernel
theorem dX10_readLaw_93 : decode cX10_readLaw 93 = .ok (.iconst 0, 1) := by decide +kernel
theorem dX10_readLaw_94 : decode cX10_readLaw 94 = .ok (.invokevirtual 170, 3) := by decide +kernel
theorem dX10_readLaw_97 : decode cX10_readLaw 97 = .ok (.ifCond .eq 13, 3) := by decide +kernel
theorem dX10_readLaw_100 : decode cX10_readLaw 100 = .ok (.aload_n 0, 1) := by decide +kernel
theorem dX10_readLaw_101 : decode cX10_readLaw 101 = .ok (.iload_n 1, 1) := by decide +kernel
theorem dX10_readLaw_102 : decode cX10_readLaw 102 = .ok (.invokevirtual 181, 3) := by decide +kernel
theorem dX10_readLaw_105 : decode cX10_readLaw 105 = .ok (.ifCond .ne 5, 3) := by decide +kernel
theorem dX10_readLaw_108 : decode cX10_readLaw 108 = .ok (.iconst 0, 1) := by decide +kernel
theorem dX10_readLaw_109 : decode cX10_readLaw 109 = .ok (.ireturn, 1) := by decide +kernel
theorem dX10_readLaw_110 : decode cX10_readLaw 110 = .ok (.aload_n 0, 1) := by decide +kernel
theorem dX10_readLaw_111 : decode cX10_readLaw 111 = .ok (.bipush 110, 2) := by decide +kernel
theorem dX10_readLaw_113 : decode cX10_readLaw 113 = .ok (.bipush 105, 2) := by decide +kernel
theorem dX10_readLaw_115 : decode cX10_readLaw 115 = .ok (.bipush 103, 2) := by decide +kernel
theorem dX10_readLaw_117 : decode cX10_readLaw 117 = .ok (.bipush 104, 2) := by decide +kernel
theorem dX10_readLaw_119 : decode cX10_readLaw 119 = .ok (.bipush 116, 2) := by decide +kernel
theorem dX10_readLaw_121 : decode cX10_readLaw 121 = .ok (.invokevirtual 170, 3) := by decide +kernel
theorem dX10_readLaw_124 : decode cX10_readLaw 124 = .ok (.ifCond .eq 29, 3) := by decide +kernel
theorem dX10_readLaw_127 : decode cX10_readLaw 127 = .ok (.aload_n 0, 1) := by decide +kernel
theorem dX10_readLaw_128 : decode cX10_readLaw 128 = .ok (.iconst 0, 1) := by decide +kernel
theorem dX10_readLaw_129 : decode cX10_readLaw 129 = .ok (.bipush 14, 2) := by decide +kernel
theorem dX10_readLaw_131 : decode cX10_readLaw 131 = .ok (.invokevirtual 174, 3) := by decide +kernel
theorem dX10_readLaw_134 : decode cX10_readLaw 134 = .ok (.ifCond .ne 5, 3) := by decide +kernel
theorem dX10_readLaw_137 : decode cX10_readLaw 137 = .ok (.iconst 0, 1) := by decide +kernel
theorem dX10_readLaw_138 : decode cX10_readLaw 138 = .ok (.ireturn, 1) := by decide +kernel
theorem dX10_readLaw_139 : decode cX10_readLaw 139 = .ok (.aload_n 0, 1) := by decide +kernel
theorem dX10_readLaw_140 : decode cX10_readLaw 140 = .ok (.getfield 44, 3) := by decide +kernel
theorem dX10_readLaw_143 : decode cX10_readLaw 143 = .ok (.iload_n 1, 1) := by decide +kernel
theorem dX10_readLaw_144 : decode cX10_readLaw 144 = .ok (.aload_n 0, 1) := by decide +kernel
theorem dX10_readLaw_145 : decode cX10_readLaw 145 = .ok (.getfield 167, 3) := by decide +kernel
theorem dX10_readLaw_148 : decode cX10_readLaw 148 = .ok (.iastore, 1) := by decide +kernel
theorem dX10_readLaw_149 : decode cX10_readLaw 149 = .ok (.aload_n 0, 1) := by decide +kernel
theorem dX10_readLaw_150 : decode cX10_readLaw 150 = .ok (.invokevirtual 160, 3) := by decide +kernel
theorem dX10_readLaw_153 : decode cX10_readLaw 153 = .ok (.aload_n 0, 1) := by decide +kernel
theorem dX10_readLaw_154 : decode cX10_readLaw 154 = .ok (.bipush 111, 2) := by decide +kernel
theorem dX10_readLaw_156 : decode cX10_readLaw 156 = .ok (.bipush 116, 2) := by decide +kernel
theorem dX10_readLaw_158 : decode cX10_readLaw 158 = .ok (.bipush 104, 2) := by decide +kernel
theorem dX10_readLaw_160 : decode cX10_readLaw 160 = .ok (.bipush 101, 2) := by decide +kernel
theorem dX10_readLaw_162 : decode cX10_readLaw 162 = .ok (.bipush 114, 2) := by decide +kernel
theorem dX10_readLaw_164 : decode cX10_readLaw 164 = .ok (.invokevirtual 170, 3) := by decide +kernel
theorem dX10_readLaw_167 : decode cX10_readLaw 167 = .ok (.ifCond .eq 29, 3) := by decide +kernel
theorem dX10_readLaw_170 : decode cX10_readLaw 170 = .ok (.aload_n 0, 1) := by decide +kernel
theorem dX10_readLaw_171 : decode cX10_readLaw 171 = .ok (.iconst 0, 1) := by decide +kernel
theorem dX10_readLaw_172 : decode cX10_readLaw 172 = .ok (.bipush 20, 2) := by decide +kernel
theorem dX10_readLaw_174 : decode cX10_readLaw 174 = .ok (.invokevirtual 174, 3) := by decide +kernel
theorem dX10_readLaw_177 : decode cX10_readLaw 177 = .ok (.ifCond .ne 5, 3) := by decide +kernel
theorem dX10_readLaw_180 : decode cX10_readLaw 180 = .ok (.iconst 0, 1) := by decide +kernel
theorem dX10_readLaw_181 : decode cX10_readLaw 181 = .ok (.ireturn, 1) := by decide +kernel
theorem dX10_readLaw_182 : decode cX10_readLaw 182 = .ok (.aload_n 0, 1) := by decide +kernel
theorem dX10_readLaw_183 : decode cX10_readLaw 183 = .ok (.getfield 47, 3) := by decide +kernel
theorem dX10_readLaw_186 : decode cX10_readLaw 186 = .ok (.iload_n 1, 1) := by decide +kernel
theorem dX10_readLaw_187 : decode cX10_readLaw 187 = .ok (.aload_n 0, 1) := by decide +kernel
theorem dX10_readLaw_188 : decode cX10_readLaw 188 = .ok (.getfield 167, 3) := by decide +kernel
theorem dX10_readLaw_191 : decode cX10_readLaw 191 = .ok (.iastore, 1) := by decide +kernel
theorem dX10_readLaw_192 : decode cX10_readLaw 192 = .ok (.aload_n 0, 1) := by decide +kernel
theorem dX10_readLaw_193 : decode cX10_readLaw 193 = .ok (.invokevirtual 160, 3) := by decide +kernel
theorem dX10_readLaw_196 : decode cX10_readLaw 196 = .ok (.aload_n 0, 1) := by decide +kernel
theorem dX10_readLaw_197 : decode cX10_readLaw 197 = .ok (.bipush 108, 2) := by decide +kernel
theorem dX10_readLaw_199 : decode cX10_readLaw 199 = .ok (.bipush 101, 2) := by decide +kernel
theorem dX10_readLaw_201 : decode cX10_readLaw 201 = .ok (.bipush 97, 2) := by decide +kernel
theorem dX10_readLaw_203 : decode cX10_readLaw 203 = .ok (.bipush 115, 2) := by decide +kernel
theorem dX10_readLaw_205 : decode cX10_readLaw 205 = .ok (.bipush 116, 2) := by decide +kernel
theorem dX10_readLaw_207 : decode cX10_readLaw 207 = .ok (.invokevirtual 170, 3) := by decide +kernel
theorem dX10_readLaw_210 : decode cX10_readLaw 210 = .ok (.ifCond .eq 29, 3) := by decide +kernel
theorem dX10_readLaw_213 : decode cX10_readLaw 213 = .ok (.aload_n 0, 1) := by decide +kernel
theorem dX10_readLaw_214 : decode cX10_readLaw 214 = .ok (.iconst 0, 1) := by decide +kernel
theorem dX10_readLaw_215 : decode cX10_readLaw 215 = .ok (.ldc 97, 2) := by decide +kernel
theorem dX10_readLaw_217 : decode cX10_readLaw 217 = .ok (.invokevirtual 174, 3) := by decide +kernel
theorem dX10_readLaw_220 : decode cX10_readLaw 220 = .ok (.ifCond .ne 5, 3) := by decide +kernel
theorem dX10_readLaw_223 : decode cX10_readLaw 223 = .ok (.iconst 0, 1) := by decide +kernel
theorem dX10_readLaw_224 : decode cX10_readLaw 224 = .ok (.ireturn, 1) := by decide +kernel
theorem dX10_readLaw_225 : decode cX10_readLaw 225 = .ok (.aload_n 0, 1) := by decide +kernel
theorem dX10_readLaw_226 : decode cX10_readLaw 226 = .ok (.getfield 50, 3) := by decide +kernel
theorem dX10_readLaw_229 : decode cX10_readLaw 229 = .ok (.iload_n 1, 1) := by decide +kernel
theorem dX10_readLaw_230 : decode cX10_readLaw 230 = .ok (.aload_n 0, 1) := by decide +kernel
theorem dX10_readLaw_231 : decode cX10_readLaw 231 = .ok (.getfield 167, 3) := by decide +kernel
theorem dX10_readLaw_234 : decode cX10_readLaw 234 = .ok (.iastore, 1) := by decide +kernel
theorem dX10_readLaw_235 : decode cX10_readLaw 235 = .ok (.aload_n 0, 1) := by decide +kernel
theorem dX10_readLaw_236 : decode cX10_readLaw 236 = .ok (.invokevirtual 160, 3) := by decide +kernel
theorem dX10_readLaw_239 : decode cX10_readLaw 239 = .ok (.aload_n 0, 1) := by decide +kernel
theorem dX10_readLaw_240 : decode cX10_readLaw 240 = .ok (.bipush 109, 2) := by decide +kernel
theorem dX10_readLaw_242 : decode cX10_readLaw 242 = .ok (.bipush 111, 2) := by decide +kernel
theorem dX10_readLaw_244 : decode cX10_readLaw 244 = .ok (.bipush 115, 2) := by decide +kernel
theorem dX10_readLaw_246 : decode cX10_readLaw 246 = .ok (.bipush 116, 2) := by decide +kernel
theorem dX10_readLaw_248 : decode cX10_readLaw 248 = .ok (.iconst 0, 1) := by decide +kernel
theorem dX10_readLaw_249 : decode cX10_readLaw 249 = .ok (.invokevirtual 170, 3) := by decide +kernel
theorem dX10_readLaw_252 : decode cX10_readLaw 252 = .ok (.ifCond .eq 48, 3) := by decide +kernel
theorem dX10_readLaw_255 : decode cX10_readLaw 255 = .ok (.aload_n 0, 1) := by decide +kernel
theorem dX10_readLaw_256 : decode cX10_readLaw 256 = .ok (.aload_n 0, 1) := by decide +kernel
theorem dX10_readLaw_257 : decode cX10_readLaw 257 = .ok (.getfield 50, 3) := by decide +kernel
theorem dX10_readLaw_260 : decode cX10_readLaw 260 = .ok (.iload_n 1, 1) := by decide +kernel
theorem dX10_readLaw_261 : decode cX10_readLaw 261 = .ok (.iaload, 1) := by decide +kernel
theorem dX10_readLaw_262 : decode cX10_readLaw 262 = .ok (.iconst 1, 1) := by decide +kernel
theorem dX10_readLaw_263 : decode cX10_readLaw 263 = .ok (.if_icmp .le 12, 3) := by decide +kernel
theorem dX10_readLaw_266 : decode cX10_readLaw 266 = .ok (.aload_n 0, 1) := by decide +kernel
theorem dX10_readLaw_267 : decode cX10_readLaw 267 = .ok (.getfield 50, 3) := by decide +kernel
theorem dX10_readLaw_270 : decode cX10_readLaw 270 = .ok (.iload_n 1, 1) := by decide +kernel
theorem dX10_readLaw_271 : decode cX10_readLaw 271 = .ok (.iaload, 1) := by decide +kernel
theorem dX10_readLaw_272 : decode cX10_readLaw 272 = .ok (.goto 4, 3) := by decide +kernel
theorem dX10_readLaw_275 : decode cX10_readLaw 275 = .ok (.iconst 1, 1) := by decide +kernel
theorem dX10_readLaw_276 : decode cX10_readLaw 276 = .ok (.ldc 97, 2) := by decide +kernel
theorem dX10_readLaw_278 : decode cX10_readLaw 278 = .ok (.invokevirtual 174, 3) := by decide +kernel
theorem dX10_readLaw_281 : decode cX10_readLaw 281 = .ok (.ifCond .ne 5, 3) := by decide +kernel
theorem dX10_readLaw_284 : decode cX10_readLaw 284 = .ok (.iconst 0, 1) := by decide +kernel
theorem dX10_readLaw_285 : decode cX10_readLaw 285 = .ok (.ireturn, 1) := by decide +kernel
theorem dX10_readLaw_286 : decode cX10_readLaw 286 = .ok (.aload_n 0, 1) := by decide +kernel
theorem dX10_readLaw_287 : decode cX10_readLaw 287 = .ok (.getfield 53, 3) := by decide +kernel
theorem dX10_readLaw_290 : decode cX10_readLaw 290 = .ok (.iload_n 1, 1) := by decide +kernel
theorem dX10_readLaw_291 : decode cX10_readLaw 291 = .ok (.aload_n 0, 1) := by decide +kernel
theorem dX10_readLaw_292 : decode cX10_readLaw 292 = .ok (.getfield 167, 3) := by decide +kernel
theorem dX10_readLaw_295 : decode cX10_readLaw 295 = .ok (.iastore, 1) := by decide +kernel
theorem dX10_readLaw_296 : decode cX10_readLaw 296 = .ok (.aload_n 0, 1) := by decide +kernel
theorem dX10_readLaw_297 : decode cX10_readLaw 297 = .ok (.invokevirtual 160, 3) := by decide +kernel
theorem dX10_readLaw_300 : decode cX10_readLaw 300 = .ok (.aload_n 0, 1) := by decide +kernel
theorem dX10_readLaw_301 : decode cX10_readLaw 301 = .ok (.getfield 156, 3) := by decide +kernel
theorem dX10_readLaw_304 : decode cX10_readLaw 304 = .ok (.ifCond .ne 7, 3) := by decide +kernel
theorem dX10_readLaw_307 : decode cX10_readLaw 307 = .ok (.iconst 1, 1) := by decide +kernel
theorem dX10_readLaw_308 : decode cX10_readLaw 308 = .ok (.goto 4, 3) := by decide +kernel
theorem dX10_readLaw_311 : decode cX10_readLaw 311 = .ok (.iconst 0, 1) := by decide +kernel
theorem dX10_readLaw_312 : decode cX10_readLaw 312 = .ok (.ireturn, 1) := by decide +kernel
theorem dX10_keepAside_0 : decode cX10_keepAside 0 = .ok (.aload_n 0, 1) := by decide +kernel
theorem dX10_keepAside_1 : decode cX10_keepAside 1 = .ok (.getfield 78, 3) := by decide +kernel
theorem dX10_keepAside_4 : decode cX10_keepAside 4 = .ok (.iconst 0, 1) := by decide +kernel
theorem dX10_keepAside_5 : decode cX10_keepAside 5 = .ok (.aload_n 0, 1) := by decide +kernel
theorem dX10_keepAside_6 : decode cX10_keepAside 6 = .ok (.getfield 35, 3) := by decide +kernel
theorem dX10_keepAside_9 : decode cX10_keepAside 9 = .ok (.iload_n 1, 1) := by decide +kernel
theorem dX10_keepAside_10 : decode cX10_keepAside 10 = .ok (.iaload, 1) := by decide +kernel
theorem dX10_keepAside_11 : decode cX10_keepAside 11 = .ok (.iastore, 1) := by decide +kernel
theorem dX10_keepAside_12 : decode cX10_keepAside 12 = .ok (.aload_n 0, 1) := by decide +kernel
theorem dX10_keepAside_13 : decode cX10_keepAside 13 = .ok (.getfield 78, 3) := by decide +kernel
theorem dX10_keepAside_16 : decode cX10_keepAside 16 = .ok (.iconst 1, 1) := by decide +kernel
theorem dX10_keepAside_17 : decode cX10_keepAside 17 = .ok (.aload_n 0, 1) := by decide +kernel
theorem dX10_keepAside_18 : decode cX10_keepAside 18 = .ok (.getfield 38, 3) := by decide +kernel
theorem dX10_keepAside_21 : decode cX10_keepAside 21 = .ok (.iload_n 1, 1) := by decide +kernel
theorem dX10_keepAside_22 : decode cX10_keepAside 22 = .ok (.iaload, 1) := by decide +kernel
theorem dX10_keepAside_23 : decode cX10_keepAside 23 = .ok (.iastore, 1) := by decide +kernel
theorem dX10_keepAside_24 : decode cX10_keepAside 24 = .ok (.aload_n 0, 1) := by decide +kernel
theorem dX10_keepAside_25 : decode cX10_keepAside 25 = .ok (.getfield 78, 3) := by decide +kernel
theorem dX10_keepAside_28 : decode cX10_keepAside 28 = .ok (.iconst 2, 1) := by decide +kernel
theorem dX10_keepAside_29 : decode cX10_keepAside 29 = .ok (.aload_n 0, 1) := by decide +kernel
theorem dX10_keepAside_30 : decode cX10_keepAside 30 = .ok (.getfield 41, 3) := by decide +kernel
theorem dX10_keepAside_33 : decode cX10_keepAside 33 = .ok (.iload_n 1, 1) := by decide +kernel
theorem dX10_keepAside_34 : decode cX10_keepAside 34 = .ok (.iaload, 1) := by decide +kernel
theorem dX10_keepAside_35 : decode cX10_keepAside 35 = .ok (.iastore, 1) := by decide +kernel
theorem dX10_keepAside_36 : decode cX10_keepAside 36 = .ok (.aload_n 0, 1) := by decide +kernel
theorem dX10_keepAside_37 : decode cX10_keepAside 37 = .ok (.getfield 78, 3) := by decide +kernel
theorem dX10_keepAside_40 : decode cX10_keepAside 40 = .ok (.iconst 3, 1) := by decide +kernel
theorem dX10_keepAside_41 : decode cX10_keepAside 41 = .ok (.aload_n 0, 1) := by decide +kernel
theorem dX10_keepAside_42 : decode cX10_keepAside 42 = .ok (.getfield 44, 3) := by decide +kernel
theorem dX10_keepAside_45 : decode cX10_keepAside 45 = .ok (.iload_n 1, 1) := by decide +kernel
theorem dX10_keepAside_46 : decode cX10_keepAside 46 = .ok (.iaload, 1) := by decide +kernel
theorem dX10_keepAside_47 : decode cX10_keepAside 47 = .ok (.iastore, 1) := by decide +kernel
theorem dX10_keepAside_48 : decode cX10_keepAside 48 = .ok (.aload_n 0, 1) := by decide +kernel
theorem dX10_keepAside_49 : decode cX10_keepAside 49 = .ok (.getfield 78, 3) := by decide +kernel
theorem dX10_keepAside_52 : decode cX10_keepAside 52 = .ok (.iconst 4, 1) := by decide +kernel
theorem dX10_keepAside_53 : decode cX10_keepAside 53 = .ok (.aload_n 0, 1) := by decide +kernel
theorem dX10_keepAside_54 : decode cX10_keepAside 54 = .ok (.getfield 47, 3) := by decide +kernel
theorem dX10_keepAside_57 : decode cX10_keepAside 57 = .ok (.iload_n 1, 1) := by decide +kernel
theorem dX10_keepAside_58 : decode cX10_keepAside 58 = .ok (.iaload, 1) := by decide +kernel
theorem dX10_keepAside_59 : decode cX10_keepAside 59 = .ok (.iastore, 1) := by decide +kernel
theorem dX10_keepAside_60 : decode cX10_keepAside 60 = .ok (.aload_n 0, 1) := by decide +kernel
theorem dX10_keepAside_61 : decode cX10_keepAside 61 = .ok (.getfield 78, 3) := by decide +kernel
theorem dX10_keepAside_64 : decode cX10_keepAside 64 = .ok (.iconst 5, 1) := by decide +kernel
theorem dX10_keepAside_65 : decode cX10_keepAside 65 = .ok (.aload_n 0, 1) := by decide +kernel
theorem dX10_keepAside_66 : decode cX10_keepAside 66 = .ok (.getfield 50, 3) := by decide +kernel
theorem dX10_keepAside_69 : decode cX10_keepAside 69 = .ok (.iload_n 1, 1) := by decide +kernel
theorem dX10_keepAside_70 : decode cX10_keepAside 70 = .ok (.iaload, 1) := by decide +kernel
theorem dX10_keepAside_71 : decode cX10_keepAside 71 = .ok (.iastore, 1) := by decide +kernel
theorem dX10_keepAside_72 : decode cX10_keepAside 72 = .ok (.aload_n 0, 1) := by decide +kernel
theorem dX10_keepAside_73 : decode cX10_keepAside 73 = .ok (.getfield 78, 3) := by decide +kernel
theorem dX10_keepAside_76 : decode cX10_keepAside 76 = .ok (.bipush 6, 2) := by decide +kernel
theorem dX10_keepAside_78 : decode cX10_keepAside 78 = .ok (.aload_n 0, 1) := by decide +kernel
theorem dX10_keepAside_79 : decode cX10_keepAside 79 = .ok (.getfield 53, 3) := by decide +kernel
theorem dX10_keepAside_82 : decode cX10_keepAside 82 = .ok (.iload_n 1, 1) := by decide +kernel
theorem dX10_keepAside_83 : decode cX10_keepAside 83 = .ok (.iaload, 1) := by decide +kernel
theorem dX10_keepAside_84 : decode cX10_keepAside 84 = .ok (.iastore, 1) := by decide +kernel
theorem dX10_keepAside_85 : decode cX10_keepAside 85 = .ok (.return_, 1) := by decide +kernel
theorem dX10_putBack_0 : decode cX10_putBack 0 = .ok (.aload_n 0, 1) := by decide +kernel
theorem dX10_putBack_1 : decode cX10_putBack 1 = .ok (.getfield 35, 3) := by decide +kernel
theorem dX10_putBack_4 : decode cX10_putBack 4 = .ok (.iload_n 1, 1) := by decide +kernel
theorem dX10_putBack_5 : decode cX10_putBack 5 = .ok (.aload_n 0, 1) := by decide +kernel
theorem dX10_putBack_6 : decode cX10_putBack 6 = .ok (.getfield 78, 3) := by decide +kernel
theorem dX10_putBack_9 : decode cX10_putBack 9 = .ok (.iconst 0, 1) := by decide +kernel
theorem dX10_putBack_10 : decode cX10_putBack 10 = .ok (.iaload, 1) := by decide +kernel
theorem dX10_putBack_11 : decode cX10_putBack 11 = .ok (.iastore, 1) := by decide +kernel
theorem dX10_putBack_12 : decode cX10_putBack 12 = .ok (.aload_n 0, 1) := by decide +kernel
theorem dX10_putBack_13 : decode cX10_putBack 13 = .ok (.getfield 38, 3) := by decide +kernel
theorem dX10_putBack_16 : decode cX10_putBack 16 = .ok (.iload_n 1, 1) := by decide +kernel
theorem dX10_putBack_17 : decode cX10_putBack 17 = .ok (.aload_n 0, 1) := by decide +kernel
theorem dX10_putBack_18 : decode cX10_putBack 18 = .ok (.getfield 78, 3) := by decide +kernel
theorem dX10_putBack_21 : decode cX10_putBack 21 = .ok (.iconst 1, 1) := by decide +kernel
theorem dX10_putBack_22 : decode cX10_putBack 22 = .ok (.iaload, 1) := by decide +kernel
theorem dX10_putBack_23 : decode cX10_putBack 23 = .ok (.iastore, 1) := by decide +kernel
theorem dX10_putBack_24 : decode cX10_putBack 24 = .ok (.aload_n 0, 1) := by decide +kernel
theorem dX10_putBack_25 : decode cX10_putBack 25 = .ok (.getfield 41, 3) := by decide +kernel
theorem dX10_putBack_28 : decode cX10_putBack 28 = .ok (.iload_n 1, 1) := by decide +kernel
theorem dX10_putBack_29 : decode cX10_putBack 29 = .ok (.aload_n 0, 1) := by decide +kernel
theorem dX10_putBack_30 : decode cX10_putBack 30 = .ok (.getfield 78, 3) := by decide +kernel
theorem dX10_putBack_33 : decode cX10_putBack 33 = .ok (.iconst 2, 1) := by decide +kernel
theorem dX10_putBack_34 : decode cX10_putBack 34 = .ok (.iaload, 1) := by decide +kernel
theorem dX10_putBack_35 : decode cX10_putBack 35 = .ok (.iastore, 1) := by decide +kernel
theorem dX10_putBack_36 : decode cX10_putBack 36 = .ok (.aload_n 0, 1) := by decide +kernel
theorem dX10_putBack_37 : decode cX10_putBack 37 = .ok (.getfield 44, 3) := by decide +kernel
theorem dX10_putBack_40 : decode cX10_putBack 40 = .ok (.iload_n 1, 1) := by decide +kernel
theorem dX10_putBack_41 : decode cX10_putBack 41 = .ok (.aload_n 0, 1) := by decide +kernel
theorem dX10_putBack_42 : decode cX10_putBack 42 = .ok (.getfield 78, 3) := by decide +kernel
theorem dX10_putBack_45 : decode cX10_putBack 45 = .ok (.iconst 3, 1) := by decide +kernel
theorem dX10_putBack_46 : decode cX10_putBack 46 = .ok (.iaload, 1) := by decide +kernel
theorem dX10_putBack_47 : decode cX10_putBack 47 = .ok (.iastore, 1) := by decide +kernel
theorem dX10_putBack_48 : decode cX10_putBack 48 = .ok (.aload_n 0, 1) := by decide +kernel
theorem dX10_putBack_49 : decode cX10_putBack 49 = .ok (.getfield 47, 3) := by decide +kernel
theorem dX10_putBack_52 : decode cX10_putBack 52 = .ok (.iload_n 1, 1) := by decide +kernel
theorem dX10_putBack_53 : decode cX10_putBack 53 = .ok (.aload_n 0, 1) := by decide +kernel
theorem dX10_putBack_54 : decode cX10_putBack 54 = .ok (.getfield 78, 3) := by decide +kernel
theorem dX10_putBack_57 : decode cX10_putBack 57 = .ok (.iconst 4, 1) := by decide +kernel
theorem dX10_putBack_58 : decode cX10_putBack 58 = .ok (.iaload, 1) := by decide +kernel
theorem dX10_putBack_59 : decode cX10_putBack 59 = .ok (.iastore, 1) := by decide +kernel
theorem dX10_putBack_60 : decode cX10_putBack 60 = .ok (.aload_n 0, 1) := by decide +kernel
theorem dX10_putBack_61 : decode cX10_putBack 61 = .ok (.getfield 50, 3) := by decide +kernel
theorem dX10_putBack_64 : decode cX10_putBack 64 = .ok (.iload_n 1, 1) := by decide +kernel
theorem dX10_putBack_65 : decode cX10_putBack 65 = .ok (.aload_n 0, 1) := by decide +kernel
theorem dX10_putBack_66 : decode cX10_putBack 66 = .ok (.getfield 78, 3) := by decide +kernel
theorem dX10_putBack_69 : decode cX10_putBack 69 = .ok (.iconst 5, 1) := by decide +kernel
theorem dX10_putBack_70 : decode cX10_putBack 70 = .ok (.iaload, 1) := by decide +kernel
theorem dX10_putBack_71 : decode cX10_putBack 71 = .ok (.iastore, 1) := by decide +kernel
theorem dX10_putBack_72 : decode cX10_putBack 72 = .ok (.aload_n 0, 1) := by decide +kernel
theorem dX10_putBack_73 : decode cX10_putBack 73 = .ok (.getfield 53, 3) := by decide +kernel
theorem dX10_putBack_76 : decode cX10_putBack 76 = .ok (.iload_n 1, 1) := by decide +kernel
theorem dX10_putBack_77 : decode cX10_putBack 77 = .ok (.aload_n 0, 1) := by decide +kernel
theorem dX10_putBack_78 : decode cX10_putBack 78 = .ok (.getfield 78, 3) := by decide +kernel
theorem dX10_putBack_81 : decode cX10_putBack 81 = .ok (.bipush 6, 2) := by decide +kernel
theorem dX10_putBack_83 : decode cX10_putBack 83 = .ok (.iaload, 1) := by decide +kernel
theorem dX10_putBack_84 : decode cX10_putBack 84 = .ok (.iastore, 1) := by decide +kernel
theorem dX10_putBack_85 : decode cX10_putBack 85 = .ok (.return_, 1) := by decide +kernel
theorem dX10_law_0 : decode cX10_law 0 = .ok (.aload_n 0, 1) := by decide +kernel
theorem dX10_law_1 : decode cX10_law 1 = .ok (.getfield 184, 3) := by decide +kernel
theorem dX10_law_4 : decode cX10_law 4 = .ok (.bipush 8, 2) := by decide +kernel
theorem dX10_law_6 : decode cX10_law 6 = .ok (.if_icmp .ge 10, 3) := by decide +kernel
theorem dX10_law_9 : decode cX10_law 9 = .ok (.aload_n 0, 1) := by decide +kernel
theorem dX10_law_10 : decode cX10_law 10 = .ok (.getfield 184, 3) := by decide +kernel
theorem dX10_law_13 : decode cX10_law 13 = .ok (.goto 5, 3) := by decide +kernel
theorem dX10_law_16 : decode cX10_law 16 = .ok (.bipush 7, 2) := by decide +kernel
theorem dX10_law_18 : decode cX10_law 18 = .ok (.istore_n 2, 1) := by decide +kernel
theorem dX10_law_19 : decode cX10_law 19 = .ok (.aload_n 0, 1) := by decide +kernel
theorem dX10_law_20 : decode cX10_law 20 = .ok (.iload_n 2, 1) := by decide +kernel
theorem dX10_law_21 : decode cX10_law 21 = .ok (.invokevirtual 187, 3) := by decide +kernel
theorem dX10_law_24 : decode cX10_law 24 = .ok (.aload_n 0, 1) := by decide +kernel
theorem dX10_law_25 : decode cX10_law 25 = .ok (.iload_n 2, 1) := by decide +kernel
theorem dX10_law_26 : decode cX10_law 26 = .ok (.invokevirtual 190, 3) := by decide +kernel
theorem dX10_law_29 : decode cX10_law 29 = .ok (.istore_n 3, 1) := by decide +kernel
theorem dX10_law_30 : decode cX10_law 30 = .ok (.aload_n 0, 1) := by decide +kernel
theorem dX10_law_31 : decode cX10_law 31 = .ok (.invokevirtual 193, 3) := by decide +kernel
theorem dX10_law_34 : decode cX10_law 34 = .ok (.istore 4, 2) := by decide +kernel
theorem dX10_law_36 : decode cX10_law 36 = .ok (.aload_n 0, 1) := by decide +kernel
theorem dX10_law_37 : decode cX10_law 37 = .ok (.iconst 0, 1) := by decide +kernel
theorem dX10_law_38 : decode cX10_law 38 = .ok (.putfield 143, 3) := by decide +kernel
theorem dX10_law_41 : decode cX10_law 41 = .ok (.iload_n 1, 1) := by decide +kernel
theorem dX10_law_42 : decode cX10_law 42 = .ok (.invokestatic 102, 3) := by decide +kernel
theorem dX10_law_45 : decode cX10_law 45 = .ok (.ifCond .eq 16, 3) := by decide +kernel
theorem dX10_law_48 : decode cX10_law 48 = .ok (.iload_n 3, 1) := by decide +kernel
theorem dX10_law_49 : decode cX10_law 49 = .ok (.ifCond .eq 12, 3) := by decide +kernel
theorem dX10_law_52 : decode cX10_law 52 = .ok (.aload_n 0, 1) := by decide +kernel
theorem dX10_law_53 : decode cX10_law 53 = .ok (.getfield 184, 3) := by decide +kernel
theorem dX10_law_56 : decode cX10_law 56 = .ok (.bipush 8, 2) := by decide +kernel
theorem dX10_law_58 : decode cX10_law 58 = .ok (.if_icmp .ne 35, 3) := by decide +kernel
theorem dX10_law_61 : decode cX10_law 61 = .ok (.aload_n 0, 1) := by decide +kernel
theorem dX10_law_62 : decode cX10_law 62 = .ok (.iload_n 2, 1) := by decide +kernel
theorem dX10_law_63 : decode cX10_law 63 = .ok (.invokevirtual 196, 3) := by decide +kernel
theorem dX10_law_66 : decode cX10_law 66 = .ok (.iload_n 1, 1) := by decide +kernel
theorem dX10_law_67 : decode cX10_law 67 = .ok (.invokestatic 102, 3) := by decide +kernel
theorem dX10_law_70 : decode cX10_law 70 = .ok (.ifCond .ne 8, 3) := by decide +kernel
theorem dX10_law_73 : decode cX10_law 73 = .ok (.ldc 106, 2) := by decide +kernel
theorem dX10_law_75 : decode cX10_law 75 = .ok (.goto 17, 3) := by decide +kernel
theorem dX10_law_78 : decode cX10_law 78 = .ok (.iload_n 3, 1) := by decide +kernel
theorem dX10_law_79 : decode cX10_law 79 = .ok (.ifCond .ne 11, 3) := by decide +kernel
theorem dX10_law_82 : decode cX10_law 82 = .ok (.bipush (-100), 2) := by decide +kernel
theorem dX10_law_84 : decode cX10_law 84 = .ok (.iload 4, 2) := by decide +kernel
theorem dX10_law_86 : decode cX10_law 86 = .ok (.isub, 1) := by decide +kernel
theorem dX10_law_87 : decode cX10_law 87 = .ok (.goto 5, 3) := by decide +kernel
theorem dX10_law_90 : decode cX10_law 90 = .ok (.ldc 110, 2) := by decide +kernel
theorem dX10_law_92 : decode cX10_law 92 = .ok (.ireturn, 1) := by decide +kernel
theorem dX10_law_93 : decode cX10_law 93 = .ok (.aload_n 0, 1) := by decide +kernel
theorem dX10_law_94 : decode cX10_law 94 = .ok (.getfield 32, 3) := by decide +kernel
theorem dX10_law_97 : decode cX10_law 97 = .ok (.iload_n 2, 1) := by decide +kernel
theorem dX10_law_98 : decode cX10_law 98 = .ok (.iload_n 1, 1) := by decide +kernel
theorem dX10_law_99 : decode cX10_law 99 = .ok (.iastore, 1) := by decide +kernel
theorem dX10_law_100 : decode cX10_law 100 = .ok (.aload_n 0, 1) := by decide +kernel
theorem dX10_law_101 : decode cX10_law 101 = .ok (.dup, 1) := by decide +kernel
theorem dX10_law_102 : decode cX10_law 102 = .ok (.getfield 184, 3) := by decide +kernel
theorem dX10_law_105 : decode cX10_law 105 = .ok (.iconst 1, 1) := by decide +kernel
theorem dX10_law_106 : decode cX10_law 106 = .ok (.iadd, 1) := by decide +kernel
theorem dX10_law_107 : decode cX10_law 107 = .ok (.putfield 184, 3) := by decide +kernel
theorem dX10_law_110 : decode cX10_law 110 = .ok (.iload_n 2, 1) := by decide +kernel
theorem dX10_law_111 : decode cX10_law 111 = .ok (.ireturn, 1) := by decide +kernel
theorem dX10_lawOf_0 : decode cX10_lawOf 0 = .ok (.iconst (-1), 1) := by decide +kernel
theorem dX10_lawOf_1 : decode cX10_lawOf 1 = .ok (.istore_n 2, 1) := by decide +kernel
theorem dX10_lawOf_2 : decode cX10_lawOf 2 = .ok (.iconst 0, 1) := by decide +kernel
theorem dX10_lawOf_3 : decode cX10_lawOf 3 = .ok (.istore_n 3, 1) := by decide +kernel
theorem dX10_lawOf_4 : decode cX10_lawOf 4 = .ok (.iload_n 3, 1) := by decide +kernel
theorem dX10_lawOf_5 : decode cX10_lawOf 5 = .ok (.aload_n 0, 1) := by decide +kernel
theorem dX10_lawOf_6 : decode cX10_lawOf 6 = .ok (.getfield 184, 3) := by decide +kernel
theorem dX10_lawOf_9 : decode cX10_lawOf 9 = .ok (.if_icmp .ge 40, 3) := by decide +kernel
theorem dX10_lawOf_12 : decode cX10_lawOf 12 = .ok (.aload_n 0, 1) := by decide +kernel
theorem dX10_lawOf_13 : decode cX10_lawOf 13 = .ok (.getfield 32, 3) := by decide +kernel
theorem dX10_lawOf_16 : decode cX10_lawOf 16 = .ok (.iload_n 3, 1) := by decide +kernel
theorem dX10_lawOf_17 : decode cX10_lawOf 17 = .ok (.iaload, 1) := by decide +kernel
theorem dX10_lawOf_18 : decode cX10_lawOf 18 = .ok (.iload_n 1, 1) := by decide +kernel
theorem dX10_lawOf_19 : decode cX10_lawOf 19 = .ok (.if_icmp .gt 24, 3) := by decide +kernel
theorem dX10_lawOf_22 : decode cX10_lawOf 22 = .ok (.iload_n 2, 1) := by decide +kernel
theorem dX10_lawOf_23 : decode cX10_lawOf 23 = .ok (.ifCond .lt 18, 3) := by decide +kernel
theorem dX10_lawOf_26 : decode cX10_lawOf 26 = .ok (.aload_n 0, 1) := by decide +kernel
theorem dX10_lawOf_27 : decode cX10_lawOf 27 = .ok (.getfield 32, 3) := by decide +kernel
theorem dX10_lawOf_30 : decode cX10_lawOf 30 = .ok (.iload_n 3, 1) := by decide +kernel
theorem dX10_lawOf_31 : decode cX10_lawOf 31 = .ok (.iaload, 1) := by decide +kernel
theorem dX10_lawOf_32 : decode cX10_lawOf 32 = .ok (.aload_n 0, 1) := by decide +kernel
theorem dX10_lawOf_33 : decode cX10_lawOf 33 = .ok (.getfield 32, 3) := by decide +kernel
theorem dX10_lawOf_36 : decode cX10_lawOf 36 = .ok (.iload_n 2, 1) := by decide +kernel
theorem dX10_lawOf_37 : decode cX10_lawOf 37 = .ok (.iaload, 1) := by decide +kernel
theorem dX10_lawOf_38 : decode cX10_lawOf 38 = .ok (.if_icmp .lt 5, 3) := by decide +kernel
theorem dX10_lawOf_41 : decode cX10_lawOf 41 = .ok (.iload_n 3, 1) := by decide +kernel
theorem dX10_lawOf_42 : decode cX10_lawOf 42 = .ok (.istore_n 2, 1) := by decide +kernel
theorem dX10_lawOf_43 : decode cX10_lawOf 43 = .ok (.iinc 3 1, 3) := by decide +kernel
theorem dX10_lawOf_46 : decode cX10_lawOf 46 = .ok (.goto (-42), 3) := by decide +kernel
theorem dX10_lawOf_49 : decode cX10_lawOf 49 = .ok (.iload_n 2, 1) := by decide +kernel
theorem dX10_lawOf_50 : decode cX10_lawOf 50 = .ok (.ireturn, 1) := by decide +kernel
theorem dX10_inForce_0 : decode cX10_inForce 0 = .ok (.iload_n 1, 1) := by decide +kernel
theorem dX10_inForce_1 : decode cX10_inForce 1 = .ok (.invokestatic 102, 3) := by decide +kernel
theorem dX10_inForce_4 : decode cX10_inForce 4 = .ok (.ifCond .ne 6, 3) := by decide +kernel
theorem dX10_inForce_7 : decode cX10_inForce 7 = .ok (.ldc 106, 2) := by decide +kernel
theorem dX10_inForce_9 : decode cX10_inForce 9 = .ok (.ireturn, 1) := by decide +kernel
theorem dX10_inForce_10 : decode cX10_inForce 10 = .ok (.aload_n 0, 1) := by decide +kernel
theorem dX10_inForce_11 : decode cX10_inForce 11 = .ok (.iload_n 1, 1) := by decide +kernel
theorem dX10_inForce_12 : decode cX10_inForce 12 = .ok (.invokevirtual 199, 3) := by decide +kernel
theorem dX10_inForce_15 : decode cX10_inForce 15 = .ok (.istore_n 2, 1) := by decide +kernel
theorem dX10_inForce_16 : decode cX10_inForce 16 = .ok (.iload_n 2, 1) := by decide +kernel
theorem dX10_inForce_17 : decode cX10_inForce 17 = .ok (.ifCond .ge 8, 3) := by decide +kernel
theorem dX10_inForce_20 : decode cX10_inForce 20 = .ok (.ldc 115, 2) := by decide +kernel
theorem dX10_inForce_22 : decode cX10_inForce 22 = .ok (.goto 4, 3) := by decide +kernel
theorem dX10_inForce_25 : decode cX10_inForce 25 = .ok (.iload_n 2, 1) := by decide +kernel
theorem dX10_inForce_26 : decode cX10_inForce 26 = .ok (.ireturn, 1) := by decide +kernel
theorem dX10_sumOf_0 : decode cX10_sumOf 0 = .ok (.aload_n 0, 1) := by decide +kernel
theorem dX10_sumOf_1 : decode cX10_sumOf 1 = .ok (.iload_n 1, 1) := by decide +kernel
theorem dX10_sumOf_2 : decode cX10_sumOf 2 = .ok (.invokevirtual 199, 3) := by decide +kernel
theorem dX10_sumOf_5 : decode cX10_sumOf 5 = .ok (.istore 4, 2) := by decide +kernel
theorem dX10_sumOf_7 : decode cX10_sumOf 7 = .ok (.aload_n 0, 1) := by decide +kernel
theorem dX10_sumOf_8 : decode cX10_sumOf 8 = .ok (.iload_n 3, 1) := by decide +kernel
theorem dX10_sumOf_9 : decode cX10_sumOf 9 = .ok (.iload_n 1, 1) := by decide +kernel
theorem dX10_sumOf_10 : decode cX10_sumOf 10 = .ok (.invokevirtual 130, 3) := by decide +kernel
theorem dX10_sumOf_13 : decode cX10_sumOf 13 = .ok (.istore 5, 2) := by decide +kernel
theorem dX10_sumOf_15 : decode cX10_sumOf 15 = .ok (.iload 4, 2) := by decide +kernel
theorem dX10_sumOf_17 : decode cX10_sumOf 17 = .ok (.ifCond .lt 8, 3) := by decide +kernel
theorem dX10_sumOf_20 : decode cX10_sumOf 20 = .ok (.iload 5, 2) := by decide +kernel
theorem dX10_sumOf_22 : decode cX10_sumOf 22 = .ok (.ifCond .ne 5, 3) := by decide +kernel
theorem dX10_sumOf_25 : decode cX10_sumOf 25 = .ok (.iconst 0, 1) := by decide +kernel
theorem dX10_sumOf_26 : decode cX10_sumOf 26 = .ok (.ireturn, 1) := by decide +kernel
theorem dX10_sumOf_27 : decode cX10_sumOf 27 = .ok (.aload_n 0, 1) := by decide +kernel
theorem dX10_sumOf_28 : decode cX10_sumOf 28 = .ok (.iload_n 3, 1) := by decide +kernel
theorem dX10_sumOf_29 : decode cX10_sumOf 29 = .ok (.iload_n 1, 1) := by decide +kernel
theorem dX10_sumOf_30 : decode cX10_sumOf 30 = .ok (.invokevirtual 126, 3) := by decide +kernel
theorem dX10_sumOf_33 : decode cX10_sumOf 33 = .ok (.istore 6, 2) := by decide +kernel
theorem dX10_sumOf_35 : decode cX10_sumOf 35 = .ok (.iload 6, 2) := by decide +kernel
theorem dX10_sumOf_37 : decode cX10_sumOf 37 = .ok (.aload_n 0, 1) := by decide +kernel
theorem dX10_sumOf_38 : decode cX10_sumOf 38 = .ok (.iload_n 3, 1) := by decide +kernel
theorem dX10_sumOf_39 : decode cX10_sumOf 39 = .ok (.iload_n 1, 1) := by decide +kernel
theorem dX10_sumOf_40 : decode cX10_sumOf 40 = .ok (.invokevirtual 133, 3) := by decide +kernel
theorem dX10_sumOf_43 : decode cX10_sumOf 43 = .ok (.iload 6, 2) := by decide +kernel
theorem dX10_sumOf_45 : decode cX10_sumOf 45 = .ok (.aload_n 0, 1) := by decide +kernel
theorem dX10_sumOf_46 : decode cX10_sumOf 46 = .ok (.getfield 47, 3) := by decide +kernel
theorem dX10_sumOf_49 : decode cX10_sumOf 49 = .ok (.iload 4, 2) := by decide +kernel
theorem dX10_sumOf_51 : decode cX10_sumOf 51 = .ok (.iaload, 1) := by decide +kernel
theorem dX10_sumOf_52 : decode cX10_sumOf 52 = .ok (.imul, 1) := by decide +kernel
theorem dX10_sumOf_53 : decode cX10_sumOf 53 = .ok (.bipush 100, 2) := by decide +kernel
theorem dX10_sumOf_55 : decode cX10_sumOf 55 = .ok (.idiv, 1) := by decide +kernel
theorem dX10_sumOf_56 : decode cX10_sumOf 56 = .ok (.imul, 1) := by decide +kernel
theorem dX10_sumOf_57 : decode cX10_sumOf 57 = .ok (.isub, 1) := by decide +kernel
theorem dX10_sumOf_58 : decode cX10_sumOf 58 = .ok (.istore 6, 2) := by decide +kernel
theorem dX10_sumOf_60 : decode cX10_sumOf 60 = .ok (.iload 6, 2) := by decide +kernel
theorem dX10_sumOf_62 : decode cX10_sumOf 62 = .ok (.ifCond .ge 7, 3) := by decide +kernel
theorem dX10_sumOf_65 : decode cX10_sumOf 65 = .ok (.iconst 0, 1) := by decide +kernel
theorem dX10_sumOf_66 : decode cX10_sumOf 66 = .ok (.goto 5, 3) := by decide +kernel
theorem dX10_sumOf_69 : decode cX10_sumOf 69 = .ok (.iload 6, 2) := by decide +kernel
theorem dX10_sumOf_71 : decode cX10_sumOf 71 = .ok (.istore 6, 2) := by decide +kernel
theorem dX10_sumOf_73 : decode cX10_sumOf 73 = .ok (.aload_n 0, 1) := by decide +kernel
theorem dX10_sumOf_74 : decode cX10_sumOf 74 = .ok (.getfield 38, 3) := by decide +kernel
theorem dX10_sumOf_77 : decode cX10_sumOf 77 = .ok (.iload 4, 2) := by decide +kernel
theorem dX10_sumOf_79 : decode cX10_sumOf 79 = .ok (.iaload, 1) := by decide +kernel
theorem dX10_sumOf_80 : decode cX10_sumOf 80 = .ok (.ifCond .lt 15, 3) := by decide +kernel
theorem dX10_sumOf_83 : decode cX10_sumOf 83 = .ok (.iload 6, 2) := by decide +kernel
theorem dX10_sumOf_85 : decode cX10_sumOf 85 = .ok (.aload_n 0, 1) := by decide +kernel
theorem dX10_sumOf_86 : decode cX10_sumOf 86 = .ok (.getfield 38, 3) := by decide +kernel
theorem dX10_sumOf_89 : decode cX10_sumOf 89 = .ok (.iload 4, 2) := by decide +kernel
theorem dX10_sumOf_91 : decode cX10_sumOf 91 = .ok (.iaload, 1) := by decide +kernel
theorem dX10_sumOf_92 : decode cX10_sumOf 92 = .ok (.if_icmp .ge 8, 3) := by decide +kernel
theorem dX10_sumOf_95 : decode cX10_sumOf 95 = .ok (.iload 6, 2) := by decide +kernel
theorem dX10_sumOf_97 : decode cX10_sumOf 97 = .ok (.goto 10, 3) := by decide +kernel
theorem dX10_sumOf_100 : decode cX10_sumOf 100 = .ok (.aload_n 0, 1) := by decide +kernel
theorem dX10_sumOf_101 : decode cX10_sumOf 101 = .ok (.getfield 38, 3) := by decide +kernel
theorem dX10_sumOf_104 : decode cX10_sumOf 104 = .ok (.iload 4, 2) := by decide +kernel
theorem dX10_sumOf_106 : decode cX10_sumOf 106 = .ok (.iaload, 1) := by decide +kernel
theorem dX10_sumOf_107 : decode cX10_sumOf 107 = .ok (.istore 7, 2) := by decide +kernel
theorem dX10_sumOf_109 : decode cX10_sumOf 109 = .ok (.iload 7, 2) := by decide +kernel
theorem dX10_sumOf_111 : decode cX10_sumOf 111 = .ok (.aload_n 0, 1) := by decide +kernel
theorem dX10_sumOf_112 : decode cX10_sumOf 112 = .ok (.getfield 35, 3) := by decide +kernel
theorem dX10_sumOf_115 : decode cX10_sumOf 115 = .ok (.iload 4, 2) := by decide +kernel
theorem dX10_sumOf_117 : decode cX10_sumOf 117 = .ok (.iaload, 1) := by decide +kernel
theorem dX10_sumOf_118 : decode cX10_sumOf 118 = .ok (.imul, 1) := by decide +kernel
theorem dX10_sumOf_119 : decode cX10_sumOf 119 = .ok (.bipush 100, 2) := by decide +kernel
theorem dX10_sumOf_121 : decode cX10_sumOf 121 = .ok (.idiv, 1) := by decide +kernel
theorem dX10_sumOf_122 : decode cX10_sumOf 122 = .ok (.iload 6, 2) := by decide +kernel
theorem dX10_sumOf_124 : decode cX10_sumOf 124 = .ok (.iload 7, 2) := by decide +kernel
theorem dX10_sumOf_126 : decode cX10_sumOf 126 = .ok (.isub, 1) := by decide +kernel
theorem dX10_sumOf_127 : decode cX10_sumOf 127 = .ok (.aload_n 0, 1) := by decide +kernel
theorem dX10_sumOf_128 : decode cX10_sumOf 128 = .ok (.getfield 41, 3) := by decide +kernel
theorem dX10_sumOf_131 : decode cX10_sumOf 131 = .ok (.iload 4, 2) := by decide +kernel
theorem dX10_sumOf_133 : decode cX10_sumOf 133 = .ok (.iaload, 1) := by decide +kernel
theorem dX10_sumOf_134 : decode cX10_sumOf 134 = .ok (.imul, 1) := by decide +kernel
theorem dX10_sumOf_135 : decode cX10_sumOf 135 = .ok (.bipush 100, 2) := by decide +kernel
theorem dX10_sumOf_137 : decode cX10_sumOf 137 = .ok (.idiv, 1) := by decide +kernel
theorem dX10_sumOf_138 : decode cX10_sumOf 138 = .ok (.iadd, 1) := by decide +kernel
theorem dX10_sumOf_139 : decode cX10_sumOf 139 = .ok (.istore 8, 2) := by decide +kernel
theorem dX10_sumOf_141 : decode cX10_sumOf 141 = .ok (.iload 8, 2) := by decide +kernel
theorem dX10_sumOf_143 : decode cX10_sumOf 143 = .ok (.iload 5, 2) := by decide +kernel
theorem dX10_sumOf_145 : decode cX10_sumOf 145 = .ok (.iconst 1, 1) := by decide +kernel
theorem dX10_sumOf_146 : decode cX10_sumOf 146 = .ok (.if_icmp .ne 8, 3) := by decide +kernel
theorem dX10_sumOf_149 : decode cX10_sumOf 149 = .ok (.bipush 100, 2) := by decide +kernel
theorem dX10_sumOf_151 : decode cX10_sumOf 151 = .ok (.goto 30, 3) := by decide +kernel
theorem dX10_sumOf_154 : decode cX10_sumOf 154 = .ok (.iload 5, 2) := by decide +kernel
theorem dX10_sumOf_156 : decode cX10_sumOf 156 = .ok (.iconst 2, 1) := by decide +kernel
theorem dX10_sumOf_157 : decode cX10_sumOf 157 = .ok (.if_icmp .ne 9, 3) := by decide +kernel
theorem dX10_sumOf_160 : decode cX10_sumOf 160 = .ok (.sipush 150, 3) := by decide +kernel
theorem dX10_sumOf_163 : decode cX10_sumOf 163 = .ok (.goto 18, 3) := by decide +kernel
theorem dX10_sumOf_166 : decode cX10_sumOf 166 = .ok (.iload 5, 2) := by decide +kernel
theorem dX10_sumOf_168 : decode cX10_sumOf 168 = .ok (.iconst 3, 1) := by decide +kernel
theorem dX10_sumOf_169 : decode cX10_sumOf 169 = .ok (.if_icmp .ne 9, 3) := by decide +kernel
theorem dX10_sumOf_172 : decode cX10_sumOf 172 = .ok (.sipush 180, 3) := by decide +kernel
theorem dX10_sumOf_175 : decode cX10_sumOf 175 = .ok (.goto 6, 3) := by decide +kernel
theorem dX10_sumOf_178 : decode cX10_sumOf 178 = .ok (.sipush 200, 3) := by decide +kernel
theorem dX10_sumOf_181 : decode cX10_sumOf 181 = .ok (.imul, 1) := by decide +kernel
theorem dX10_sumOf_182 : decode cX10_sumOf 182 = .ok (.bipush 100, 2) := by decide +kernel
theorem dX10_sumOf_184 : decode cX10_sumOf 184 = .ok (.idiv, 1) := by decide +kernel
theorem dX10_sumOf_185 : decode cX10_sumOf 185 = .ok (.istore 8, 2) := by decide +kernel
theorem dX10_sumOf_187 : decode cX10_sumOf 187 = .ok (.iload 8, 2) := by decide +kernel
theorem dX10_sumOf_189 : decode cX10_sumOf 189 = .ok (.iload_n 2, 1) := by decide +kernel
theorem dX10_sumOf_190 : decode cX10_sumOf 190 = .ok (.iload 8, 2) := by decide +kernel
theorem dX10_sumOf_192 : decode cX10_sumOf 192 = .ok (.aload_n 0, 1) := by decide +kernel
theorem dX10_sumOf_193 : decode cX10_sumOf 193 = .ok (.getfield 44, 3) := by decide +kernel
theorem dX10_sumOf_196 : decode cX10_sumOf 196 = .ok (.iload 4, 2) := by decide +kernel
theorem dX10_sumOf_198 : decode cX10_sumOf 198 = .ok (.iaload, 1) := by decide +kernel
theorem dX10_sumOf_199 : decode cX10_sumOf 199 = .ok (.imul, 1) := by decide +kernel
theorem dX10_sumOf_200 : decode cX10_sumOf 200 = .ok (.bipush 100, 2) := by decide +kernel
theorem dX10_sumOf_202 : decode cX10_sumOf 202 = .ok (.idiv, 1) := by decide +kernel
theorem dX10_sumOf_203 : decode cX10_sumOf 203 = .ok (.imul, 1) := by decide +kernel
theorem dX10_sumOf_204 : decode cX10_sumOf 204 = .ok (.isub, 1) := by decide +kernel
theorem dX10_sumOf_205 : decode cX10_sumOf 205 = .ok (.istore 8, 2) := by decide +kernel
theorem dX10_sumOf_207 : decode cX10_sumOf 207 = .ok (.iload 8, 2) := by decide +kernel
theorem dX10_sumOf_209 : decode cX10_sumOf 209 = .ok (.aload_n 0, 1) := by decide +kernel
theorem dX10_sumOf_210 : decode cX10_sumOf 210 = .ok (.getfield 50, 3) := by decide +kernel
theorem dX10_sumOf_213 : decode cX10_sumOf 213 = .ok (.iload 4, 2) := by decide +kernel
theorem dX10_sumOf_215 : decode cX10_sumOf 215 = .ok (.iaload, 1) := by decide +kernel
theorem dX10_sumOf_216 : decode cX10_sumOf 216 = .ok (.if_icmp .ge 13, 3) := by decide +kernel
theorem dX10_sumOf_219 : decode cX10_sumOf 219 = .ok (.aload_n 0, 1) := by decide +kernel
theorem dX10_sumOf_220 : decode cX10_sumOf 220 = .ok (.getfield 50, 3) := by decide +kernel
theorem dX10_sumOf_223 : decode cX10_sumOf 223 = .ok (.iload 4, 2) := by decide +kernel
theorem dX10_sumOf_225 : decode cX10_sumOf 225 = .ok (.iaload, 1) := by decide +kernel
theorem dX10_sumOf_226 : decode cX10_sumOf 226 = .ok (.goto 5, 3) := by decide +kernel
theorem dX10_sumOf_229 : decode cX10_sumOf 229 = .ok (.iload 8, 2) := by decide +kernel
theorem dX10_sumOf_231 : decode cX10_sumOf 231 = .ok (.istore 8, 2) := by decide +kernel
theorem dX10_sumOf_233 : decode cX10_sumOf 233 = .ok (.aload_n 0, 1) := by decide +kernel
theorem dX10_sumOf_234 : decode cX10_sumOf 234 = .ok (.getfield 53, 3) := by decide +kernel
theorem dX10_sumOf_237 : decode cX10_sumOf 237 = .ok (.iload 4, 2) := by decide +kernel
theorem dX10_sumOf_239 : decode cX10_sumOf 239 = .ok (.iaload, 1) := by decide +kernel
theorem dX10_sumOf_240 : decode cX10_sumOf 240 = .ok (.ifCond .lt 25, 3) := by decide +kernel
theorem dX10_sumOf_243 : decode cX10_sumOf 243 = .ok (.iload 8, 2) := by decide +kernel
theorem dX10_sumOf_245 : decode cX10_sumOf 245 = .ok (.aload_n 0, 1) := by decide +kernel
theorem dX10_sumOf_246 : decode cX10_sumOf 246 = .ok (.getfield 53, 3) := by decide +kernel
theorem dX10_sumOf_249 : decode cX10_sumOf 249 = .ok (.iload 4, 2) := by decide +kernel
theorem dX10_sumOf_251 : decode cX10_sumOf 251 = .ok (.iaload, 1) := by decide +kernel
theorem dX10_sumOf_252 : decode cX10_sumOf 252 = .ok (.if_icmp .le 13, 3) := by decide +kernel
theorem dX10_sumOf_255 : decode cX10_sumOf 255 = .ok (.aload_n 0, 1) := by decide +kernel
theorem dX10_sumOf_256 : decode cX10_sumOf 256 = .ok (.getfield 53, 3) := by decide +kernel
theorem dX10_sumOf_259 : decode cX10_sumOf 259 = .ok (.iload 4, 2) := by decide +kernel
theorem dX10_sumOf_261 : decode cX10_sumOf 261 = .ok (.iaload, 1) := by decide +kernel
theorem dX10_sumOf_262 : decode cX10_sumOf 262 = .ok (.goto 5, 3) := by decide +kernel
theorem dX10_sumOf_265 : decode cX10_sumOf 265 = .ok (.iload 8, 2) := by decide +kernel
theorem dX10_sumOf_267 : decode cX10_sumOf 267 = .ok (.ireturn, 1) := by decide +kernel
theorem dX10_sum_0 : decode cX10_sum 0 = .ok (.iload_n 1, 1) := by decide +kernel
theorem dX10_sum_1 : decode cX10_sum 1 = .ok (.invokestatic 102, 3) := by decide +kernel
theorem dX10_sum_4 : decode cX10_sum 4 = .ok (.ifCond .eq 31, 3) := by decide +kernel
theorem dX10_sum_7 : decode cX10_sum 7 = .ok (.iload_n 2, 1) := by decide +kernel
theorem dX10_sum_8 : decode cX10_sum 8 = .ok (.iconst 0, 1) := by decide +kernel
theorem dX10_sum_9 : decode cX10_sum 9 = .ok (.bipush 7, 2) := by decide +kernel
theorem dX10_sum_11 : decode cX10_sum 11 = .ok (.invokestatic 90, 3) := by decide +kernel
theorem dX10_sum_14 : decode cX10_sum 14 = .ok (.ifCond .eq 21, 3) := by decide +kernel
theorem dX10_sum_17 : decode cX10_sum 17 = .ok (.aload_n 0, 1) := by decide +kernel
theorem dX10_sum_18 : decode cX10_sum 18 = .ok (.iload_n 3, 1) := by decide +kernel
theorem dX10_sum_19 : decode cX10_sum 19 = .ok (.invokevirtual 123, 3) := by decide +kernel
theorem dX10_sum_22 : decode cX10_sum 22 = .ok (.ifCond .eq 13, 3) := by decide +kernel
theorem dX10_sum_25 : decode cX10_sum 25 = .ok (.aload_n 0, 1) := by decide +kernel
theorem dX10_sum_26 : decode cX10_sum 26 = .ok (.iload_n 1, 1) := by decide +kernel
theorem dX10_sum_27 : decode cX10_sum 27 = .ok (.iload_n 2, 1) := by decide +kernel
theorem dX10_sum_28 : decode cX10_sum 28 = .ok (.iload_n 3, 1) := by decide +kernel
theorem dX10_sum_29 : decode cX10_sum 29 = .ok (.invokevirtual 203, 3) := by decide +kernel
theorem dX10_sum_32 : decode cX10_sum 32 = .ok (.goto 5, 3) := by decide +kernel
theorem dX10_sum_35 : decode cX10_sum 35 = .ok (.ldc 106, 2) := by decide +kernel
theorem dX10_sum_37 : decode cX10_sum 37 = .ok (.ireturn, 1) := by decide +kernel
theorem dX10_dueOf_0 : decode cX10_dueOf 0 = .ok (.aload_n 0, 1) := by decide +kernel
theorem dX10_dueOf_1 : decode cX10_dueOf 1 = .ok (.getfield 28, 3) := by decide +kernel
theorem dX10_dueOf_4 : decode cX10_dueOf 4 = .ok (.iload_n 1, 1) := by decide +kernel
theorem dX10_dueOf_5 : decode cX10_dueOf 5 = .ok (.baload, 1) := by decide +kernel
theorem dX10_dueOf_6 : decode cX10_dueOf 6 = .ok (.ifCond .eq 5, 3) := by decide +kernel
theorem dX10_dueOf_9 : decode cX10_dueOf 9 = .ok (.iconst 0, 1) := by decide +kernel
theorem dX10_dueOf_10 : decode cX10_dueOf 10 = .ok (.ireturn, 1) := by decide +kernel
theorem dX10_dueOf_11 : decode cX10_dueOf 11 = .ok (.aload_n 0, 1) := by decide +kernel
theorem dX10_dueOf_12 : decode cX10_dueOf 12 = .ok (.iload_n 1, 1) := by decide +kernel
theorem dX10_dueOf_13 : decode cX10_dueOf 13 = .ok (.aload_n 0, 1) := by decide +kernel
theorem dX10_dueOf_14 : decode cX10_dueOf 14 = .ok (.iload_n 1, 1) := by decide +kernel
theorem dX10_dueOf_15 : decode cX10_dueOf 15 = .ok (.iconst 0, 1) := by decide +kernel
theorem dX10_dueOf_16 : decode cX10_dueOf 16 = .ok (.invokevirtual 139, 3) := by decide +kernel
theorem dX10_dueOf_19 : decode cX10_dueOf 19 = .ok (.iload_n 3, 1) := by decide +kernel
theorem dX10_dueOf_20 : decode cX10_dueOf 20 = .ok (.invokevirtual 203, 3) := by decide +kernel
theorem dX10_dueOf_23 : decode cX10_dueOf 23 = .ok (.istore 4, 2) := by decide +kernel
theorem dX10_dueOf_25 : decode cX10_dueOf 25 = .ok (.aload_n 0, 1) := by decide +kernel
theorem dX10_dueOf_26 : decode cX10_dueOf 26 = .ok (.iload_n 1, 1) := by decide +kernel
theorem dX10_dueOf_27 : decode cX10_dueOf 27 = .ok (.aload_n 0, 1) := by decide +kernel
theorem dX10_dueOf_28 : decode cX10_dueOf 28 = .ok (.iload_n 1, 1) := by decide +kernel
theorem dX10_dueOf_29 : decode cX10_dueOf 29 = .ok (.iconst 1, 1) := by decide +kernel
theorem dX10_dueOf_30 : decode cX10_dueOf 30 = .ok (.invokevirtual 139, 3) := by decide +kernel
theorem dX10_dueOf_33 : decode cX10_dueOf 33 = .ok (.iload_n 3, 1) := by decide +kernel
theorem dX10_dueOf_34 : decode cX10_dueOf 34 = .ok (.invokevirtual 203, 3) := by decide +kernel
theorem dX10_dueOf_37 : decode cX10_dueOf 37 = .ok (.istore 5, 2) := by decide +kernel
theorem dX10_dueOf_39 : decode cX10_dueOf 39 = .ok (.iload 4, 2) := by decide +kernel
theorem dX10_dueOf_41 : decode cX10_dueOf 41 = .ok (.iload 5, 2) := by decide +kernel
theorem dX10_dueOf_43 : decode cX10_dueOf 43 = .ok (.if_icmp .ge 7, 3) := by decide +kernel
theorem dX10_dueOf_46 : decode cX10_dueOf 46 = .ok (.iconst 1, 1) := by decide +kernel
theorem dX10_dueOf_47 : decode cX10_dueOf 47 = .ok (.goto 4, 3) := by decide +kernel
theorem dX10_dueOf_50 : decode cX10_dueOf 50 = .ok (.iconst 0, 1) := by decide +kernel
theorem dX10_dueOf_51 : decode cX10_dueOf 51 = .ok (.iload_n 2, 1) := by decide +kernel
theorem dX10_dueOf_52 : decode cX10_dueOf 52 = .ok (.iconst 1, 1) := by decide +kernel
theorem dX10_dueOf_53 : decode cX10_dueOf 53 = .ok (.if_icmp .ne 7, 3) := by decide +kernel
theorem dX10_dueOf_56 : decode cX10_dueOf 56 = .ok (.iconst 1, 1) := by decide +kernel
theorem dX10_dueOf_57 : decode cX10_dueOf 57 = .ok (.goto 4, 3) := by decide +kernel
theorem dX10_dueOf_60 : decode cX10_dueOf 60 = .ok (.iconst 0, 1) := by decide +kernel
theorem dX10_dueOf_61 : decode cX10_dueOf 61 = .ok (.if_icmp .ne 8, 3) := by decide +kernel
theorem dX10_dueOf_64 : decode cX10_dueOf 64 = .ok (.iload 5, 2) := by decide +kernel
theorem dX10_dueOf_66 : decode cX10_dueOf 66 = .ok (.goto 5, 3) := by decide +kernel
theorem dX10_dueOf_69 : decode cX10_dueOf 69 = .ok (.iload 4, 2) := by decide +kernel
theorem dX10_dueOf_71 : decode cX10_dueOf 71 = .ok (.ireturn, 1) := by decide +kernel
theorem dX10_isSide_0 : decode cX10_isSide 0 = .ok (.iload_n 0, 1) := by decide +kernel
theorem dX10_isSide_1 : decode cX10_isSide 1 = .ok (.iconst 0, 1) := by decide +kernel
theorem dX10_isSide_2 : decode cX10_isSide 2 = .ok (.iconst 1, 1) := by decide +kernel
theorem dX10_isSide_3 : decode cX10_isSide 3 = .ok (.invokestatic 90, 3) := by decide +kernel
theorem dX10_isSide_6 : decode cX10_isSide 6 = .ok (.ireturn, 1) := by decide +kernel
theorem dX10_due_0 : decode cX10_due 0 = .ok (.iload_n 1, 1) := by decide +kernel
theorem dX10_due_1 : decode cX10_due 1 = .ok (.invokestatic 102, 3) := by decide +kernel
theorem dX10_due_4 : decode cX10_due 4 = .ok (.ifCond .eq 28, 3) := by decide +kernel
theorem dX10_due_7 : decode cX10_due 7 = .ok (.iload_n 2, 1) := by decide +kernel
theorem dX10_due_8 : decode cX10_due 8 = .ok (.invokestatic 206, 3) := by decide +kernel
theorem dX10_due_11 : decode cX10_due 11 = .ok (.ifCond .eq 21, 3) := by decide +kernel
theorem dX10_due_14 : decode cX10_due 14 = .ok (.aload_n 0, 1) := by decide +kernel
theorem dX10_due_15 : decode cX10_due 15 = .ok (.iload_n 3, 1) := by decide +kernel
theorem dX10_due_16 : decode cX10_due 16 = .ok (.invokevirtual 123, 3) := by decide +kernel
theorem dX10_due_19 : decode cX10_due 19 = .ok (.ifCond .eq 13, 3) := by decide +kernel
theorem dX10_due_22 : decode cX10_due 22 = .ok (.aload_n 0, 1) := by decide +kernel
theorem dX10_due_23 : decode cX10_due 23 = .ok (.iload_n 1, 1) := by decide +kernel
theorem dX10_due_24 : decode cX10_due 24 = .ok (.iload_n 2, 1) := by decide +kernel
theorem dX10_due_25 : decode cX10_due 25 = .ok (.iload_n 3, 1) := by decide +kernel
theorem dX10_due_26 : decode cX10_due 26 = .ok (.invokevirtual 209, 3) := by decide +kernel
theorem dX10_due_29 : decode cX10_due 29 = .ok (.goto 5, 3) := by decide +kernel
theorem dX10_due_32 : decode cX10_due 32 = .ok (.ldc 106, 2) := by decide +kernel
theorem dX10_due_34 : decode cX10_due 34 = .ok (.ireturn, 1) := by decide +kernel
theorem dX10_edge_0 : decode cX10_edge 0 = .ok (.iload_n 1, 1) := by decide +kernel
theorem dX10_edge_1 : decode cX10_edge 1 = .ok (.invokestatic 102, 3) := by decide +kernel
theorem dX10_edge_4 : decode cX10_edge 4 = .ok (.ifCond .eq 13, 3) := by decide +kernel
theorem dX10_edge_7 : decode cX10_edge 7 = .ok (.iload_n 2, 1) := by decide +kernel
theorem dX10_edge_8 : decode cX10_edge 8 = .ok (.iconst 0, 1) := by decide +kernel
theorem dX10_edge_9 : decode cX10_edge 9 = .ok (.bipush 6, 2) := by decide +kernel
theorem dX10_edge_11 : decode cX10_edge 11 = .ok (.invokestatic 90, 3) := by decide +kernel
theorem dX10_edge_14 : decode cX10_edge 14 = .ok (.ifCond .ne 6, 3) := by decide +kernel
theorem dX10_edge_17 : decode cX10_edge 17 = .ok (.ldc 106, 2) := by decide +kernel
theorem dX10_edge_19 : decode cX10_edge 19 = .ok (.ireturn, 1) := by decide +kernel
theorem dX10_edge_20 : decode cX10_edge 20 = .ok (.aload_n 0, 1) := by decide +kernel
theorem dX10_edge_21 : decode cX10_edge 21 = .ok (.iload_n 1, 1) := by decide +kernel
theorem dX10_edge_22 : decode cX10_edge 22 = .ok (.iload_n 2, 1) := by decide +kernel
theorem dX10_edge_23 : decode cX10_edge 23 = .ok (.aload_n 0, 1) := by decide +kernel
theorem dX10_edge_24 : decode cX10_edge 24 = .ok (.getfield 94, 3) := by decide +kernel
theorem dX10_edge_27 : decode cX10_edge 27 = .ok (.invokevirtual 203, 3) := by decide +kernel
theorem dX10_edge_30 : decode cX10_edge 30 = .ok (.aload_n 0, 1) := by decide +kernel
theorem dX10_edge_31 : decode cX10_edge 31 = .ok (.iload_n 1, 1) := by decide +kernel
theorem dX10_edge_32 : decode cX10_edge 32 = .ok (.iload_n 2, 1) := by decide +kernel
theorem dX10_edge_33 : decode cX10_edge 33 = .ok (.iconst 1, 1) := by decide +kernel
theorem dX10_edge_34 : decode cX10_edge 34 = .ok (.iadd, 1) := by decide +kernel
theorem dX10_edge_35 : decode cX10_edge 35 = .ok (.aload_n 0, 1) := by decide +kernel
theorem dX10_edge_36 : decode cX10_edge 36 = .ok (.getfield 94, 3) := by decide +kernel
theorem dX10_edge_39 : decode cX10_edge 39 = .ok (.invokevirtual 203, 3) := by decide +kernel
theorem dX10_edge_42 : decode cX10_edge 42 = .ok (.isub, 1) := by decide +kernel
theorem dX10_edge_43 : decode cX10_edge 43 = .ok (.ireturn, 1) := by decide +kernel
theorem dX10_line_0 : decode cX10_line 0 = .ok (.aload_n 0, 1) := by decide +kernel
theorem dX10_line_1 : decode cX10_line 1 = .ok (.iload_n 1, 1) := by decide +kernel
theorem dX10_line_2 : decode cX10_line 2 = .ok (.invokevirtual 123, 3) := by decide +kernel
theorem dX10_line_5 : decode cX10_line 5 = .ok (.ifCond .eq 23, 3) := by decide +kernel
theorem dX10_line_8 : decode cX10_line 8 = .ok (.iload_n 2, 1) := by decide +kernel
theorem dX10_line_9 : decode cX10_line 9 = .ok (.iconst 1, 1) := by decide +kernel
theorem dX10_line_10 : decode cX10_line 10 = .ok (.ldc 159, 2) := by decide +kernel
theorem dX10_line_12 : decode cX10_line 12 = .ok (.invokestatic 90, 3) := by decide +kernel
theorem dX10_line_15 : decode cX10_line 15 = .ok (.ifCond .eq 13, 3) := by decide +kernel
theorem dX10_line_18 : decode cX10_line 18 = .ok (.iload_n 3, 1) := by decide +kernel
theorem dX10_line_19 : decode cX10_line 19 = .ok (.iconst 0, 1) := by decide +kernel
theorem dX10_line_20 : decode cX10_line 20 = .ok (.bipush 9, 2) := by decide +kernel
theorem dX10_line_22 : decode cX10_line 22 = .ok (.invokestatic 90, 3) := by decide +kernel
theorem dX10_line_25 : decode cX10_line 25 = .ok (.ifCond .ne 6, 3) := by decide +kernel
theorem dX10_line_28 : decode cX10_line 28 = .ok (.ldc 106, 2) := by decide +kernel
theorem dX10_line_30 : decode cX10_line 30 = .ok (.ireturn, 1) := by decide +kernel
theorem dX10_line_31 : decode cX10_line 31 = .ok (.aload_n 0, 1) := by decide +kernel
theorem dX10_line_32 : decode cX10_line 32 = .ok (.getfield 212, 3) := by decide +kernel
theorem dX10_line_35 : decode cX10_line 35 = .ok (.bipush 100, 2) := by decide +kernel
theorem dX10_line_37 : decode cX10_line 37 = .ok (.if_icmp .ne 6, 3) := by decide +kernel
theorem dX10_line_40 : decode cX10_line 40 = .ok (.ldc 110, 2) := by decide +kernel
theorem dX10_line_42 : decode cX10_line 42 = .ok (.ireturn, 1) := by decide +kernel
theorem dX10_line_43 : decode cX10_line 43 = .ok (.aload_n 0, 1) := by decide +kernel
theorem dX10_line_44 : decode cX10_line 44 = .ok (.getfield 56, 3) := by decide +kernel
theorem dX10_line_47 : decode cX10_line 47 = .ok (.aload_n 0, 1) := by decide +kernel
theorem dX10_line_48 : decode cX10_line 48 = .ok (.getfield 212, 3) := by decide +kernel
theorem dX10_line_51 : decode cX10_line 51 = .ok (.iload_n 1, 1) := by decide +kernel
theorem dX10_line_52 : decode cX10_line 52 = .ok (.iastore, 1) := by decide +kernel
theorem dX10_line_53 : decode cX10_line 53 = .ok (.aload_n 0, 1) := by decide +kernel
theorem dX10_line_54 : decode cX10_line 54 = .ok (.getfield 59, 3) := by decide +kernel
theorem dX10_line_57 : decode cX10_line 57 = .ok (.aload_n 0, 1) := by decide +kernel
theorem dX10_line_58 : decode cX10_line 58 = .ok (.getfield 212, 3) := by decide +kernel
theorem dX10_line_61 : decode cX10_line 61 = .ok (.iload_n 2, 1) := by decide +kernel
theorem dX10_line_62 : decode cX10_line 62 = .ok (.iastore, 1) := by decide +kernel
theorem dX10_line_63 : decode cX10_line 63 = .ok (.aload_n 0, 1) := by decide +kernel
theorem dX10_line_64 : decode cX10_line 64 = .ok (.getfield 62, 3) := by decide +kernel
theorem dX10_line_67 : decode cX10_line 67 = .ok (.aload_n 0, 1) := by decide +kernel
theorem dX10_line_68 : decode cX10_line 68 = .ok (.getfield 212, 3) := by decide +kernel
theorem dX10_line_71 : decode cX10_line 71 = .ok (.iload_n 3, 1) := by decide +kernel
theorem dX10_line_72 : decode cX10_line 72 = .ok (.iastore, 1) := by decide +kernel
theorem dX10_line_73 : decode cX10_line 73 = .ok (.aload_n 0, 1) := by decide +kernel
theorem dX10_line_74 : decode cX10_line 74 = .ok (.dup, 1) := by decide +kernel
theorem dX10_line_75 : decode cX10_line 75 = .ok (.getfield 212, 3) := by decide +kernel
theorem dX10_line_78 : decode cX10_line 78 = .ok (.iconst 1, 1) := by decide +kernel
theorem dX10_line_79 : decode cX10_line 79 = .ok (.iadd, 1) := by decide +kernel
theorem dX10_line_80 : decode cX10_line 80 = .ok (.putfield 212, 3) := by decide +kernel
theorem dX10_line_83 : decode cX10_line 83 = .ok (.aload_n 0, 1) := by decide +kernel
theorem dX10_line_84 : decode cX10_line 84 = .ok (.getfield 212, 3) := by decide +kernel
theorem dX10_line_87 : decode cX10_line 87 = .ok (.iconst 1, 1) := by decide +kernel
theorem dX10_line_88 : decode cX10_line 88 = .ok (.isub, 1) := by decide +kernel
theorem dX10_line_89 : decode cX10_line 89 = .ok (.ireturn, 1) := by decide +kernel
theorem dX10_marks_0 : decode cX10_marks 0 = .ok (.iload_n 1, 1) := by decide +kernel
theorem dX10_marks_1 : decode cX10_marks 1 = .ok (.iconst 0, 1) := by decide +kernel
theorem dX10_marks_2 : decode cX10_marks 2 = .ok (.sipush 1023, 3) := by decide +kernel
theorem dX10_marks_5 : decode cX10_marks 5 = .ok (.invokestatic 90, 3) := by decide +kernel
theorem dX10_marks_8 : decode cX10_marks 8 = .ok (.ifCond .ne 6, 3) := by decide +kernel
theorem dX10_marks_11 : decode cX10_marks 11 = .ok (.ldc 106, 2) := by decide +kernel
theorem dX10_marks_13 : decode cX10_marks 13 = .ok (.ireturn, 1) := by decide +kernel
theorem dX10_marks_14 : decode cX10_marks 14 = .ok (.aload_n 0, 1) := by decide +kernel
theorem dX10_marks_15 : decode cX10_marks 15 = .ok (.getfield 65, 3) := by decide +kernel
theorem dX10_marks_18 : decode cX10_marks 18 = .ok (.istore_n 2, 1) := by decide +kernel
theorem dX10_marks_19 : decode cX10_marks 19 = .ok (.aload_n 0, 1) := by decide +kernel
theorem dX10_marks_20 : decode cX10_marks 20 = .ok (.iload_n 1, 1) := by decide +kernel
theorem dX10_marks_21 : decode cX10_marks 21 = .ok (.putfield 65, 3) := by decide +kernel
theorem dX10_marks_24 : decode cX10_marks 24 = .ok (.iload_n 2, 1) := by decide +kernel
theorem dX10_marks_25 : decode cX10_marks 25 = .ok (.ireturn, 1) := by decide +kernel
theorem dX10_isPay_0 : decode cX10_isPay 0 = .ok (.aload_n 0, 1) := by decide +kernel
theorem dX10_isPay_1 : decode cX10_isPay 1 = .ok (.getfield 65, 3) := by decide +kernel
theorem dX10_isPay_4 : decode cX10_isPay 4 = .ok (.aload_n 0, 1) := by decide +kernel
theorem dX10_isPay_5 : decode cX10_isPay 5 = .ok (.getfield 62, 3) := by decide +kernel
theorem dX10_isPay_8 : decode cX10_isPay 8 = .ok (.iload_n 1, 1) := by decide +kernel
theorem dX10_isPay_9 : decode cX10_isPay 9 = .ok (.iaload, 1) := by decide +kernel
theorem dX10_isPay_10 : decode cX10_isPay 10 = .ok (.ishr, 1) := by decide +kernel
theorem dX10_isPay_11 : decode cX10_isPay 11 = .ok (.iconst 1, 1) := by decide +kernel
theorem dX10_isPay_12 : decode cX10_isPay 12 = .ok (.iand, 1) := by decide +kernel
theorem dX10_isPay_13 : decode cX10_isPay 13 = .ok (.iconst 1, 1) := by decide +kernel
theorem dX10_isPay_14 : decode cX10_isPay 14 = .ok (.if_icmp .ne 7, 3) := by decide +kernel
theorem dX10_isPay_17 : decode cX10_isPay 17 = .ok (.iconst 1, 1) := by decide +kernel
theorem dX10_isPay_18 : decode cX10_isPay 18 = .ok (.goto 4, 3) := by decide +kernel
theorem dX10_isPay_21 : decode cX10_isPay 21 = .ok (.iconst 0, 1) := by decide +kernel
theorem dX10_isPay_22 : decode cX10_isPay 22 = .ok (.ireturn, 1) := by decide +kernel
theorem dX10_paid_0 : decode cX10_paid 0 = .ok (.iload_n 1, 1) := by decide +kernel
theorem dX10_paid_1 : decode cX10_paid 1 = .ok (.invokestatic 102, 3) := by decide +kernel
theorem dX10_paid_4 : decode cX10_paid 4 = .ok (.ifCond .eq 12, 3) := by decide +kernel
theorem dX10_paid_7 : decode cX10_paid 7 = .ok (.iload_n 2, 1) := by decide +kernel
theorem dX10_paid_8 : decode cX10_paid 8 = .ok (.iconst 0, 1) := by decide +kernel
theorem dX10_paid_9 : decode cX10_paid 9 = .ok (.iconst 1, 1) := by decide +kernel
theorem dX10_paid_10 : decode cX10_paid 10 = .ok (.invokestatic 90, 3) := by decide +kernel
theorem dX10_paid_13 : decode cX10_paid 13 = .ok (.ifCond .ne 6, 3) := by decide +kernel
theorem dX10_paid_16 : decode cX10_paid 16 = .ok (.ldc 106, 2) := by decide +kernel
theorem dX10_paid_18 : decode cX10_paid 18 = .ok (.ireturn, 1) := by decide +kernel
theorem dX10_paid_19 : decode cX10_paid 19 = .ok (.iconst 0, 1) := by decide +kernel
theorem dX10_paid_20 : decode cX10_paid 20 = .ok (.istore_n 3, 1) := by decide +kernel
theorem dX10_paid_21 : decode cX10_paid 21 = .ok (.iconst 0, 1) := by decide +kernel
theorem dX10_paid_22 : decode cX10_paid 22 = .ok (.istore 4, 2) := by decide +kernel
theorem dX10_paid_24 : decode cX10_paid 24 = .ok (.iload 4, 2) := by decide +kernel
theorem dX10_paid_26 : decode cX10_paid 26 = .ok (.aload_n 0, 1) := by decide +kernel
theorem dX10_paid_27 : decode cX10_paid 27 = .ok (.getfield 212, 3) := by decide +kernel
theorem dX10_paid_30 : decode cX10_paid 30 = .ok (.if_icmp .ge 52, 3) := by decide +kernel
theorem dX10_paid_33 : decode cX10_paid 33 = .ok (.iload_n 3, 1) := by decide +kernel
theorem dX10_paid_34 : decode cX10_paid 34 = .ok (.aload_n 0, 1) := by decide +kernel
theorem dX10_paid_35 : decode cX10_paid 35 = .ok (.getfield 56, 3) := by decide +kernel
theorem dX10_paid_38 : decode cX10_paid 38 = .ok (.iload 4, 2) := by decide +kernel
theorem dX10_paid_40 : decode cX10_paid 40 = .ok (.iaload, 1) := by decide +kernel
theorem dX10_paid_41 : decode cX10_paid 41 = .ok (.iload_n 1, 1) := by decide +kernel
theorem dX10_paid_42 : decode cX10_paid 42 = .ok (.if_icmp .ne 31, 3) := by decide +kernel
theorem dX10_paid_45 : decode cX10_paid 45 = .ok (.aload_n 0, 1) := by decide +kernel
theorem dX10_paid_46 : decode cX10_paid 46 = .ok (.iload 4, 2) := by decide +kernel
theorem dX10_paid_48 : decode cX10_paid 48 = .ok (.invokevirtual 215, 3) := by decide +kernel
theorem dX10_paid_51 : decode cX10_paid 51 = .ok (.iload_n 2, 1) := by decide +kernel
theorem dX10_paid_52 : decode cX10_paid 52 = .ok (.ifCond .ne 7, 3) := by decide +kernel
theorem dX10_paid_55 : decode cX10_paid 55 = .ok (.iconst 1, 1) := by decide +kernel
theorem dX10_paid_56 : decode cX10_paid 56 = .ok (.goto 4, 3) := by decide +kernel
theorem dX10_paid_59 : decode cX10_paid 59 = .ok (.iconst 0, 1) := by decide +kernel
theorem dX10_paid_60 : decode cX10_paid 60 = .ok (.if_icmp .ne 13, 3) := by decide +kernel
theorem dX10_paid_63 : decode cX10_paid 63 = .ok (.aload_n 0, 1) := by decide +kernel
theorem dX10_paid_64 : decode cX10_paid 64 = .ok (.getfield 59, 3) := by decide +kernel
theorem dX10_paid_67 : decode cX10_paid 67 = .ok (.iload 4, 2) := by decide +kernel
theorem dX10_paid_69 : decode cX10_paid 69 = .ok (.iaload, 1) := by decide +kernel
theorem dX10_paid_70 : decode cX10_paid 70 = .ok (.goto 4, 3) := by decide +kernel
theorem dX10_paid_73 : decode cX10_paid 73 = .ok (.iconst 0, 1) := by decide +kernel
theorem dX10_paid_74 : decode cX10_paid 74 = .ok (.iadd, 1) := by decide +kernel
theorem dX10_paid_75 : decode cX10_paid 75 = .ok (.istore_n 3, 1) := by decide +kernel
theorem dX10_paid_76 : decode cX10_paid 76 = .ok (.iinc 4 1, 3) := by decide +kernel
theorem dX10_paid_79 : decode cX10_paid 79 = .ok (.goto (-55), 3) := by decide +kernel
theorem dX10_paid_82 : decode cX10_paid 82 = .ok (.iload_n 3, 1) := by decide +kernel
theorem dX10_paid_83 : decode cX10_paid 83 = .ok (.ireturn, 1) := by decide +kernel
theorem dX10_paysUpTo_0 : decode cX10_paysUpTo 0 = .ok (.iconst 0, 1) := by decide +kernel
theorem dX10_paysUpTo_1 : decode cX10_paysUpTo 1 = .ok (.istore_n 2, 1) := by decide +kernel
theorem dX10_paysUpTo_2 : decode cX10_paysUpTo 2 = .ok (.iconst 0, 1) := by decide +kernel
theorem dX10_paysUpTo_3 : decode cX10_paysUpTo 3 = .ok (.istore_n 3, 1) := by decide +kernel
theorem dX10_paysUpTo_4 : decode cX10_paysUpTo 4 = .ok (.iload_n 3, 1) := by decide +kernel
theorem dX10_paysUpTo_5 : decode cX10_paysUpTo 5 = .ok (.aload_n 0, 1) := by decide +kernel
theorem dX10_paysUpTo_6 : decode cX10_paysUpTo 6 = .ok (.getfield 212, 3) := by decide +kernel
theorem dX10_paysUpTo_9 : decode cX10_paysUpTo 9 = .ok (.if_icmp .ge 40, 3) := by decide +kernel
theorem dX10_paysUpTo_12 : decode cX10_paysUpTo 12 = .ok (.iload_n 2, 1) := by decide +kernel
theorem dX10_paysUpTo_13 : decode cX10_paysUpTo 13 = .ok (.aload_n 0, 1) := by decide +kernel
theorem dX10_paysUpTo_14 : decode cX10_paysUpTo 14 = .ok (.getfield 56, 3) := by decide +kernel
theorem dX10_paysUpTo_17 : decode cX10_paysUpTo 17 = .ok (.iload_n 3, 1) := by decide +kernel
theorem dX10_paysUpTo_18 : decode cX10_paysUpTo 18 = .ok (.iaload, 1) := by decide +kernel
theorem dX10_paysUpTo_19 : decode cX10_paysUpTo 19 = .ok (.iload_n 1, 1) := by decide +kernel
theorem dX10_paysUpTo_20 : decode cX10_paysUpTo 20 = .ok (.if_icmp .gt 20, 3) := by decide +kernel
theorem dX10_paysUpTo_23 : decode cX10_paysUpTo 23 = .ok (.aload_n 0, 1) := by decide +kernel
theorem dX10_paysUpTo_24 : decode cX10_paysUpTo 24 = .ok (.iload_n 3, 1) := by decide +kernel
theorem dX10_paysUpTo_25 : decode cX10_paysUpTo 25 = .ok (.invokevirtual 215, 3) := by decide +kernel
theorem dX10_paysUpTo_28 : decode cX10_paysUpTo 28 = .ok (.ifCond .eq 12, 3) := by decide +kernel
theorem dX10_paysUpTo_31 : decode cX10_paysUpTo 31 = .ok (.aload_n 0, 1) := by decide +kernel
theorem dX10_paysUpTo_32 : decode cX10_paysUpTo 32 = .ok (.getfield 59, 3) := by decide +kernel
theorem dX10_paysUpTo_35 : decode cX10_paysUpTo 35 = .ok (.iload_n 3, 1) := by decide +kernel
theorem dX10_paysUpTo_36 : decode cX10_paysUpTo 36 = .ok (.iaload, 1) := by decide +kernel
theorem dX10_paysUpTo_37 : decode cX10_paysUpTo 37 = .ok (.goto 4, 3) := by decide +kernel
theorem dX10_paysUpTo_40 : decode cX10_paysUpTo 40 = .ok (.iconst 0, 1) := by decide +kernel
theorem dX10_paysUpTo_41 : decode cX10_paysUpTo 41 = .ok (.iadd, 1) := by decide +kernel
theorem dX10_paysUpTo_42 : decode cX10_paysUpTo 42 = .ok (.istore_n 2, 1) := by decide +kernel
theorem dX10_paysUpTo_43 : decode cX10_paysUpTo 43 = .ok (.iinc 3 1, 3) := by decide +kernel
theorem dX10_paysUpTo_46 : decode cX10_paysUpTo 46 = .ok (.goto (-42), 3) := by decide +kernel
theorem dX10_paysUpTo_49 : decode cX10_paysUpTo 49 = .ok (.iload_n 2, 1) := by decide +kernel
theorem dX10_paysUpTo_50 : decode cX10_paysUpTo 50 = .ok (.ireturn, 1) := by decide +kernel
theorem dX10_findDues_0 : decode cX10_findDues 0 = .ok (.iconst 0, 1) := by decide +kernel
theorem dX10_findDues_1 : decode cX10_findDues 1 = .ok (.istore_n 3, 1) := by decide +kernel
theorem dX10_findDues_2 : decode cX10_findDues 2 = .ok (.iconst 0, 1) := by decide +kernel
theorem dX10_findDues_3 : decode cX10_findDues 3 = .ok (.istore 4, 2) := by decide +kernel
theorem dX10_findDues_5 : decode cX10_findDues 5 = .ok (.iload 4, 2) := by decide +kernel
theorem dX10_findDues_7 : decode cX10_findDues 7 = .ok (.iload_n 2, 1) := by decide +kernel
theorem dX10_findDues_8 : decode cX10_findDues 8 = .ok (.if_icmp .gt 42, 3) := by decide +kernel
theorem dX10_findDues_11 : decode cX10_findDues 11 = .ok (.aload_n 0, 1) := by decide +kernel
theorem dX10_findDues_12 : decode cX10_findDues 12 = .ok (.getfield 81, 3) := by decide +kernel
theorem dX10_findDues_15 : decode cX10_findDues 15 = .ok (.iload 4, 2) := by decide +kernel
theorem dX10_findDues_17 : decode cX10_findDues 17 = .ok (.aload_n 0, 1) := by decide +kernel
theorem dX10_findDues_18 : decode cX10_findDues 18 = .ok (.iload 4, 2) := by decide +kernel
theorem dX10_findDues_20 : decode cX10_findDues 20 = .ok (.iload_n 1, 1) := by decide +kernel
theorem dX10_findDues_21 : decode cX10_findDues 21 = .ok (.iload_n 2, 1) := by decide +kernel
theorem dX10_findDues_22 : decode cX10_findDues 22 = .ok (.invokevirtual 209, 3) := by decide +kernel
theorem dX10_findDues_25 : decode cX10_findDues 25 = .ok (.iastore, 1) := by decide +kernel
theorem dX10_findDues_26 : decode cX10_findDues 26 = .ok (.iload_n 3, 1) := by decide +kernel
theorem dX10_findDues_27 : decode cX10_findDues 27 = .ok (.aload_n 0, 1) := by decide +kernel
theorem dX10_findDues_28 : decode cX10_findDues 28 = .ok (.getfield 81, 3) := by decide +kernel
theorem dX10_findDues_31 : decode cX10_findDues 31 = .ok (.iload 4, 2) := by decide +kernel
theorem dX10_findDues_33 : decode cX10_findDues 33 = .ok (.iaload, 1) := by decide +kernel
theorem dX10_findDues_34 : decode cX10_findDues 34 = .ok (.iadd, 1) := by decide +kernel
theorem dX10_findDues_35 : decode cX10_findDues 35 = .ok (.istore_n 3, 1) := by decide +kernel
theorem dX10_findDues_36 : decode cX10_findDues 36 = .ok (.aload_n 0, 1) := by decide +kernel
theorem dX10_findDues_37 : decode cX10_findDues 37 = .ok (.getfield 84, 3) := by decide +kernel
theorem dX10_findDues_40 : decode cX10_findDues 40 = .ok (.iload 4, 2) := by decide +kernel
theorem dX10_findDues_42 : decode cX10_findDues 42 = .ok (.iload_n 3, 1) := by decide +kernel
theorem dX10_findDues_43 : decode cX10_findDues 43 = .ok (.iastore, 1) := by decide +kernel
theorem dX10_findDues_44 : decode cX10_findDues 44 = .ok (.iinc 4 1, 3) := by decide +kernel
theorem dX10_findDues_47 : decode cX10_findDues 47 = .ok (.goto (-42), 3) := by decide +kernel
theorem dX10_findDues_50 : decode cX10_findDues 50 = .ok (.return_, 1) := by decide +kernel
theorem dX10_leftBy_0 : decode cX10_leftBy 0 = .ok (.aload_n 0, 1) := by decide +kernel
theorem dX10_leftBy_1 : decode cX10_leftBy 1 = .ok (.getfield 84, 3) := by decide +kernel
theorem dX10_leftBy_4 : decode cX10_leftBy 4 = .ok (.iload_n 1, 1) := by decide +kernel
theorem dX10_leftBy_5 : decode cX10_leftBy 5 = .ok (.iaload, 1) := by decide +kernel
theorem dX10_leftBy_6 : decode cX10_leftBy 6 = .ok (.iload_n 2, 1) := by decide +kernel
theorem dX10_leftBy_7 : decode cX10_leftBy 7 = .ok (.isub, 1) := by decide +kernel
theorem dX10_leftBy_8 : decode cX10_leftBy 8 = .ok (.istore_n 3, 1) := by decide +kernel
theorem dX10_leftBy_9 : decode cX10_leftBy 9 = .ok (.iload_n 3, 1) := by decide +kernel
theorem dX10_leftBy_10 : decode cX10_leftBy 10 = .ok (.ifCond .ge 7, 3) := by decide +kernel
theorem dX10_leftBy_13 : decode cX10_leftBy 13 = .ok (.iconst 0, 1) := by decide +kernel
theorem dX10_leftBy_14 : decode cX10_leftBy 14 = .ok (.goto 23, 3) := by decide +kernel
theorem dX10_leftBy_17 : decode cX10_leftBy 17 = .ok (.iload_n 3, 1) := by decide +kernel
theorem dX10_leftBy_18 : decode cX10_leftBy 18 = .ok (.aload_n 0, 1) := by decide +kernel
theorem dX10_leftBy_19 : decode cX10_leftBy 19 = .ok (.getfield 81, 3) := by decide +kernel
theorem dX10_leftBy_22 : decode cX10_leftBy 22 = .ok (.iload_n 1, 1) := by decide +kernel
theorem dX10_leftBy_23 : decode cX10_leftBy 23 = .ok (.iaload, 1) := by decide +kernel
theorem dX10_leftBy_24 : decode cX10_leftBy 24 = .ok (.if_icmp .ge 7, 3) := by decide +kernel
theorem dX10_leftBy_27 : decode cX10_leftBy 27 = .ok (.iload_n 3, 1) := by decide +kernel
theorem dX10_leftBy_28 : decode cX10_leftBy 28 = .ok (.goto 9, 3) := by decide +kernel
theorem dX10_leftBy_31 : decode cX10_leftBy 31 = .ok (.aload_n 0, 1) := by decide +kernel
theorem dX10_leftBy_32 : decode cX10_leftBy 32 = .ok (.getfield 81, 3) := by decide +kernel
theorem dX10_leftBy_35 : decode cX10_leftBy 35 = .ok (.iload_n 1, 1) := by decide +kernel
theorem dX10_leftBy_36 : decode cX10_leftBy 36 = .ok (.iaload, 1) := by decide +kernel
theorem dX10_leftBy_37 : decode cX10_leftBy 37 = .ok (.ireturn, 1) := by decide +kernel
theorem dX10_isAsked_0 : decode cX10_isAsked 0 = .ok (.iload_n 1, 1) := by decide +kernel
theorem dX10_isAsked_1 : decode cX10_isAsked 1 = .ok (.invokestatic 206, 3) := by decide +kernel
theorem dX10_isAsked_4 : decode cX10_isAsked 4 = .ok (.ifCond .eq 15, 3) := by decide +kernel
theorem dX10_isAsked_7 : decode cX10_isAsked 7 = .ok (.aload_n 0, 1) := by decide +kernel
theorem dX10_isAsked_8 : decode cX10_isAsked 8 = .ok (.iload_n 2, 1) := by decide +kernel
theorem dX10_isAsked_9 : decode cX10_isAsked 9 = .ok (.invokevirtual 123, 3) := by decide +kernel
theorem dX10_isAsked_12 : decode cX10_isAsked 12 = .ok (.ifCond .eq 7, 3) := by decide +kernel
theorem dX10_isAsked_15 : decode cX10_isAsked 15 = .ok (.iconst 1, 1) := by decide +kernel
theorem dX10_isAsked_16 : decode cX10_isAsked 16 = .ok (.goto 4, 3) := by decide +kernel
theorem dX10_isAsked_19 : decode cX10_isAsked 19 = .ok (.iconst 0, 1) := by decide +kernel
theorem dX10_isAsked_20 : decode cX10_isAsked 20 = .ok (.ireturn, 1) := by decide +kernel
theorem dX10_owed_0 : decode cX10_owed 0 = .ok (.aload_n 0, 1) := by decide +kernel
theorem dX10_owed_1 : decode cX10_owed 1 = .ok (.iload_n 1, 1) := by decide +kernel
theorem dX10_owed_2 : decode cX10_owed 2 = .ok (.iload_n 2, 1) := by decide +kernel
theorem dX10_owed_3 : decode cX10_owed 3 = .ok (.invokevirtual 218, 3) := by decide +kernel
theorem dX10_owed_6 : decode cX10_owed 6 = .ok (.ifCond .ne 6, 3) := by decide +kernel
theorem dX10_owed_9 : decode cX10_owed 9 = .ok (.ldc 106, 2) := by decide +kernel
theorem dX10_owed_11 : decode cX10_owed 11 = .ok (.ireturn, 1) := by decide +kernel
theorem dX10_owed_12 : decode cX10_owed 12 = .ok (.aload_n 0, 1) := by decide +kernel
theorem dX10_owed_13 : decode cX10_owed 13 = .ok (.iload_n 1, 1) := by decide +kernel
theorem dX10_owed_14 : decode cX10_owed 14 = .ok (.iload_n 2, 1) := by decide +kernel
theorem dX10_owed_15 : decode cX10_owed 15 = .ok (.invokevirtual 221, 3) := by decide +kernel
theorem dX10_owed_18 : decode cX10_owed 18 = .ok (.aload_n 0, 1) := by decide +kernel
theorem dX10_owed_19 : decode cX10_owed 19 = .ok (.getfield 84, 3) := by decide +kernel
theorem dX10_owed_22 : decode cX10_owed 22 = .ok (.iload_n 2, 1) := by decide +kernel
theorem dX10_owed_23 : decode cX10_owed 23 = .ok (.iaload, 1) := by decide +kernel
theorem dX10_owed_24 : decode cX10_owed 24 = .ok (.aload_n 0, 1) := by decide +kernel
theorem dX10_owed_25 : decode cX10_owed 25 = .ok (.iload_n 2, 1) := by decide +kernel
theorem dX10_owed_26 : decode cX10_owed 26 = .ok (.invokevirtual 225, 3) := by decide +kernel
theorem dX10_owed_29 : decode cX10_owed 29 = .ok (.isub, 1) := by decide +kernel
theorem dX10_owed_30 : decode cX10_owed 30 = .ok (.istore_n 3, 1) := by decide +kernel
theorem dX10_owed_31 : decode cX10_owed 31 = .ok (.iload_n 3, 1) := by decide +kernel
theorem dX10_owed_32 : decode cX10_owed 32 = .ok (.ifCond .ge 7, 3) := by decide +kernel
theorem dX10_owed_35 : decode cX10_owed 35 = .ok (.iconst 0, 1) := by decide +kernel
theorem dX10_owed_36 : decode cX10_owed 36 = .ok (.goto 4, 3) := by decide +kernel
theorem dX10_owed_39 : decode cX10_owed 39 = .ok (.iload_n 3, 1) := by decide +kernel
theorem dX10_owed_40 : decode cX10_owed 40 = .ok (.ireturn, 1) := by decide +kernel
theorem dX10_over_0 : decode cX10_over 0 = .ok (.aload_n 0, 1) := by decide +kernel
theorem dX10_over_1 : decode cX10_over 1 = .ok (.iload_n 1, 1) := by decide +kernel
theorem dX10_over_2 : decode cX10_over 2 = .ok (.iload_n 2, 1) := by decide +kernel
theorem dX10_over_3 : decode cX10_over 3 = .ok (.invokevirtual 218, 3) := by decide +kernel
theorem dX10_over_6 : decode cX10_over 6 = .ok (.ifCond .ne 6, 3) := by decide +kernel
theorem dX10_over_9 : decode cX10_over 9 = .ok (.ldc 106, 2) := by decide +kernel
theorem dX10_over_11 : decode cX10_over 11 = .ok (.ireturn, 1) := by decide +kernel
theorem dX10_over_12 : decode cX10_over 12 = .ok (.aload_n 0, 1) := by decide +kernel
theorem dX10_over_13 : decode cX10_over 13 = .ok (.iload_n 1, 1) := by decide +kernel
theorem dX10_over_14 : decode cX10_over 14 = .ok (.iload_n 2, 1) := by decide +kernel
theorem dX10_over_15 : decode cX10_over 15 = .ok (.invokevirtual 221, 3) := by decide +kernel
theorem dX10_over_18 : decode cX10_over 18 = .ok (.aload_n 0, 1) := by decide +kernel
theorem dX10_over_19 : decode cX10_over 19 = .ok (.iload_n 2, 1) := by decide +kernel
theorem dX10_over_20 : decode cX10_over 20 = .ok (.invokevirtual 225, 3) := by decide +kernel
theorem dX10_over_23 : decode cX10_over 23 = .ok (.aload_n 0, 1) := by decide +kernel
theorem dX10_over_24 : decode cX10_over 24 = .ok (.getfield 84, 3) := by decide +kernel
theorem dX10_over_27 : decode cX10_over 27 = .ok (.iload_n 2, 1) := by decide +kernel
theorem dX10_over_28 : decode cX10_over 28 = .ok (.iaload, 1) := by decide +kernel
theorem dX10_over_29 : decode cX10_over 29 = .ok (.isub, 1) := by decide +kernel
theorem dX10_over_30 : decode cX10_over 30 = .ok (.istore_n 3, 1) := by decide +kernel
theorem dX10_over_31 : decode cX10_over 31 = .ok (.iload_n 3, 1) := by decide +kernel
theorem dX10_over_32 : decode cX10_over 32 = .ok (.ifCond .ge 7, 3) := by decide +kernel
theorem dX10_over_35 : decode cX10_over 35 = .ok (.iconst 0, 1) := by decide +kernel
theorem dX10_over_36 : decode cX10_over 36 = .ok (.goto 4, 3) := by decide +kernel
theorem dX10_over_39 : decode cX10_over 39 = .ok (.iload_n 3, 1) := by decide +kernel
theorem dX10_over_40 : decode cX10_over 40 = .ok (.ireturn, 1) := by decide +kernel
theorem dX10_left_0 : decode cX10_left 0 = .ok (.aload_n 0, 1) := by decide +kernel
theorem dX10_left_1 : decode cX10_left 1 = .ok (.iload_n 2, 1) := by decide +kernel
theorem dX10_left_2 : decode cX10_left 2 = .ok (.iload_n 3, 1) := by decide +kernel
theorem dX10_left_3 : decode cX10_left 3 = .ok (.invokevirtual 218, 3) := by decide +kernel
theorem dX10_left_6 : decode cX10_left 6 = .ok (.ifCond .eq 12, 3) := by decide +kernel
theorem dX10_left_9 : decode cX10_left 9 = .ok (.iload_n 1, 1) := by decide +kernel
theorem dX10_left_10 : decode cX10_left 10 = .ok (.iconst 0, 1) := by decide +kernel
theorem dX10_left_11 : decode cX10_left 11 = .ok (.iload_n 3, 1) := by decide +kernel
theorem dX10_left_12 : decode cX10_left 12 = .ok (.invokestatic 90, 3) := by decide +kernel
theorem dX10_left_15 : decode cX10_left 15 = .ok (.ifCond .ne 6, 3) := by decide +kernel
theorem dX10_left_18 : decode cX10_left 18 = .ok (.ldc 106, 2) := by decide +kernel
theorem dX10_left_20 : decode cX10_left 20 = .ok (.ireturn, 1) := by decide +kernel
theorem dX10_left_21 : decode cX10_left 21 = .ok (.aload_n 0, 1) := by decide +kernel
theorem dX10_left_22 : decode cX10_left 22 = .ok (.iload_n 2, 1) := by decide +kernel
theorem dX10_left_23 : decode cX10_left 23 = .ok (.iload_n 3, 1) := by decide +kernel
theorem dX10_left_24 : decode cX10_left 24 = .ok (.invokevirtual 221, 3) := by decide +kernel
theorem dX10_left_27 : decode cX10_left 27 = .ok (.aload_n 0, 1) := by decide +kernel
theorem dX10_left_28 : decode cX10_left 28 = .ok (.iload_n 1, 1) := by decide +kernel
theorem dX10_left_29 : decode cX10_left 29 = .ok (.aload_n 0, 1) := by decide +kernel
theorem dX10_left_30 : decode cX10_left 30 = .ok (.iload_n 3, 1) := by decide +kernel
theorem dX10_left_31 : decode cX10_left 31 = .ok (.invokevirtual 225, 3) := by decide +kernel
theorem dX10_left_34 : decode cX10_left 34 = .ok (.invokevirtual 228, 3) := by decide +kernel
theorem dX10_left_37 : decode cX10_left 37 = .ok (.ireturn, 1) := by decide +kernel
theorem dX10_oldest_0 : decode cX10_oldest 0 = .ok (.aload_n 0, 1) := by decide +kernel
theorem dX10_oldest_1 : decode cX10_oldest 1 = .ok (.iload_n 1, 1) := by decide +kernel
theorem dX10_oldest_2 : decode cX10_oldest 2 = .ok (.iload_n 2, 1) := by decide +kernel
theorem dX10_oldest_3 : decode cX10_oldest 3 = .ok (.invokevirtual 218, 3) := by decide +kernel
theorem dX10_oldest_6 : decode cX10_oldest 6 = .ok (.ifCond .ne 6, 3) := by decide +kernel
theorem dX10_oldest_9 : decode cX10_oldest 9 = .ok (.ldc 106, 2) := by decide +kernel
theorem dX10_oldest_11 : decode cX10_oldest 11 = .ok (.ireturn, 1) := by decide +kernel
theorem dX10_oldest_12 : decode cX10_oldest 12 = .ok (.aload_n 0, 1) := by decide +kernel
theorem dX10_oldest_13 : decode cX10_oldest 13 = .ok (.iload_n 1, 1) := by decide +kernel
theorem dX10_oldest_14 : decode cX10_oldest 14 = .ok (.iload_n 2, 1) := by decide +kernel
theorem dX10_oldest_15 : decode cX10_oldest 15 = .ok (.invokevirtual 221, 3) := by decide +kernel
theorem dX10_oldest_18 : decode cX10_oldest 18 = .ok (.aload_n 0, 1) := by decide +kernel
theorem dX10_oldest_19 : decode cX10_oldest 19 = .ok (.iload_n 2, 1) := by decide +kernel
theorem dX10_oldest_20 : decode cX10_oldest 20 = .ok (.invokevirtual 225, 3) := by decide +kernel
theorem dX10_oldest_23 : decode cX10_oldest 23 = .ok (.istore_n 3, 1) := by decide +kernel
theorem dX10_oldest_24 : decode cX10_oldest 24 = .ok (.iconst 0, 1) := by decide +kernel
theorem dX10_oldest_25 : decode cX10_oldest 25 = .ok (.istore 4, 2) := by decide +kernel
theorem dX10_oldest_27 : decode cX10_oldest 27 = .ok (.iload 4, 2) := by decide +kernel
theorem dX10_oldest_29 : decode cX10_oldest 29 = .ok (.iload_n 2, 1) := by decide +kernel
theorem dX10_oldest_30 : decode cX10_oldest 30 = .ok (.if_icmp .gt 22, 3) := by decide +kernel
theorem dX10_oldest_33 : decode cX10_oldest 33 = .ok (.aload_n 0, 1) := by decide +kernel
theorem dX10_oldest_34 : decode cX10_oldest 34 = .ok (.iload 4, 2) := by decide +kernel
theorem dX10_oldest_36 : decode cX10_oldest 36 = .ok (.iload_n 3, 1) := by decide +kernel
theorem dX10_oldest_37 : decode cX10_oldest 37 = .ok (.invokevirtual 228, 3) := by decide +kernel
theorem dX10_oldest_40 : decode cX10_oldest 40 = .ok (.ifCond .le 6, 3) := by decide +kernel
theorem dX10_oldest_43 : decode cX10_oldest 43 = .ok (.iload 4, 2) := by decide +kernel
theorem dX10_oldest_45 : decode cX10_oldest 45 = .ok (.ireturn, 1) := by decide +kernel
theorem dX10_oldest_46 : decode cX10_oldest 46 = .ok (.iinc 4 1, 3) := by decide +kernel
theorem dX10_oldest_49 : decode cX10_oldest 49 = .ok (.goto (-22), 3) := by decide +kernel
theorem dX10_oldest_52 : decode cX10_oldest 52 = .ok (.ldc 115, 2) := by decide +kernel
theorem dX10_oldest_54 : decode cX10_oldest 54 = .ok (.ireturn, 1) := by decide +kernel
theorem dX10_payer_0 : decode cX10_payer 0 = .ok (.aload_n 0, 1) := by decide +kernel
theorem dX10_payer_1 : decode cX10_payer 1 = .ok (.iload_n 1, 1) := by decide +kernel
theorem dX10_payer_2 : decode cX10_payer 2 = .ok (.invokevirtual 123, 3) := by decide +kernel
theorem dX10_payer_5 : decode cX10_payer 5 = .ok (.ifCond .eq 10, 3) := by decide +kernel
theorem dX10_payer_8 : decode cX10_payer 8 = .ok (.iload_n 2, 1) := by decide +kernel
theorem dX10_payer_9 : decode cX10_payer 9 = .ok (.invokestatic 206, 3) := by decide +kernel
theorem dX10_payer_12 : decode cX10_payer 12 = .ok (.ifCond .ne 6, 3) := by decide +kernel
theorem dX10_payer_15 : decode cX10_payer 15 = .ok (.ldc 106, 2) := by decide +kernel
theorem dX10_payer_17 : decode cX10_payer 17 = .ok (.ireturn, 1) := by decide +kernel
theorem dX10_payer_18 : decode cX10_payer 18 = .ok (.aload_n 0, 1) := by decide +kernel
theorem dX10_payer_19 : decode cX10_payer 19 = .ok (.iload_n 2, 1) := by decide +kernel
theorem dX10_payer_20 : decode cX10_payer 20 = .ok (.aload_n 0, 1) := by decide +kernel
theorem dX10_payer_21 : decode cX10_payer 21 = .ok (.getfield 94, 3) := by decide +kernel
theorem dX10_payer_24 : decode cX10_payer 24 = .ok (.invokevirtual 221, 3) := by decide +kernel
theorem dX10_payer_27 : decode cX10_payer 27 = .ok (.aload_n 0, 1) := by decide +kernel
theorem dX10_payer_28 : decode cX10_payer 28 = .ok (.getfield 81, 3) := by decide +kernel
theorem dX10_payer_31 : decode cX10_payer 31 = .ok (.iload_n 1, 1) := by decide +kernel
theorem dX10_payer_32 : decode cX10_payer 32 = .ok (.iaload, 1) := by decide +kernel
theorem dX10_payer_33 : decode cX10_payer 33 = .ok (.ifCond .ne 6, 3) := by decide +kernel
theorem dX10_payer_36 : decode cX10_payer 36 = .ok (.ldc 115, 2) := by decide +kernel
theorem dX10_payer_38 : decode cX10_payer 38 = .ok (.ireturn, 1) := by decide +kernel
theorem dX10_payer_39 : decode cX10_payer 39 = .ok (.iconst 0, 1) := by decide +kernel
theorem dX10_payer_40 : decode cX10_payer 40 = .ok (.istore_n 3, 1) := by decide +kernel
theorem dX10_payer_41 : decode cX10_payer 41 = .ok (.iconst 0, 1) := by decide +kernel
theorem dX10_payer_42 : decode cX10_payer 42 = .ok (.istore 4, 2) := by decide +kernel
theorem dX10_payer_44 : decode cX10_payer 44 = .ok (.iload 4, 2) := by decide +kernel
theorem dX10_payer_46 : decode cX10_payer 46 = .ok (.aload_n 0, 1) := by decide +kernel
theorem dX10_payer_47 : decode cX10_payer 47 = .ok (.getfield 94, 3) := by decide +kernel
theorem dX10_payer_50 : decode cX10_payer 50 = .ok (.if_icmp .gt 71, 3) := by decide +kernel
theorem dX10_payer_53 : decode cX10_payer 53 = .ok (.iconst 0, 1) := by decide +kernel
theorem dX10_payer_54 : decode cX10_payer 54 = .ok (.istore 5, 2) := by decide +kernel
theorem dX10_payer_56 : decode cX10_payer 56 = .ok (.iload 5, 2) := by decide +kernel
theorem dX10_payer_58 : decode cX10_payer 58 = .ok (.aload_n 0, 1) := by decide +kernel
theorem dX10_payer_59 : decode cX10_payer 59 = .ok (.getfield 212, 3) := by decide +kernel
theorem dX10_payer_62 : decode cX10_payer 62 = .ok (.if_icmp .ge 53, 3) := by decide +kernel
theorem dX10_payer_65 : decode cX10_payer 65 = .ok (.aload_n 0, 1) := by decide +kernel
theorem dX10_payer_66 : decode cX10_payer 66 = .ok (.getfield 56, 3) := by decide +kernel
theorem dX10_payer_69 : decode cX10_payer 69 = .ok (.iload 5, 2) := by decide +kernel
theorem dX10_payer_71 : decode cX10_payer 71 = .ok (.iaload, 1) := by decide +kernel
theorem dX10_payer_72 : decode cX10_payer 72 = .ok (.iload 4, 2) := by decide +kernel
theorem dX10_payer_74 : decode cX10_payer 74 = .ok (.if_icmp .ne 35, 3) := by decide +kernel
theorem dX10_payer_77 : decode cX10_payer 77 = .ok (.aload_n 0, 1) := by decide +kernel
theorem dX10_payer_78 : decode cX10_payer 78 = .ok (.iload 5, 2) := by decide +kernel
theorem dX10_payer_80 : decode cX10_payer 80 = .ok (.invokevirtual 215, 3) := by decide +kernel
theorem dX10_payer_83 : decode cX10_payer 83 = .ok (.ifCond .eq 26, 3) := by decide +kernel
theorem dX10_payer_86 : decode cX10_payer 86 = .ok (.iload_n 3, 1) := by decide +kernel
theorem dX10_payer_87 : decode cX10_payer 87 = .ok (.aload_n 0, 1) := by decide +kernel
theorem dX10_payer_88 : decode cX10_payer 88 = .ok (.getfield 59, 3) := by decide +kernel
theorem dX10_payer_91 : decode cX10_payer 91 = .ok (.iload 5, 2) := by decide +kernel
theorem dX10_payer_93 : decode cX10_payer 93 = .ok (.iaload, 1) := by decide +kernel
theorem dX10_payer_94 : decode cX10_payer 94 = .ok (.iadd, 1) := by decide +kernel
theorem dX10_payer_95 : decode cX10_payer 95 = .ok (.istore_n 3, 1) := by decide +kernel
theorem dX10_payer_96 : decode cX10_payer 96 = .ok (.iload_n 3, 1) := by decide +kernel
theorem dX10_payer_97 : decode cX10_payer 97 = .ok (.aload_n 0, 1) := by decide +kernel
theorem dX10_payer_98 : decode cX10_payer 98 = .ok (.getfield 84, 3) := by decide +kernel
theorem dX10_payer_101 : decode cX10_payer 101 = .ok (.iload_n 1, 1) := by decide +kernel
theorem dX10_payer_102 : decode cX10_payer 102 = .ok (.iaload, 1) := by decide +kernel
theorem dX10_payer_103 : decode cX10_payer 103 = .ok (.if_icmp .lt 6, 3) := by decide +kernel
theorem dX10_payer_106 : decode cX10_payer 106 = .ok (.iload 5, 2) := by decide +kernel
theorem dX10_payer_108 : decode cX10_payer 108 = .ok (.ireturn, 1) := by decide +kernel
theorem dX10_payer_109 : decode cX10_payer 109 = .ok (.iinc 5 1, 3) := by decide +kernel
theorem dX10_payer_112 : decode cX10_payer 112 = .ok (.goto (-56), 3) := by decide +kernel
theorem dX10_payer_115 : decode cX10_payer 115 = .ok (.iinc 4 1, 3) := by decide +kernel
theorem dX10_payer_118 : decode cX10_payer 118 = .ok (.goto (-74), 3) := by decide +kernel
theorem dX10_payer_121 : decode cX10_payer 121 = .ok (.ldc 115, 2) := by decide +kernel
theorem dX10_payer_123 : decode cX10_payer 123 = .ok (.ireturn, 1) := by decide +kernel
theorem dX10_interest_0 : decode cX10_interest 0 = .ok (.aload_n 0, 1) := by decide +kernel
theorem dX10_interest_1 : decode cX10_interest 1 = .ok (.iload_n 1, 1) := by decide +kernel
theorem dX10_interest_2 : decode cX10_interest 2 = .ok (.iload_n 2, 1) := by decide +kernel
theorem dX10_interest_3 : decode cX10_interest 3 = .ok (.invokevirtual 218, 3) := by decide +kernel
theorem dX10_interest_6 : decode cX10_interest 6 = .ok (.ifCond .ne 6, 3) := by decide +kernel
theorem dX10_interest_9 : decode cX10_interest 9 = .ok (.ldc 106, 2) := by decide +kernel
theorem dX10_interest_11 : decode cX10_interest 11 = .ok (.ireturn, 1) := by decide +kernel
theorem dX10_interest_12 : decode cX10_interest 12 = .ok (.aload_n 0, 1) := by decide +kernel
theorem dX10_interest_13 : decode cX10_interest 13 = .ok (.iload_n 1, 1) := by decide +kernel
theorem dX10_interest_14 : decode cX10_interest 14 = .ok (.iload_n 2, 1) := by decide +kernel
theorem dX10_interest_15 : decode cX10_interest 15 = .ok (.invokevirtual 221, 3) := by decide +kernel
theorem dX10_interest_18 : decode cX10_interest 18 = .ok (.iconst 0, 1) := by decide +kernel
theorem dX10_interest_19 : decode cX10_interest 19 = .ok (.istore_n 3, 1) := by decide +kernel
theorem dX10_interest_20 : decode cX10_interest 20 = .ok (.iconst 4, 1) := by decide +kernel
theorem dX10_interest_21 : decode cX10_interest 21 = .ok (.istore 4, 2) := by decide +kernel
theorem dX10_interest_23 : decode cX10_interest 23 = .ok (.iload 4, 2) := by decide +kernel
theorem dX10_interest_25 : decode cX10_interest 25 = .ok (.iload_n 2, 1) := by decide +kernel
theorem dX10_interest_26 : decode cX10_interest 26 = .ok (.if_icmp .gt 55, 3) := by decide +kernel
theorem dX10_interest_29 : decode cX10_interest 29 = .ok (.aload_n 0, 1) := by decide +kernel
theorem dX10_interest_30 : decode cX10_interest 30 = .ok (.iload 4, 2) := by decide +kernel
theorem dX10_interest_32 : decode cX10_interest 32 = .ok (.invokevirtual 225, 3) := by decide +kernel
theorem dX10_interest_35 : decode cX10_interest 35 = .ok (.istore 5, 2) := by decide +kernel
theorem dX10_interest_37 : decode cX10_interest 37 = .ok (.iconst 0, 1) := by decide +kernel
theorem dX10_interest_38 : decode cX10_interest 38 = .ok (.istore 6, 2) := by decide +kernel
theorem dX10_interest_40 : decode cX10_interest 40 = .ok (.iload 6, 2) := by decide +kernel
theorem dX10_interest_42 : decode cX10_interest 42 = .ok (.iconst 4, 1) := by decide +kernel
theorem dX10_interest_43 : decode cX10_interest 43 = .ok (.iadd, 1) := by decide +kernel
theorem dX10_interest_44 : decode cX10_interest 44 = .ok (.iload 4, 2) := by decide +kernel
theorem dX10_interest_46 : decode cX10_interest 46 = .ok (.if_icmp .gt 29, 3) := by decide +kernel
theorem dX10_interest_49 : decode cX10_interest 49 = .ok (.iload_n 3, 1) := by decide +kernel
theorem dX10_interest_50 : decode cX10_interest 50 = .ok (.aload_n 0, 1) := by decide +kernel
theorem dX10_interest_51 : decode cX10_interest 51 = .ok (.iload 6, 2) := by decide +kernel
theorem dX10_interest_53 : decode cX10_interest 53 = .ok (.iload 5, 2) := by decide +kernel
theorem dX10_interest_55 : decode cX10_interest 55 = .ok (.invokevirtual 228, 3) := by decide +kernel
theorem dX10_interest_58 : decode cX10_interest 58 = .ok (.aload_n 0, 1) := by decide +kernel
theorem dX10_interest_59 : decode cX10_interest 59 = .ok (.getfield 231, 3) := by decide +kernel
theorem dX10_interest_62 : decode cX10_interest 62 = .ok (.imul, 1) := by decide +kernel
theorem dX10_interest_63 : decode cX10_interest 63 = .ok (.sipush 10000, 3) := by decide +kernel
theorem dX10_interest_66 : decode cX10_interest 66 = .ok (.idiv, 1) := by decide +kernel
theorem dX10_interest_67 : decode cX10_interest 67 = .ok (.iadd, 1) := by decide +kernel
theorem dX10_interest_68 : decode cX10_interest 68 = .ok (.istore_n 3, 1) := by decide +kernel
theorem dX10_interest_69 : decode cX10_interest 69 = .ok (.iinc 6 1, 3) := by decide +kernel
theorem dX10_interest_72 : decode cX10_interest 72 = .ok (.goto (-32), 3) := by decide +kernel
theorem dX10_interest_75 : decode cX10_interest 75 = .ok (.iinc 4 1, 3) := by decide +kernel
theorem dX10_interest_78 : decode cX10_interest 78 = .ok (.goto (-55), 3) := by decide +kernel
theorem dX10_interest_81 : decode cX10_interest 81 = .ok (.iload_n 3, 1) := by decide +kernel
theorem dX10_interest_82 : decode cX10_interest 82 = .ok (.ireturn, 1) := by decide +kernel
theorem dX10_forgive_0 : decode cX10_forgive 0 = .ok (.iload_n 1, 1) := by decide +kernel
theorem dX10_forgive_1 : decode cX10_forgive 1 = .ok (.invokestatic 102, 3) := by decide +kernel
theorem dX10_forgive_4 : decode cX10_forgive 4 = .ok (.ifCond .eq 12, 3) := by decide +kernel
theorem dX10_forgive_7 : decode cX10_forgive 7 = .ok (.iload_n 2, 1) := by decide +kernel
theorem dX10_forgive_8 : decode cX10_forgive 8 = .ok (.iconst 0, 1) := by decide +kernel
theorem dX10_forgive_9 : decode cX10_forgive 9 = .ok (.iconst 1, 1) := by decide +kernel
theorem dX10_forgive_10 : decode cX10_forgive 10 = .ok (.invokestatic 90, 3) := by decide +kernel
theorem dX10_forgive_13 : decode cX10_forgive 13 = .ok (.ifCond .ne 6, 3) := by decide +kernel
theorem dX10_forgive_16 : decode cX10_forgive 16 = .ok (.ldc 106, 2) := by decide +kernel
theorem dX10_forgive_18 : decode cX10_forgive 18 = .ok (.ireturn, 1) := by decide +kernel
theorem dX10_forgive_19 : decode cX10_forgive 19 = .ok (.aload_n 0, 1) := by decide +kernel
theorem dX10_forgive_20 : decode cX10_forgive 20 = .ok (.getfield 28, 3) := by decide +kernel
theorem dX10_forgive_23 : decode cX10_forgive 23 = .ok (.iload_n 1, 1) := by decide +kernel
theorem dX10_forgive_24 : decode cX10_forgive 24 = .ok (.baload, 1) := by decide +kernel
theorem dX10_forgive_25 : decode cX10_forgive 25 = .ok (.ifCond .eq 7, 3) := by decide +kernel
theorem dX10_forgive_28 : decode cX10_forgive 28 = .ok (.iconst 1, 1) := by decide +kernel
theorem dX10_forgive_29 : decode cX10_forgive 29 = .ok (.goto 4, 3) := by decide +kernel
theorem dX10_forgive_32 : decode cX10_forgive 32 = .ok (.iconst 0, 1) := by decide +kernel
theorem dX10_forgive_33 : decode cX10_forgive 33 = .ok (.istore_n 3, 1) := by decide +kernel
theorem dX10_forgive_34 : decode cX10_forgive 34 = .ok (.aload_n 0, 1) := by decide +kernel
theorem dX10_forgive_35 : decode cX10_forgive 35 = .ok (.getfield 28, 3) := by decide +kernel
theorem dX10_forgive_38 : decode cX10_forgive 38 = .ok (.iload_n 1, 1) := by decide +kernel
theorem dX10_forgive_39 : decode cX10_forgive 39 = .ok (.iload_n 2, 1) := by decide +kernel
theorem dX10_forgive_40 : decode cX10_forgive 40 = .ok (.iconst 1, 1) := by decide +kernel
theorem dX10_forgive_41 : decode cX10_forgive 41 = .ok (.if_icmp .ne 7, 3) := by decide +kernel
theorem dX10_forgive_44 : decode cX10_forgive 44 = .ok (.iconst 1, 1) := by decide +kernel
theorem dX10_forgive_45 : decode cX10_forgive 45 = .ok (.goto 4, 3) := by decide +kernel
theorem dX10_forgive_48 : decode cX10_forgive 48 = .ok (.iconst 0, 1) := by decide +kernel
theorem dX10_forgive_49 : decode cX10_forgive 49 = .ok (.bastore, 1) := by decide +kernel
theorem dX10_forgive_50 : decode cX10_forgive 50 = .ok (.iload_n 3, 1) := by decide +kernel
theorem dX10_forgive_51 : decode cX10_forgive 51 = .ok (.ireturn, 1) := by decide +kernel
theorem dX10_rate_0 : decode cX10_rate 0 = .ok (.iload_n 1, 1) := by decide +kernel
theorem dX10_rate_1 : decode cX10_rate 1 = .ok (.iconst 0, 1) := by decide +kernel
theorem dX10_rate_2 : decode cX10_rate 2 = .ok (.sipush 500, 3) := by decide +kernel
theorem dX10_rate_5 : decode cX10_rate 5 = .ok (.invokestatic 90, 3) := by decide +kernel
theorem dX10_rate_8 : decode cX10_rate 8 = .ok (.ifCond .ne 6, 3) := by decide +kernel
theorem dX10_rate_11 : decode cX10_rate 11 = .ok (.ldc 106, 2) := by decide +kernel
theorem dX10_rate_13 : decode cX10_rate 13 = .ok (.ireturn, 1) := by decide +kernel
theorem dX10_rate_14 : decode cX10_rate 14 = .ok (.aload_n 0, 1) := by decide +kernel
theorem dX10_rate_15 : decode cX10_rate 15 = .ok (.getfield 231, 3) := by decide +kernel
theorem dX10_rate_18 : decode cX10_rate 18 = .ok (.istore_n 2, 1) := by decide +kernel
theorem dX10_rate_19 : decode cX10_rate 19 = .ok (.aload_n 0, 1) := by decide +kernel
theorem dX10_rate_20 : decode cX10_rate 20 = .ok (.iload_n 1, 1) := by decide +kernel
theorem dX10_rate_21 : decode cX10_rate 21 = .ok (.putfield 231, 3) := by decide +kernel
theorem dX10_rate_24 : decode cX10_rate 24 = .ok (.iload_n 2, 1) := by decide +kernel
theorem dX10_rate_25 : decode cX10_rate 25 = .ok (.ireturn, 1) := by decide +kernel
theorem dX10_weeks_0 : decode cX10_weeks 0 = .ok (.iload_n 1, 1) := by decide +kernel
theorem dX10_weeks_1 : decode cX10_weeks 1 = .ok (.iconst 1, 1) := by decide +kernel
theorem dX10_weeks_2 : decode cX10_weeks 2 = .ok (.bipush 60, 2) := by decide +kernel
theorem dX10_weeks_4 : decode cX10_weeks 4 = .ok (.invokestatic 90, 3) := by decide +kernel
theorem dX10_weeks_7 : decode cX10_weeks 7 = .ok (.ifCond .eq 14, 3) := by decide +kernel
theorem dX10_weeks_10 : decode cX10_weeks 10 = .ok (.aload_n 0, 1) := by decide +kernel
theorem dX10_weeks_11 : decode cX10_weeks 11 = .ok (.getfield 94, 3) := by decide +kernel
theorem dX10_weeks_14 : decode cX10_weeks 14 = .ok (.iload_n 1, 1) := by decide +kernel
theorem dX10_weeks_15 : decode cX10_weeks 15 = .ok (.iadd, 1) := by decide +kernel
theorem dX10_weeks_16 : decode cX10_weeks 16 = .ok (.bipush 120, 2) := by decide +kernel
theorem dX10_weeks_18 : decode cX10_weeks 18 = .ok (.if_icmp .lt 6, 3) := by decide +kernel
theorem dX10_weeks_21 : decode cX10_weeks 21 = .ok (.ldc 106, 2) := by decide +kernel
theorem dX10_weeks_23 : decode cX10_weeks 23 = .ok (.ireturn, 1) := by decide +kernel
theorem dX10_weeks_24 : decode cX10_weeks 24 = .ok (.aload_n 0, 1) := by decide +kernel
theorem dX10_weeks_25 : decode cX10_weeks 25 = .ok (.dup, 1) := by decide +kernel
theorem dX10_weeks_26 : decode cX10_weeks 26 = .ok (.getfield 94, 3) := by decide +kernel
theorem dX10_weeks_29 : decode cX10_weeks 29 = .ok (.iload_n 1, 1) := by decide +kernel
theorem dX10_weeks_30 : decode cX10_weeks 30 = .ok (.iadd, 1) := by decide +kernel
theorem dX10_weeks_31 : decode cX10_weeks 31 = .ok (.putfield 94, 3) := by decide +kernel
theorem dX10_weeks_34 : decode cX10_weeks 34 = .ok (.aload_n 0, 1) := by decide +kernel
theorem dX10_weeks_35 : decode cX10_weeks 35 = .ok (.getfield 94, 3) := by decide +kernel
theorem dX10_weeks_38 : decode cX10_weeks 38 = .ok (.ireturn, 1) := by decide +kernel
theorem dX10_isSheet_0 : decode cX10_isSheet 0 = .ok (.iload_n 0, 1) := by decide +kernel
theorem dX10_isSheet_1 : decode cX10_isSheet 1 = .ok (.iconst 0, 1) := by decide +kernel
theorem dX10_isSheet_2 : decode cX10_isSheet 2 = .ok (.iconst 1, 1) := by decide +kernel
theorem dX10_isSheet_3 : decode cX10_isSheet 3 = .ok (.invokestatic 90, 3) := by decide +kernel
theorem dX10_isSheet_6 : decode cX10_isSheet 6 = .ok (.ireturn, 1) := by decide +kernel
theorem dX10_sheet_0 : decode cX10_sheet 0 = .ok (.iload_n 1, 1) := by decide +kernel
theorem dX10_sheet_1 : decode cX10_sheet 1 = .ok (.invokestatic 234, 3) := by decide +kernel
theorem dX10_sheet_4 : decode cX10_sheet 4 = .ok (.ifCond .eq 9, 3) := by decide +kernel
theorem dX10_sheet_7 : decode cX10_sheet 7 = .ok (.iload_n 2, 1) := by decide +kernel
theorem dX10_sheet_8 : decode cX10_sheet 8 = .ok (.bipush 120, 2) := by decide +kernel
theorem dX10_sheet_10 : decode cX10_sheet 10 = .ok (.if_icmp .le 6, 3) := by decide +kernel
theorem dX10_sheet_13 : decode cX10_sheet 13 = .ok (.ldc 106, 2) := by decide +kernel
theorem dX10_sheet_15 : decode cX10_sheet 15 = .ok (.ireturn, 1) := by decide +kernel
theorem dX10_sheet_16 : decode cX10_sheet 16 = .ok (.iload_n 2, 1) := by decide +kernel
theorem dX10_sheet_17 : decode cX10_sheet 17 = .ok (.ifCond .ge 6, 3) := by decide +kernel
theorem dX10_sheet_20 : decode cX10_sheet 20 = .ok (.ldc 237, 2) := by decide +kernel
theorem dX10_sheet_22 : decode cX10_sheet 22 = .ok (.ireturn, 1) := by decide +kernel
theorem dX10_sheet_23 : decode cX10_sheet 23 = .ok (.aload_n 0, 1) := by decide +kernel
theorem dX10_sheet_24 : decode cX10_sheet 24 = .ok (.getfield 72, 3) := by decide +kernel
theorem dX10_sheet_27 : decode cX10_sheet 27 = .ok (.iload_n 1, 1) := by decide +kernel
theorem dX10_sheet_28 : decode cX10_sheet 28 = .ok (.iload_n 2, 1) := by decide +kernel
theorem dX10_sheet_29 : decode cX10_sheet 29 = .ok (.iastore, 1) := by decide +kernel
theorem dX10_sheet_30 : decode cX10_sheet 30 = .ok (.iconst 0, 1) := by decide +kernel
theorem dX10_sheet_31 : decode cX10_sheet 31 = .ok (.istore_n 3, 1) := by decide +kernel
theorem dX10_sheet_32 : decode cX10_sheet 32 = .ok (.iload_n 3, 1) := by decide +kernel
theorem dX10_sheet_33 : decode cX10_sheet 33 = .ok (.iload_n 2, 1) := by decide +kernel
theorem dX10_sheet_34 : decode cX10_sheet 34 = .ok (.if_icmp .ge 21, 3) := by decide +kernel
theorem dX10_sheet_37 : decode cX10_sheet 37 = .ok (.aload_n 0, 1) := by decide +kernel
theorem dX10_sheet_38 : decode cX10_sheet 38 = .ok (.getfield 75, 3) := by decide +kernel
theorem dX10_sheet_41 : decode cX10_sheet 41 = .ok (.bipush 120, 2) := by decide +kernel
theorem dX10_sheet_43 : decode cX10_sheet 43 = .ok (.iload_n 1, 1) := by decide +kernel
theorem dX10_sheet_44 : decode cX10_sheet 44 = .ok (.imul, 1) := by decide +kernel
theorem dX10_sheet_45 : decode cX10_sheet 45 = .ok (.iload_n 3, 1) := by decide +kernel
theorem dX10_sheet_46 : decode cX10_sheet 46 = .ok (.iadd, 1) := by decide +kernel
theorem dX10_sheet_47 : decode cX10_sheet 47 = .ok (.iconst 0, 1) := by decide +kernel
theorem dX10_sheet_48 : decode cX10_sheet 48 = .ok (.iastore, 1) := by decide +kernel
theorem dX10_sheet_49 : decode cX10_sheet 49 = .ok (.iinc 3 1, 3) := by decide +kernel
theorem dX10_sheet_52 : decode cX10_sheet 52 = .ok (.goto (-20), 3) := by decide +kernel
theorem dX10_sheet_55 : decode cX10_sheet 55 = .ok (.iload_n 2, 1) := by decide +kernel
theorem dX10_sheet_56 : decode cX10_sheet 56 = .ok (.ireturn, 1) := by decide +kernel
theorem dX10_mark_0 : decode cX10_mark 0 = .ok (.iload_n 1, 1) := by decide +kernel
theorem dX10_mark_1 : decode cX10_mark 1 = .ok (.invokestatic 234, 3) := by decide +kernel
theorem dX10_mark_4 : decode cX10_mark 4 = .ok (.ifCond .ne 6, 3) := by decide +kernel
theorem dX10_mark_7 : decode cX10_mark 7 = .ok (.ldc 106, 2) := by decide +kernel
theorem dX10_mark_9 : decode cX10_mark 9 = .ok (.ireturn, 1) := by decide +kernel
theorem dX10_mark_10 : decode cX10_mark 10 = .ok (.aload_n 0, 1) := by decide +kernel
theorem dX10_mark_11 : decode cX10_mark 11 = .ok (.getfield 72, 3) := by decide +kernel
theorem dX10_mark_14 : decode cX10_mark 14 = .ok (.iload_n 1, 1) := by decide +kernel
theorem dX10_mark_15 : decode cX10_mark 15 = .ok (.iaload, 1) := by decide +kernel
theorem dX10_mark_16 : decode cX10_mark 16 = .ok (.ifCond .ge 6, 3) := by decide +kernel
theorem dX10_mark_19 : decode cX10_mark 19 = .ok (.ldc 238, 2) := by decide +kernel
theorem dX10_mark_21 : decode cX10_mark 21 = .ok (.ireturn, 1) := by decide +kernel
theorem dX10_mark_22 : decode cX10_mark 22 = .ok (.iload_n 2, 1) := by decide +kernel
theorem dX10_mark_23 : decode cX10_mark 23 = .ok (.iconst 0, 1) := by decide +kernel
theorem dX10_mark_24 : decode cX10_mark 24 = .ok (.aload_n 0, 1) := by decide +kernel
theorem dX10_mark_25 : decode cX10_mark 25 = .ok (.getfield 72, 3) := by decide +kernel
theorem dX10_mark_28 : decode cX10_mark 28 = .ok (.iload_n 1, 1) := by decide +kernel
theorem dX10_mark_29 : decode cX10_mark 29 = .ok (.iaload, 1) := by decide +kernel
theorem dX10_mark_30 : decode cX10_mark 30 = .ok (.iconst 1, 1) := by decide +kernel
theorem dX10_mark_31 : decode cX10_mark 31 = .ok (.isub, 1) := by decide +kernel
theorem dX10_mark_32 : decode cX10_mark 32 = .ok (.invokestatic 90, 3) := by decide +kernel
theorem dX10_mark_35 : decode cX10_mark 35 = .ok (.ifCond .ne 6, 3) := by decide +kernel
theorem dX10_mark_38 : decode cX10_mark 38 = .ok (.ldc 239, 2) := by decide +kernel
theorem dX10_mark_40 : decode cX10_mark 40 = .ok (.ireturn, 1) := by decide +kernel
theorem dX10_mark_41 : decode cX10_mark 41 = .ok (.aload_n 0, 1) := by decide +kernel
theorem dX10_mark_42 : decode cX10_mark 42 = .ok (.getfield 75, 3) := by decide +kernel
theorem dX10_mark_45 : decode cX10_mark 45 = .ok (.bipush 120, 2) := by decide +kernel
theorem dX10_mark_47 : decode cX10_mark 47 = .ok (.iload_n 1, 1) := by decide +kernel
theorem dX10_mark_48 : decode cX10_mark 48 = .ok (.imul, 1) := by decide +kernel
theorem dX10_mark_49 : decode cX10_mark 49 = .ok (.iload_n 2, 1) := by decide +kernel
theorem dX10_mark_50 : decode cX10_mark 50 = .ok (.iadd, 1) := by decide +kernel
theorem dX10_mark_51 : decode cX10_mark 51 = .ok (.iaload, 1) := by decide +kernel
theorem dX10_mark_52 : decode cX10_mark 52 = .ok (.istore 4, 2) := by decide +kernel
theorem dX10_mark_54 : decode cX10_mark 54 = .ok (.aload_n 0, 1) := by decide +kernel
theorem dX10_mark_55 : decode cX10_mark 55 = .ok (.getfield 75, 3) := by decide +kernel
theorem dX10_mark_58 : decode cX10_mark 58 = .ok (.bipush 120, 2) := by decide +kernel
theorem dX10_mark_60 : decode cX10_mark 60 = .ok (.iload_n 1, 1) := by decide +kernel
theorem dX10_mark_61 : decode cX10_mark 61 = .ok (.imul, 1) := by decide +kernel
theorem dX10_mark_62 : decode cX10_mark 62 = .ok (.iload_n 2, 1) := by decide +kernel
theorem dX10_mark_63 : decode cX10_mark 63 = .ok (.iadd, 1) := by decide +kernel
theorem dX10_mark_64 : decode cX10_mark 64 = .ok (.iload_n 3, 1) := by decide +kernel
theorem dX10_mark_65 : decode cX10_mark 65 = .ok (.i2b, 1) := by decide +kernel
theorem dX10_mark_66 : decode cX10_mark 66 = .ok (.iastore, 1) := by decide +kernel
theorem dX10_mark_67 : decode cX10_mark 67 = .ok (.iload 4, 2) := by decide +kernel
theorem dX10_mark_69 : decode cX10_mark 69 = .ok (.ireturn, 1) := by decide +kernel
theorem dX10_copy_0 : decode cX10_copy 0 = .ok (.iload_n 1, 1) := by decide +kernel
theorem dX10_copy_1 : decode cX10_copy 1 = .ok (.invokestatic 234, 3) := by decide +kernel
theorem dX10_copy_4 : decode cX10_copy 4 = .ok (.ifCond .eq 10, 3) := by decide +kernel
theorem dX10_copy_7 : decode cX10_copy 7 = .ok (.iload_n 3, 1) := by decide +kernel
theorem dX10_copy_8 : decode cX10_copy 8 = .ok (.invokestatic 234, 3) := by decide +kernel
theorem dX10_copy_11 : decode cX10_copy 11 = .ok (.ifCond .ne 6, 3) := by decide +kernel
theorem dX10_copy_14 : decode cX10_copy 14 = .ok (.ldc 106, 2) := by decide +kernel
theorem dX10_copy_16 : decode cX10_copy 16 = .ok (.ireturn, 1) := by decide +kernel
theorem dX10_copy_17 : decode cX10_copy 17 = .ok (.aload_n 0, 1) := by decide +kernel
theorem dX10_copy_18 : decode cX10_copy 18 = .ok (.getfield 72, 3) := by decide +kernel
theorem dX10_copy_21 : decode cX10_copy 21 = .ok (.iload_n 1, 1) := by decide +kernel
theorem dX10_copy_22 : decode cX10_copy 22 = .ok (.iaload, 1) := by decide +kernel
theorem dX10_copy_23 : decode cX10_copy 23 = .ok (.ifCond .lt 12, 3) := by decide +kernel
theorem dX10_copy_26 : decode cX10_copy 26 = .ok (.aload_n 0, 1) := by decide +kernel
theorem dX10_copy_27 : decode cX10_copy 27 = .ok (.getfield 72, 3) := by decide +kernel
theorem dX10_copy_30 : decode cX10_copy 30 = .ok (.iload_n 3, 1) := by decide +kernel
theorem dX10_copy_31 : decode cX10_copy 31 = .ok (.iaload, 1) := by decide +kernel
theorem dX10_copy_32 : decode cX10_copy 32 = .ok (.ifCond .ge 6, 3) := by decide +kernel
theorem dX10_copy_35 : decode cX10_copy 35 = .ok (.ldc 238, 2) := by decide +kernel
theorem dX10_copy_37 : decode cX10_copy 37 = .ok (.ireturn, 1) := by decide +kernel
theorem dX10_copy_38 : decode cX10_copy 38 = .ok (.iload_n 2, 1) := by decide +kernel
theorem dX10_copy_39 : decode cX10_copy 39 = .ok (.ifCond .lt 48, 3) := by decide +kernel
theorem dX10_copy_42 : decode cX10_copy 42 = .ok (.iload 4, 2) := by decide +kernel
theorem dX10_copy_44 : decode cX10_copy 44 = .ok (.ifCond .lt 43, 3) := by decide +kernel
theorem dX10_copy_47 : decode cX10_copy 47 = .ok (.iload 5, 2) := by decide +kernel
theorem dX10_copy_49 : decode cX10_copy 49 = .ok (.ifCond .lt 38, 3) := by decide +kernel
theorem dX10_copy_52 : decode cX10_copy 52 = .ok (.iload_n 2, 1) := by decide +kernel
theorem dX10_copy_53 : decode cX10_copy 53 = .ok (.i2l, 1) := by decide +kernel
theorem dX10_copy_54 : decode cX10_copy 54 = .ok (.iload 5, 2) := by decide +kernel
theorem dX10_copy_56 : decode cX10_copy 56 = .ok (.i2l, 1) := by decide +kernel
theorem dX10_copy_57 : decode cX10_copy 57 = .ok (.ladd, 1) := by decide +kernel
theorem dX10_copy_58 : decode cX10_copy 58 = .ok (.aload_n 0, 1) := by decide +kernel
theorem dX10_copy_59 : decode cX10_copy 59 = .ok (.getfield 72, 3) := by decide +kernel
theorem dX10_copy_62 : decode cX10_copy 62 = .ok (.iload_n 1, 1) := by decide +kernel
theorem dX10_copy_63 : decode cX10_copy 63 = .ok (.iaload, 1) := by decide +kernel
theorem dX10_copy_64 : decode cX10_copy 64 = .ok (.i2l, 1) := by decide +kernel
theorem dX10_copy_65 : decode cX10_copy 65 = .ok (.lcmp, 1) := by decide +kernel
theorem dX10_copy_66 : decode cX10_copy 66 = .ok (.ifCond .gt 21, 3) := by decide +kernel
theorem dX10_copy_69 : decode cX10_copy 69 = .ok (.iload 4, 2) := by decide +kernel
theorem dX10_copy_71 : decode cX10_copy 71 = .ok (.i2l, 1) := by decide +kernel
theorem dX10_copy_72 : decode cX10_copy 72 = .ok (.iload 5, 2) := by decide +kernel
theorem dX10_copy_74 : decode cX10_copy 74 = .ok (.i2l, 1) := by decide +kernel
theorem dX10_copy_75 : decode cX10_copy 75 = .ok (.ladd, 1) := by decide +kernel
theorem dX10_copy_76 : decode cX10_copy 76 = .ok (.aload_n 0, 1) := by decide +kernel
theorem dX10_copy_77 : decode cX10_copy 77 = .ok (.getfield 72, 3) := by decide +kernel
theorem dX10_copy_80 : decode cX10_copy 80 = .ok (.iload_n 3, 1) := by decide +kernel
theorem dX10_copy_81 : decode cX10_copy 81 = .ok (.iaload, 1) := by decide +kernel
theorem dX10_copy_82 : decode cX10_copy 82 = .ok (.i2l, 1) := by decide +kernel
theorem dX10_copy_83 : decode cX10_copy 83 = .ok (.lcmp, 1) := by decide +kernel
theorem dX10_copy_84 : decode cX10_copy 84 = .ok (.ifCond .le 6, 3) := by decide +kernel
theorem dX10_copy_87 : decode cX10_copy 87 = .ok (.ldc 239, 2) := by decide +kernel
theorem dX10_copy_89 : decode cX10_copy 89 = .ok (.ireturn, 1) := by decide +kernel
theorem dX10_copy_90 : decode cX10_copy 90 = .ok (.iconst 0, 1) := by decide +kernel
theorem dX10_copy_91 : decode cX10_copy 91 = .ok (.istore 6, 2) := by decide +kernel
theorem dX10_copy_93 : decode cX10_copy 93 = .ok (.iload 6, 2) := by decide +kernel
theorem dX10_copy_95 : decode cX10_copy 95 = .ok (.iload 5, 2) := by decide +kernel
theorem dX10_copy_97 : decode cX10_copy 97 = .ok (.if_icmp .ge 30, 3) := by decide +kernel
theorem dX10_copy_100 : decode cX10_copy 100 = .ok (.aload_n 0, 1) := by decide +kernel
theorem dX10_copy_101 : decode cX10_copy 101 = .ok (.getfield 87, 3) := by decide +kernel
theorem dX10_copy_104 : decode cX10_copy 104 = .ok (.iload 6, 2) := by decide +kernel
theorem dX10_copy_106 : decode cX10_copy 106 = .ok (.aload_n 0, 1) := by decide +kernel
theorem dX10_copy_107 : decode cX10_copy 107 = .ok (.getfield 75, 3) := by decide +kernel
theorem dX10_copy_110 : decode cX10_copy 110 = .ok (.bipush 120, 2) := by decide +kernel
theorem dX10_copy_112 : decode cX10_copy 112 = .ok (.iload_n 1, 1) := by decide +kernel
theorem dX10_copy_113 : decode cX10_copy 113 = .ok (.imul, 1) := by decide +kernel
theorem dX10_copy_114 : decode cX10_copy 114 = .ok (.iload_n 2, 1) := by decide +kernel
theorem dX10_copy_115 : decode cX10_copy 115 = .ok (.iadd, 1) := by decide +kernel
theorem dX10_copy_116 : decode cX10_copy 116 = .ok (.iload 6, 2) := by decide +kernel
theorem dX10_copy_118 : decode cX10_copy 118 = .ok (.iadd, 1) := by decide +kernel
theorem dX10_copy_119 : decode cX10_copy 119 = .ok (.iaload, 1) := by decide +kernel
theorem dX10_copy_120 : decode cX10_copy 120 = .ok (.iastore, 1) := by decide +kernel
theorem dX10_copy_121 : decode cX10_copy 121 = .ok (.iinc 6 1, 3) := by decide +kernel
theorem dX10_copy_124 : decode cX10_copy 124 = .ok (.goto (-31), 3) := by decide +kernel
theorem dX10_copy_127 : decode cX10_copy 127 = .ok (.iconst 0, 1) := by decide +kernel
theorem dX10_copy_128 : decode cX10_copy 128 = .ok (.istore 6, 2) := by decide +kernel
theorem dX10_copy_130 : decode cX10_copy 130 = .ok (.iload 6, 2) := by decide +kernel
theorem dX10_copy_132 : decode cX10_copy 132 = .ok (.iload 5, 2) := by decide +kernel
theorem dX10_copy_134 : decode cX10_copy 134 = .ok (.if_icmp .ge 31, 3) := by decide +kernel
theorem dX10_copy_137 : decode cX10_copy 137 = .ok (.aload_n 0, 1) := by decide +kernel
theorem dX10_copy_138 : decode cX10_copy 138 = .ok (.getfield 75, 3) := by decide +kernel
theorem dX10_copy_141 : decode cX10_copy 141 = .ok (.bipush 120, 2) := by decide +kernel
theorem dX10_copy_143 : decode cX10_copy 143 = .ok (.iload_n 3, 1) := by decide +kernel
theorem dX10_copy_144 : decode cX10_copy 144 = .ok (.imul, 1) := by decide +kernel
theorem dX10_copy_145 : decode cX10_copy 145 = .ok (.iload 4, 2) := by decide +kernel
theorem dX10_copy_147 : decode cX10_copy 147 = .ok (.iadd, 1) := by decide +kernel
theorem dX10_copy_148 : decode cX10_copy 148 = .ok (.iload 6, 2) := by decide +kernel
theorem dX10_copy_150 : decode cX10_copy 150 = .ok (.iadd, 1) := by decide +kernel
theorem dX10_copy_151 : decode cX10_copy 151 = .ok (.aload_n 0, 1) := by decide +kernel
theorem dX10_copy_152 : decode cX10_copy 152 = .ok (.getfield 87, 3) := by decide +kernel
theorem dX10_copy_155 : decode cX10_copy 155 = .ok (.iload 6, 2) := by decide +kernel
theorem dX10_copy_157 : decode cX10_copy 157 = .ok (.iaload, 1) := by decide +kernel
theorem dX10_copy_158 : decode cX10_copy 158 = .ok (.iastore, 1) := by decide +kernel
theorem dX10_copy_159 : decode cX10_copy 159 = .ok (.iinc 6 1, 3) := by decide +kernel
theorem dX10_copy_162 : decode cX10_copy 162 = .ok (.goto (-32), 3) := by decide +kernel
theorem dX10_copy_165 : decode cX10_copy 165 = .ok (.iload 5, 2) := by decide +kernel
theorem dX10_copy_167 : decode cX10_copy 167 = .ok (.ireturn, 1) := by decide +kernel
theorem dX10_lose_0 : decode cX10_lose 0 = .ok (.iload_n 1, 1) := by decide +kernel
theorem dX10_lose_1 : decode cX10_lose 1 = .ok (.invokestatic 234, 3) := by decide +kernel
theorem dX10_lose_4 : decode cX10_lose 4 = .ok (.ifCond .ne 6, 3) := by decide +kernel
theorem dX10_lose_7 : decode cX10_lose 7 = .ok (.ldc 106, 2) := by decide +kernel
theorem dX10_lose_9 : decode cX10_lose 9 = .ok (.ireturn, 1) := by decide +kernel
theorem dX10_lose_10 : decode cX10_lose 10 = .ok (.aload_n 0, 1) := by decide +kernel
theorem dX10_lose_11 : decode cX10_lose 11 = .ok (.getfield 72, 3) := by decide +kernel
theorem dX10_lose_14 : decode cX10_lose 14 = .ok (.iload_n 1, 1) := by decide +kernel
theorem dX10_lose_15 : decode cX10_lose 15 = .ok (.iaload, 1) := by decide +kernel
theorem dX10_lose_16 : decode cX10_lose 16 = .ok (.ifCond .ge 6, 3) := by decide +kernel
theorem dX10_lose_19 : decode cX10_lose 19 = .ok (.ldc 238, 2) := by decide +kernel
theorem dX10_lose_21 : decode cX10_lose 21 = .ok (.ireturn, 1) := by decide +kernel
theorem dX10_lose_22 : decode cX10_lose 22 = .ok (.aload_n 0, 1) := by decide +kernel
theorem dX10_lose_23 : decode cX10_lose 23 = .ok (.getfield 72, 3) := by decide +kernel
theorem dX10_lose_26 : decode cX10_lose 26 = .ok (.iload_n 1, 1) := by decide +kernel
theorem dX10_lose_27 : decode cX10_lose 27 = .ok (.iaload, 1) := by decide +kernel
theorem dX10_lose_28 : decode cX10_lose 28 = .ok (.istore_n 2, 1) := by decide +kernel
theorem dX10_lose_29 : decode cX10_lose 29 = .ok (.aload_n 0, 1) := by decide +kernel
theorem dX10_lose_30 : decode cX10_lose 30 = .ok (.getfield 72, 3) := by decide +kernel
theorem dX10_lose_33 : decode cX10_lose 33 = .ok (.iload_n 1, 1) := by decide +kernel
theorem dX10_lose_34 : decode cX10_lose 34 = .ok (.iconst (-1), 1) := by decide +kernel
theorem dX10_lose_35 : decode cX10_lose 35 = .ok (.iastore, 1) := by decide +kernel
theorem dX10_lose_36 : decode cX10_lose 36 = .ok (.iload_n 2, 1) := by decide +kernel
theorem dX10_lose_37 : decode cX10_lose 37 = .ok (.ireturn, 1) := by decide +kernel
theorem dX10_count_0 : decode cX10_count 0 = .ok (.iconst 0, 1) := by decide +kernel
theorem dX10_count_1 : decode cX10_count 1 = .ok (.istore_n 2, 1) := by decide +kernel
theorem dX10_count_2 : decode cX10_count 2 = .ok (.iload_n 1, 1) := by decide +kernel
theorem dX10_count_3 : decode cX10_count 3 = .ok (.tableswitch 179 0 7 #[45, 50, 85, 90, 95, 100, 133, 174], 45) := by decide +kernel
theorem dX10_count_48 : decode cX10_count 48 = .ok (.aload_n 0, 1) := by decide +kernel
theorem dX10_count_49 : decode cX10_count 49 = .ok (.getfield 107, 3) := by decide +kernel
theorem dX10_count_52 : decode cX10_count 52 = .ok (.ireturn, 1) := by decide +kernel
theorem dX10_count_53 : decode cX10_count 53 = .ok (.iconst 0, 1) := by decide +kernel
theorem dX10_count_54 : decode cX10_count 54 = .ok (.istore_n 3, 1) := by decide +kernel
theorem dX10_count_55 : decode cX10_count 55 = .ok (.iload_n 3, 1) := by decide +kernel
theorem dX10_count_56 : decode cX10_count 56 = .ok (.aload_n 0, 1) := by decide +kernel
theorem dX10_count_57 : decode cX10_count 57 = .ok (.getfield 107, 3) := by decide +kernel
theorem dX10_count_60 : decode cX10_count 60 = .ok (.if_icmp .ge 26, 3) := by decide +kernel
theorem dX10_count_63 : decode cX10_count 63 = .ok (.iload_n 2, 1) := by decide +kernel
theorem dX10_count_64 : decode cX10_count 64 = .ok (.aload_n 0, 1) := by decide +kernel
theorem dX10_count_65 : decode cX10_count 65 = .ok (.getfield 22, 3) := by decide +kernel
theorem dX10_count_68 : decode cX10_count 68 = .ok (.iload_n 3, 1) := by decide +kernel
theorem dX10_count_69 : decode cX10_count 69 = .ok (.iaload, 1) := by decide +kernel
theorem dX10_count_70 : decode cX10_count 70 = .ok (.ifCond .ge 7, 3) := by decide +kernel
theorem dX10_count_73 : decode cX10_count 73 = .ok (.iconst 1, 1) := by decide +kernel
theorem dX10_count_74 : decode cX10_count 74 = .ok (.goto 4, 3) := by decide +kernel
theorem dX10_count_77 : decode cX10_count 77 = .ok (.iconst 0, 1) := by decide +kernel
theorem dX10_count_78 : decode cX10_count 78 = .ok (.iadd, 1) := by decide +kernel
theorem dX10_count_79 : decode cX10_count 79 = .ok (.istore_n 2, 1) := by decide +kernel
theorem dX10_count_80 : decode cX10_count 80 = .ok (.iinc 3 1, 3) := by decide +kernel
theorem dX10_count_83 : decode cX10_count 83 = .ok (.goto (-28), 3) := by decide +kernel
theorem dX10_count_86 : decode cX10_count 86 = .ok (.iload_n 2, 1) := by decide +kernel
theorem dX10_count_87 : decode cX10_count 87 = .ok (.ireturn, 1) := by decide +kernel
theorem dX10_count_88 : decode cX10_count 88 = .ok (.aload_n 0, 1) := by decide +kernel
theorem dX10_count_89 : decode cX10_count 89 = .ok (.getfield 184, 3) := by decide +kernel
theorem dX10_count_92 : decode cX10_count 92 = .ok (.ireturn, 1) := by decide +kernel
theorem dX10_count_93 : decode cX10_count 93 = .ok (.aload_n 0, 1) := by decide +kernel
theorem dX10_count_94 : decode cX10_count 94 = .ok (.getfield 212, 3) := by decide +kernel
theorem dX10_count_97 : decode cX10_count 97 = .ok (.ireturn, 1) := by decide +kernel
theorem dX10_count_98 : decode cX10_count 98 = .ok (.aload_n 0, 1) := by decide +kernel
theorem dX10_count_99 : decode cX10_count 99 = .ok (.getfield 94, 3) := by decide +kernel
theorem dX10_count_102 : decode cX10_count 102 = .ok (.ireturn, 1) := by decide +kernel
theorem dX10_count_103 : decode cX10_count 103 = .ok (.iconst 0, 1) := by decide +kernel
theorem dX10_count_104 : decode cX10_count 104 = .ok (.istore_n 3, 1) := by decide +kernel
theorem dX10_count_105 : decode cX10_count 105 = .ok (.iload_n 3, 1) := by decide +kernel
theorem dX10_count_106 : decode cX10_count 106 = .ok (.bipush 120, 2) := by decide +kernel
theorem dX10_count_108 : decode cX10_count 108 = .ok (.if_icmp .ge 26, 3) := by decide +kernel
theorem dX10_count_111 : decode cX10_count 111 = .ok (.iload_n 2, 1) := by decide +kernel
theorem dX10_count_112 : decode cX10_count 112 = .ok (.aload_n 0, 1) := by decide +kernel
theorem dX10_count_113 : decode cX10_count 113 = .ok (.getfield 28, 3) := by decide +kernel
theorem dX10_count_116 : decode cX10_count 116 = .ok (.iload_n 3, 1) := by decide +kernel
theorem dX10_count_117 : decode cX10_count 117 = .ok (.baload, 1) := by decide +kernel
theorem dX10_count_118 : decode cX10_count 118 = .ok (.ifCond .eq 7, 3) := by decide +kernel
theorem dX10_count_121 : decode cX10_count 121 = .ok (.iconst 1, 1) := by decide +kernel
theorem dX10_count_122 : decode cX10_count 122 = .ok (.goto 4, 3) := by decide +kernel
theorem dX10_count_125 : decode cX10_count 125 = .ok (.iconst 0, 1) := by decide +kernel
theorem dX10_count_126 : decode cX10_count 126 = .ok (.iadd, 1) := by decide +kernel
theorem dX10_count_127 : decode cX10_count 127 = .ok (.istore_n 2, 1) := by decide +kernel
theorem dX10_count_128 : decode cX10_count 128 = .ok (.iinc 3 1, 3) := by decide +kernel
theorem dX10_count_131 : decode cX10_count 131 = .ok (.goto (-26), 3) := by decide +kernel
theorem dX10_count_134 : decode cX10_count 134 = .ok (.iload_n 2, 1) := by decide +kernel
theorem dX10_count_135 : decode cX10_count 135 = .ok (.ireturn, 1) := by decide +kernel
theorem dX10_count_136 : decode cX10_count 136 = .ok (.iconst 0, 1) := by decide +kernel
theorem dX10_count_137 : decode cX10_count 137 = .ok (.istore_n 3, 1) := by decide +kernel
theorem dX10_count_138 : decode cX10_count 138 = .ok (.iload_n 3, 1) := by decide +kernel
theorem dX10_count_139 : decode cX10_count 139 = .ok (.aload_n 0, 1) := by decide +kernel
theorem dX10_count_140 : decode cX10_count 140 = .ok (.getfield 94, 3) := by decide +kernel
theorem dX10_count_143 : decode cX10_count 143 = .ok (.if_icmp .gt 32, 3) := by decide +kernel
theorem dX10_count_146 : decode cX10_count 146 = .ok (.iload_n 2, 1) := by decide +kernel
theorem dX10_count_147 : decode cX10_count 147 = .ok (.aload_n 0, 1) := by decide +kernel
theorem dX10_count_148 : decode cX10_count 148 = .ok (.iload_n 3, 1) := by decide +kernel
theorem dX10_count_149 : decode cX10_count 149 = .ok (.iconst 0, 1) := by decide +kernel
theorem dX10_count_150 : decode cX10_count 150 = .ok (.invokevirtual 139, 3) := by decide +kernel
theorem dX10_count_153 : decode cX10_count 153 = .ok (.aload_n 0, 1) := by decide +kernel
theorem dX10_count_154 : decode cX10_count 154 = .ok (.iload_n 3, 1) := by decide +kernel
theorem dX10_count_155 : decode cX10_count 155 = .ok (.iconst 1, 1) := by decide +kernel
theorem dX10_count_156 : decode cX10_count 156 = .ok (.invokevirtual 139, 3) := by decide +kernel
theorem dX10_count_159 : decode cX10_count 159 = .ok (.if_icmp .ne 7, 3) := by decide +kernel
theorem dX10_count_162 : decode cX10_count 162 = .ok (.iconst 0, 1) := by decide +kernel
theorem dX10_count_163 : decode cX10_count 163 = .ok (.goto 4, 3) := by decide +kernel
theorem dX10_count_166 : decode cX10_count 166 = .ok (.iconst 1, 1) := by decide +kernel
theorem dX10_count_167 : decode cX10_count 167 = .ok (.iadd, 1) := by decide +kernel
theorem dX10_count_168 : decode cX10_count 168 = .ok (.istore_n 2, 1) := by decide +kernel
theorem dX10_count_169 : decode cX10_count 169 = .ok (.iinc 3 1, 3) := by decide +kernel
theorem dX10_count_172 : decode cX10_count 172 = .ok (.goto (-34), 3) := by decide +kernel
theorem dX10_count_175 : decode cX10_count 175 = .ok (.iload_n 2, 1) := by decide +kernel
theorem dX10_count_176 : decode cX10_count 176 = .ok (.ireturn, 1) := by decide +kernel
theorem dX10_count_177 : decode cX10_count 177 = .ok (.aload_n 0, 1) := by decide +kernel
theorem dX10_count_178 : decode cX10_count 178 = .ok (.getfield 143, 3) := by decide +kernel
theorem dX10_count_181 : decode cX10_count 181 = .ok (.ireturn, 1) := by decide +kernel
theorem dX10_count_182 : decode cX10_count 182 = .ok (.ldc 106, 2) := by decide +kernel
theorem dX10_count_184 : decode cX10_count 184 = .ok (.ireturn, 1) := by decide +kernel
theorem dJ9_max_7cf53_0 : decode cJ9_max_7cf53 0 = .ok (.iload_n 0, 1) := by decide +kernel
theorem dJ9_max_7cf53_1 : decode cJ9_max_7cf53 1 = .ok (.iload_n 1, 1) := by decide +kernel
theorem dJ9_max_7cf53_2 : decode cJ9_max_7cf53 2 = .ok (.if_icmp .lt 7, 3) := by decide +kernel
theorem dJ9_max_7cf53_5 : decode cJ9_max_7cf53 5 = .ok (.iload_n 0, 1) := by decide +kernel
theorem dJ9_max_7cf53_6 : decode cJ9_max_7cf53 6 = .ok (.goto 4, 3) := by decide +kernel
theorem dJ9_max_7cf53_9 : decode cJ9_max_7cf53 9 = .ok (.iload_n 1, 1) := by decide +kernel
theorem dJ9_max_7cf53_10 : decode cJ9_max_7cf53 10 = .ok (.ireturn, 1) := by decide +kernel
theorem dJ9_min_7cf53_0 : decode cJ9_min_7cf53 0 = .ok (.iload_n 0, 1) := by decide +kernel
theorem dJ9_min_7cf53_1 : decode cJ9_min_7cf53 1 = .ok (.iload_n 1, 1) := by decide +kernel
theorem dJ9_min_7cf53_2 : decode cJ9_min_7cf53 2 = .ok (.if_icmp .gt 7, 3) := by decide +kernel
theorem dJ9_min_7cf53_5 : decode cJ9_min_7cf53 5 = .ok (.iload_n 0, 1) := by decide +kernel
theorem dJ9_min_7cf53_6 : decode cJ9_min_7cf53 6 = .ok (.goto 4, 3) := by decide +kernel
theorem dJ9_min_7cf53_9 : decode cJ9_min_7cf53 9 = .ok (.iload_n 1, 1) := by decide +kernel
theorem dJ9_min_7cf53_10 : decode cJ9_min_7cf53 10 = .ok (.ireturn, 1) := by decide +kernel
theorem dJ0_length_8abf5_0 : decode cJ0_length_8abf5 0 = .ok (.aload_n 0, 1) := by decide +kernel
theorem dJ0_length_8abf5_1 : decode cJ0_length_8abf5 1 = .ok (.getfield 9, 3) := by decide +kernel
theorem dJ0_length_8abf5_4 : decode cJ0_length_8abf5 4 = .ok (.arraylength, 1) := by decide +kernel
theorem dJ0_length_8abf5_5 : decode cJ0_length_8abf5 5 = .ok (.aload_n 0, 1) := by decide +kernel
theorem dJ0_length_8abf5_6 : decode cJ0_length_8abf5 6 = .ok (.invokevirtual 335, 3) := by decide +kernel
theorem dJ0_length_8abf5_9 : decode cJ0_length_8abf5 9 = .ok (.ishr, 1) := by decide +kernel
theorem dJ0_length_8abf5_10 : decode cJ0_length_8abf5 10 = .ok (.ireturn, 1) := by decide +kernel
theorem dJ0_charAt_5068e_0 : decode cJ0_charAt_5068e 0 = .ok (.aload_n 0, 1) := by decide +kernel
theorem dJ0_charAt_5068e_1 : decode cJ0_charAt_5068e 1 = .ok (.invokevirtual 492, 3) := by decide +kernel
theorem dJ0_charAt_5068e_4 : decode cJ0_charAt_5068e 4 = .ok (.ifCond .eq 12, 3) := by decide +kernel
theorem dJ0_charAt_5068e_7 : decode cJ0_charAt_5068e 7 = .ok (.aload_n 0, 1) := by decide +kernel
theorem dJ0_charAt_5068e_8 : decode cJ0_charAt_5068e 8 = .ok (.getfield 9, 3) := by decide +kernel
theorem dJ0_charAt_5068e_11 : decode cJ0_charAt_5068e 11 = .ok (.iload_n 1, 1) := by decide +kernel
theorem dJ0_charAt_5068e_12 : decode cJ0_charAt_5068e 12 = .ok (.invokestatic 495, 3) := by decide +kernel
theorem dJ0_charAt_5068e_15 : decode cJ0_charAt_5068e 15 = .ok (.ireturn, 1) := by decide +kernel
theorem dJ0_charAt_5068e_16 : decode cJ0_charAt_5068e 16 = .ok (.aload_n 0, 1) := by decide +kernel
theorem dJ0_charAt_5068e_17 : decode cJ0_charAt_5068e 17 = .ok (.getfield 9, 3) := by decide +kernel
theorem dJ0_charAt_5068e_20 : decode cJ0_charAt_5068e 20 = .ok (.iload_n 1, 1) := by decide +kernel
theorem dJ0_charAt_5068e_21 : decode cJ0_charAt_5068e 21 = .ok (.invokestatic 498, 3) := by decide +kernel
theorem dJ0_charAt_5068e_24 : decode cJ0_charAt_5068e 24 = .ok (.ireturn, 1) := by decide +kernel
theorem dJ0_coder_7d493_0 : decode cJ0_coder_7d493 0 = .ok (.getstatic 38, 3) := by decide +kernel
theorem dJ0_coder_7d493_3 : decode cJ0_coder_7d493 3 = .ok (.ifCond .eq 10, 3) := by decide +kernel
theorem dJ0_coder_7d493_6 : decode cJ0_coder_7d493 6 = .ok (.aload_n 0, 1) := by decide +kernel
theorem dJ0_coder_7d493_7 : decode cJ0_coder_7d493 7 = .ok (.getfield 15, 3) := by decide +kernel
theorem dJ0_coder_7d493_10 : decode cJ0_coder_7d493 10 = .ok (.goto 4, 3) := by decide +kernel
theorem dJ0_coder_7d493_13 : decode cJ0_coder_7d493 13 = .ok (.iconst 1, 1) := by decide +kernel
theorem dJ0_coder_7d493_14 : decode cJ0_coder_7d493 14 = .ok (.ireturn, 1) := by decide +kernel
theorem dJ0_isLatin1_aae02_0 : decode cJ0_isLatin1_aae02 0 = .ok (.getstatic 38, 3) := by decide +kernel
theorem dJ0_isLatin1_aae02_3 : decode cJ0_isLatin1_aae02 3 = .ok (.ifCond .eq 14, 3) := by decide +kernel
theorem dJ0_isLatin1_aae02_6 : decode cJ0_isLatin1_aae02 6 = .ok (.aload_n 0, 1) := by decide +kernel
theorem dJ0_isLatin1_aae02_7 : decode cJ0_isLatin1_aae02 7 = .ok (.getfield 15, 3) := by decide +kernel
theorem dJ0_isLatin1_aae02_10 : decode cJ0_isLatin1_aae02 10 = .ok (.ifCond .ne 7, 3) := by decide +kernel
theorem dJ0_isLatin1_aae02_13 : decode cJ0_isLatin1_aae02 13 = .ok (.iconst 1, 1) := by decide +kernel
theorem dJ0_isLatin1_aae02_14 : decode cJ0_isLatin1_aae02 14 = .ok (.goto 4, 3) := by decide +kernel
theorem dJ0_isLatin1_aae02_17 : decode cJ0_isLatin1_aae02 17 = .ok (.iconst 0, 1) := by decide +kernel
theorem dJ0_isLatin1_aae02_18 : decode cJ0_isLatin1_aae02 18 = .ok (.ireturn, 1) := by decide +kernel
theorem dJ0_checkIndex_df160_0 : decode cJ0_checkIndex_df160 0 = .ok (.iload_n 0, 1) := by decide +kernel
theorem dJ0_checkIndex_df160_1 : decode cJ0_checkIndex_df160 1 = .ok (.iload_n 1, 1) := by decide +kernel
theorem dJ0_checkIndex_df160_2 : decode cJ0_checkIndex_df160 2 = .ok (.getstatic 1053, 3) := by decide +kernel
theorem dJ0_checkIndex_df160_5 : decode cJ0_checkIndex_df160 5 = .ok (.invokestatic 1059, 3) := by decide +kernel
theorem dJ0_checkIndex_df160_8 : decode cJ0_checkIndex_df160 8 = .ok (.pop, 1) := by decide +kernel
theorem dJ0_checkIndex_df160_9 : decode cJ0_checkIndex_df160 9 = .ok (.return_, 1) := by decide +kernel
theorem dJ1_charAt_3b067_0 : decode cJ1_charAt_3b067 0 = .ok (.iload_n 1, 1) := by decide +kernel
theorem dJ1_charAt_3b067_1 : decode cJ1_charAt_3b067 1 = .ok (.aload_n 0, 1) := by decide +kernel
theorem dJ1_charAt_3b067_2 : decode cJ1_charAt_3b067 2 = .ok (.arraylength, 1) := by decide +kernel
theorem dJ1_charAt_3b067_3 : decode cJ1_charAt_3b067 3 = .ok (.invokestatic 9, 3) := by decide +kernel
theorem dJ1_charAt_3b067_6 : decode cJ1_charAt_3b067 6 = .ok (.aload_n 0, 1) := by decide +kernel
theorem dJ1_charAt_3b067_7 : decode cJ1_charAt_3b067 7 = .ok (.iload_n 1, 1) := by decide +kernel
theorem dJ1_charAt_3b067_8 : decode cJ1_charAt_3b067 8 = .ok (.baload, 1) := by decide +kernel
theorem dJ1_charAt_3b067_9 : decode cJ1_charAt_3b067 9 = .ok (.sipush 255, 3) := by decide +kernel
theorem dJ1_charAt_3b067_12 : decode cJ1_charAt_3b067 12 = .ok (.iand, 1) := by decide +kernel
theorem dJ1_charAt_3b067_13 : decode cJ1_charAt_3b067 13 = .ok (.i2c, 1) := by decide +kernel
theorem dJ1_charAt_3b067_14 : decode cJ1_charAt_3b067 14 = .ok (.ireturn, 1) := by decide +kernel
theorem dJ2_getChar_3b067_0 : decode cJ2_getChar_3b067 0 = .ok (.getstatic 44, 3) := by decide +kernel
theorem dJ2_getChar_3b067_3 : decode cJ2_getChar_3b067 3 = .ok (.ifCond .ne 25, 3) := by decide +kernel
theorem dJ2_getChar_3b067_6 : decode cJ2_getChar_3b067 6 = .ok (.iload_n 1, 1) := by decide +kernel
theorem dJ2_getChar_3b067_7 : decode cJ2_getChar_3b067 7 = .ok (.ifCond .lt 11, 3) := by decide +kernel
theorem dJ2_getChar_3b067_10 : decode cJ2_getChar_3b067 10 = .ok (.iload_n 1, 1) := by decide +kernel
theorem dJ2_getChar_3b067_11 : decode cJ2_getChar_3b067 11 = .ok (.aload_n 0, 1) := by decide +kernel
theorem dJ2_getChar_3b067_12 : decode cJ2_getChar_3b067 12 = .ok (.invokestatic 48, 3) := by decide +kernel
theorem dJ2_getChar_3b067_15 : decode cJ2_getChar_3b067 15 = .ok (.if_icmp .lt 13, 3) := by decide +kernel
theorem dJ2_getChar_3b067_18 : decode cJ2_getChar_3b067 18 = .ok (.new 52, 3) := by decide +kernel
theorem dJ2_getChar_3b067_21 : decode cJ2_getChar_3b067 21 = .ok (.dup, 1) := by decide +kernel
theorem dJ2_getChar_3b067_22 : decode cJ2_getChar_3b067 22 = .ok (.ldc 54, 2) := by decide +kernel
theorem dJ2_getChar_3b067_24 : decode cJ2_getChar_3b067 24 = .ok (.invokespecial 56, 3) := by decide +kernel
theorem dJ2_getChar_3b067_27 : decode cJ2_getChar_3b067 27 = .ok (.athrow, 1) := by decide +kernel
theorem dJ2_getChar_3b067_28 : decode cJ2_getChar_3b067 28 = .ok (.iload_n 1, 1) := by decide +kernel
theorem dJ2_getChar_3b067_29 : decode cJ2_getChar_3b067 29 = .ok (.iconst 1, 1) := by decide +kernel
theorem dJ2_getChar_3b067_30 : decode cJ2_getChar_3b067 30 = .ok (.ishl, 1) := by decide +kernel
theorem dJ2_getChar_3b067_31 : decode cJ2_getChar_3b067 31 = .ok (.istore_n 1, 1) := by decide +kernel
theorem dJ2_getChar_3b067_32 : decode cJ2_getChar_3b067 32 = .ok (.aload_n 0, 1) := by decide +kernel
theorem dJ2_getChar_3b067_33 : decode cJ2_getChar_3b067 33 = .ok (.iload_n 1, 1) := by decide +kernel
theorem dJ2_getChar_3b067_34 : decode cJ2_getChar_3b067 34 = .ok (.iinc 1 1, 3) := by decide +kernel
theorem dJ2_getChar_3b067_37 : decode cJ2_getChar_3b067 37 = .ok (.baload, 1) := by decide +kernel
theorem dJ2_getChar_3b067_38 : decode cJ2_getChar_3b067 38 = .ok (.sipush 255, 3) := by decide +kernel
theorem dJ2_getChar_3b067_41 : decode cJ2_getChar_3b067 41 = .ok (.iand, 1) := by decide +kernel
theorem dJ2_getChar_3b067_42 : decode cJ2_getChar_3b067 42 = .ok (.getstatic 59, 3) := by decide +kernel
theorem dJ2_getChar_3b067_45 : decode cJ2_getChar_3b067 45 = .ok (.ishl, 1) := by decide +kernel
theorem dJ2_getChar_3b067_46 : decode cJ2_getChar_3b067 46 = .ok (.aload_n 0, 1) := by decide +kernel
theorem dJ2_getChar_3b067_47 : decode cJ2_getChar_3b067 47 = .ok (.iload_n 1, 1) := by decide +kernel
theorem dJ2_getChar_3b067_48 : decode cJ2_getChar_3b067 48 = .ok (.baload, 1) := by decide +kernel
theorem dJ2_getChar_3b067_49 : decode cJ2_getChar_3b067 49 = .ok (.sipush 255, 3) := by decide +kernel
theorem dJ2_getChar_3b067_52 : decode cJ2_getChar_3b067 52 = .ok (.iand, 1) := by decide +kernel
theorem dJ2_getChar_3b067_53 : decode cJ2_getChar_3b067 53 = .ok (.getstatic 63, 3) := by decide +kernel
theorem dJ2_getChar_3b067_56 : decode cJ2_getChar_3b067 56 = .ok (.ishl, 1) := by decide +kernel
theorem dJ2_getChar_3b067_57 : decode cJ2_getChar_3b067 57 = .ok (.ior, 1) := by decide +kernel
theorem dJ2_getChar_3b067_58 : decode cJ2_getChar_3b067 58 = .ok (.i2c, 1) := by decide +kernel
theorem dJ2_getChar_3b067_59 : decode cJ2_getChar_3b067 59 = .ok (.ireturn, 1) := by decide +kernel
theorem dJ2_length_9d52b_0 : decode cJ2_length_9d52b 0 = .ok (.aload_n 0, 1) := by decide +kernel
theorem dJ2_length_9d52b_1 : decode cJ2_length_9d52b 1 = .ok (.arraylength, 1) := by decide +kernel
theorem dJ2_length_9d52b_2 : decode cJ2_length_9d52b 2 = .ok (.iconst 1, 1) := by decide +kernel
theorem dJ2_length_9d52b_3 : decode cJ2_length_9d52b 3 = .ok (.ishr, 1) := by decide +kernel
theorem dJ2_length_9d52b_4 : decode cJ2_length_9d52b 4 = .ok (.ireturn, 1) := by decide +kernel
theorem dJ2_charAt_3b067_0 : decode cJ2_charAt_3b067 0 = .ok (.iload_n 1, 1) := by decide +kernel
theorem dJ2_charAt_3b067_1 : decode cJ2_charAt_3b067 1 = .ok (.aload_n 0, 1) := by decide +kernel
theorem dJ2_charAt_3b067_2 : decode cJ2_charAt_3b067 2 = .ok (.invokestatic 67, 3) := by decide +kernel
theorem dJ2_charAt_3b067_5 : decode cJ2_charAt_3b067 5 = .ok (.aload_n 0, 1) := by decide +kernel
theorem dJ2_charAt_3b067_6 : decode cJ2_charAt_3b067 6 = .ok (.iload_n 1, 1) := by decide +kernel
theorem dJ2_charAt_3b067_7 : decode cJ2_charAt_3b067 7 = .ok (.invokestatic 71, 3) := by decide +kernel
theorem dJ2_charAt_3b067_10 : decode cJ2_charAt_3b067 10 = .ok (.ireturn, 1) := by decide +kernel
theorem dJ2_checkIndex_2214a_0 : decode cJ2_checkIndex_2214a 0 = .ok (.iload_n 0, 1) := by decide +kernel
theorem dJ2_checkIndex_2214a_1 : decode cJ2_checkIndex_2214a 1 = .ok (.aload_n 1, 1) := by decide +kernel
theorem dJ2_checkIndex_2214a_2 : decode cJ2_checkIndex_2214a 2 = .ok (.invokestatic 48, 3) := by decide +kernel
theorem dJ2_checkIndex_2214a_5 : decode cJ2_checkIndex_2214a 5 = .ok (.invokestatic 414, 3) := by decide +kernel
theorem dJ2_checkIndex_2214a_8 : decode cJ2_checkIndex_2214a 8 = .ok (.return_, 1) := by decide +kernel
theorem dJ7_fill_53178_0 : decode cJ7_fill_53178 0 = .ok (.iconst 0, 1) := by decide +kernel
theorem dJ7_fill_53178_1 : decode cJ7_fill_53178 1 = .ok (.istore_n 2, 1) := by decide +kernel
theorem dJ7_fill_53178_2 : decode cJ7_fill_53178 2 = .ok (.aload_n 0, 1) := by decide +kernel
theorem dJ7_fill_53178_3 : decode cJ7_fill_53178 3 = .ok (.arraylength, 1) := by decide +kernel
theorem dJ7_fill_53178_4 : decode cJ7_fill_53178 4 = .ok (.istore_n 3, 1) := by decide +kernel
theorem dJ7_fill_53178_5 : decode cJ7_fill_53178 5 = .ok (.iload_n 2, 1) := by decide +kernel
theorem dJ7_fill_53178_6 : decode cJ7_fill_53178 6 = .ok (.iload_n 3, 1) := by decide +kernel
theorem dJ7_fill_53178_7 : decode cJ7_fill_53178 7 = .ok (.if_icmp .ge 13, 3) := by decide +kernel
theorem dJ7_fill_53178_10 : decode cJ7_fill_53178 10 = .ok (.aload_n 0, 1) := by decide +kernel
theorem dJ7_fill_53178_11 : decode cJ7_fill_53178 11 = .ok (.iload_n 2, 1) := by decide +kernel
theorem dJ7_fill_53178_12 : decode cJ7_fill_53178 12 = .ok (.iload_n 1, 1) := by decide +kernel
theorem dJ7_fill_53178_13 : decode cJ7_fill_53178 13 = .ok (.iastore, 1) := by decide +kernel
theorem dJ7_fill_53178_14 : decode cJ7_fill_53178 14 = .ok (.iinc 2 1, 3) := by decide +kernel
theorem dJ7_fill_53178_17 : decode cJ7_fill_53178 17 = .ok (.goto (-12), 3) := by decide +kernel
theorem dJ7_fill_53178_20 : decode cJ7_fill_53178 20 = .ok (.return_, 1) := by decide +kernel
theorem dJ7_fill_031fb_0 : decode cJ7_fill_031fb 0 = .ok (.iconst 0, 1) := by decide +kernel
theorem dJ7_fill_031fb_1 : decode cJ7_fill_031fb 1 = .ok (.istore_n 2, 1) := by decide +kernel
theorem dJ7_fill_031fb_2 : decode cJ7_fill_031fb 2 = .ok (.aload_n 0, 1) := by decide +kernel
theorem dJ7_fill_031fb_3 : decode cJ7_fill_031fb 3 = .ok (.arraylength, 1) := by decide +kernel
theorem dJ7_fill_031fb_4 : decode cJ7_fill_031fb 4 = .ok (.istore_n 3, 1) := by decide +kernel
theorem dJ7_fill_031fb_5 : decode cJ7_fill_031fb 5 = .ok (.iload_n 2, 1) := by decide +kernel
theorem dJ7_fill_031fb_6 : decode cJ7_fill_031fb 6 = .ok (.iload_n 3, 1) := by decide +kernel
theorem dJ7_fill_031fb_7 : decode cJ7_fill_031fb 7 = .ok (.if_icmp .ge 13, 3) := by decide +kernel
theorem dJ7_fill_031fb_10 : decode cJ7_fill_031fb 10 = .ok (.aload_n 0, 1) := by decide +kernel
theorem dJ7_fill_031fb_11 : decode cJ7_fill_031fb 11 = .ok (.iload_n 2, 1) := by decide +kernel
theorem dJ7_fill_031fb_12 : decode cJ7_fill_031fb 12 = .ok (.iload_n 1, 1) := by decide +kernel
theorem dJ7_fill_031fb_13 : decode cJ7_fill_031fb 13 = .ok (.bastore, 1) := by decide +kernel
theorem dJ7_fill_031fb_14 : decode cJ7_fill_031fb 14 = .ok (.iinc 2 1, 3) := by decide +kernel
theorem dJ7_fill_031fb_17 : decode cJ7_fill_031fb 17 = .ok (.goto (-12), 3) := by decide +kernel
theorem dJ7_fill_031fb_20 : decode cJ7_fill_031fb 20 = .ok (.return_, 1) := by decide +kernel
theorem dJ3_checkIndex_8e157_0 : decode cJ3_checkIndex_8e157 0 = .ok (.iload_n 0, 1) := by decide +kernel
theorem dJ3_checkIndex_8e157_1 : decode cJ3_checkIndex_8e157 1 = .ok (.ifCond .lt 8, 3) := by decide +kernel
theorem dJ3_checkIndex_8e157_4 : decode cJ3_checkIndex_8e157 4 = .ok (.iload_n 0, 1) := by decide +kernel
theorem dJ3_checkIndex_8e157_5 : decode cJ3_checkIndex_8e157 5 = .ok (.iload_n 1, 1) := by decide +kernel
theorem dJ3_checkIndex_8e157_6 : decode cJ3_checkIndex_8e157 6 = .ok (.if_icmp .lt 10, 3) := by decide +kernel
theorem dJ3_checkIndex_8e157_9 : decode cJ3_checkIndex_8e157 9 = .ok (.aload_n 2, 1) := by decide +kernel
theorem dJ3_checkIndex_8e157_10 : decode cJ3_checkIndex_8e157 10 = .ok (.iload_n 0, 1) := by decide +kernel
theorem dJ3_checkIndex_8e157_11 : decode cJ3_checkIndex_8e157 11 = .ok (.iload_n 1, 1) := by decide +kernel
theorem dJ3_checkIndex_8e157_12 : decode cJ3_checkIndex_8e157 12 = .ok (.invokestatic 95, 3) := by decide +kernel
theorem dJ3_checkIndex_8e157_15 : decode cJ3_checkIndex_8e157 15 = .ok (.athrow, 1) := by decide +kernel
theorem dJ3_checkIndex_8e157_16 : decode cJ3_checkIndex_8e157 16 = .ok (.iload_n 0, 1) := by decide +kernel
theorem dJ3_checkIndex_8e157_17 : decode cJ3_checkIndex_8e157 17 = .ok (.ireturn, 1) := by decide +kernel
end
section
theorem dL_law_0 : decode cL_law 0 = .ok (.new 7, 3) := by decide +kernel
theorem dL_law_3 : decode cL_law 3 = .ok (.dup, 1) := by decide +kernel
theorem dL_law_4 : decode cL_law 4 = .ok (.invokespecial 9, 3) := by decide +kernel
theorem dL_law_7 : decode cL_law 7 = .ok (.astore_n 1, 1) := by decide +kernel
theorem dL_law_8 : decode cL_law 8 = .ok (.new 10, 3) := by decide +kernel
theorem dL_law_11 : decode cL_law 11 = .ok (.dup, 1) := by decide +kernel
theorem dL_law_12 : decode cL_law 12 = .ok (.invokespecial 12, 3) := by decide +kernel
theorem dL_law_15 : decode cL_law 15 = .ok (.astore_n 2, 1) := by decide +kernel
theorem dL_law_16 : decode cL_law 16 = .ok (.iconst 0, 1) := by decide +kernel
theorem dL_law_17 : decode cL_law 17 = .ok (.istore_n 3, 1) := by decide +kernel
theorem dL_law_18 : decode cL_law 18 = .ok (.iload_n 3, 1) := by decide +kernel
theorem dL_law_19 : decode cL_law 19 = .ok (.aload_n 0, 1) := by decide +kernel
theorem dL_law_20 : decode cL_law 20 = .ok (.arraylength, 1) := by decide +kernel
theorem dL_law_21 : decode cL_law 21 = .ok (.bipush 6, 2) := by decide +kernel
theorem dL_law_23 : decode cL_law 23 = .ok (.isub, 1) := by decide +kernel
theorem dL_law_24 : decode cL_law 24 = .ok (.if_icmp .gt 1197, 3) := by decide +kernel
theorem dL_law_27 : decode cL_law 27 = .ok (.aload_n 0, 1) := by decide +kernel
theorem dL_law_28 : decode cL_law 28 = .ok (.iload_n 3, 1) := by decide +kernel
theorem dL_law_29 : decode cL_law 29 = .ok (.iaload, 1) := by decide +kernel
theorem dL_law_30 : decode cL_law 30 = .ok (.bipush 31, 2) := by decide +kernel
theorem dL_law_32 : decode cL_law 32 = .ok (.iand, 1) := by decide +kernel
theorem dL_law_33 : decode cL_law 33 = .ok (.tableswitch 1182 0 30 #[139, 182, 215, 238, 271, 314, 347, 380, 423, 446, 469, 492, 535, 578, 611, 654, 677, 710, 743, 776, 819, 852, 885, 918, 951, 974, 997, 1030, 1073, 1136, 1159], 139) := by decide +kernel
theorem dL_law_172 : decode cL_law 172 = .ok (.aload_n 1, 1) := by decide +kernel
theorem dL_law_173 : decode cL_law 173 = .ok (.aload_n 0, 1) := by decide +kernel
theorem dL_law_174 : decode cL_law 174 = .ok (.iload_n 3, 1) := by decide +kernel
theorem dL_law_175 : decode cL_law 175 = .ok (.iconst 1, 1) := by decide +kernel
theorem dL_law_176 : decode cL_law 176 = .ok (.iadd, 1) := by decide +kernel
theorem dL_law_177 : decode cL_law 177 = .ok (.iaload, 1) := by decide +kernel
theorem dL_law_178 : decode cL_law 178 = .ok (.aload_n 0, 1) := by decide +kernel
theorem dL_law_179 : decode cL_law 179 = .ok (.iload_n 3, 1) := by decide +kernel
theorem dL_law_180 : decode cL_law 180 = .ok (.iconst 2, 1) := by decide +kernel
theorem dL_law_181 : decode cL_law 181 = .ok (.iadd, 1) := by decide +kernel
theorem dL_law_182 : decode cL_law 182 = .ok (.iaload, 1) := by decide +kernel
theorem dL_law_183 : decode cL_law 183 = .ok (.aload_n 0, 1) := by decide +kernel
theorem dL_law_184 : decode cL_law 184 = .ok (.iload_n 3, 1) := by decide +kernel
theorem dL_law_185 : decode cL_law 185 = .ok (.iconst 3, 1) := by decide +kernel
theorem dL_law_186 : decode cL_law 186 = .ok (.iadd, 1) := by decide +kernel
theorem dL_law_187 : decode cL_law 187 = .ok (.iaload, 1) := by decide +kernel
theorem dL_law_188 : decode cL_law 188 = .ok (.invokevirtual 13, 3) := by decide +kernel
theorem dL_law_191 : decode cL_law 191 = .ok (.aload_n 2, 1) := by decide +kernel
theorem dL_law_192 : decode cL_law 192 = .ok (.aload_n 0, 1) := by decide +kernel
theorem dL_law_193 : decode cL_law 193 = .ok (.iload_n 3, 1) := by decide +kernel
theorem dL_law_194 : decode cL_law 194 = .ok (.iconst 1, 1) := by decide +kernel
theorem dL_law_195 : decode cL_law 195 = .ok (.iadd, 1) := by decide +kernel
theorem dL_law_196 : decode cL_law 196 = .ok (.iaload, 1) := by decide +kernel
theorem dL_law_197 : decode cL_law 197 = .ok (.aload_n 0, 1) := by decide +kernel
theorem dL_law_198 : decode cL_law 198 = .ok (.iload_n 3, 1) := by decide +kernel
theorem dL_law_199 : decode cL_law 199 = .ok (.iconst 2, 1) := by decide +kernel
theorem dL_law_200 : decode cL_law 200 = .ok (.iadd, 1) := by decide +kernel
theorem dL_law_201 : decode cL_law 201 = .ok (.iaload, 1) := by decide +kernel
theorem dL_law_202 : decode cL_law 202 = .ok (.aload_n 0, 1) := by decide +kernel
theorem dL_law_203 : decode cL_law 203 = .ok (.iload_n 3, 1) := by decide +kernel
theorem dL_law_204 : decode cL_law 204 = .ok (.iconst 3, 1) := by decide +kernel
theorem dL_law_205 : decode cL_law 205 = .ok (.iadd, 1) := by decide +kernel
theorem dL_law_206 : decode cL_law 206 = .ok (.iaload, 1) := by decide +kernel
theorem dL_law_207 : decode cL_law 207 = .ok (.invokevirtual 17, 3) := by decide +kernel
theorem dL_law_210 : decode cL_law 210 = .ok (.if_icmp .eq 1005, 3) := by decide +kernel
theorem dL_law_213 : decode cL_law 213 = .ok (.iconst 0, 1) := by decide +kernel
theorem dL_law_214 : decode cL_law 214 = .ok (.ireturn, 1) := by decide +kernel
theorem dL_law_215 : decode cL_law 215 = .ok (.aload_n 1, 1) := by decide +kernel
theorem dL_law_216 : decode cL_law 216 = .ok (.aload_n 0, 1) := by decide +kernel
theorem dL_law_217 : decode cL_law 217 = .ok (.iload_n 3, 1) := by decide +kernel
theorem dL_law_218 : decode cL_law 218 = .ok (.iconst 1, 1) := by decide +kernel
theorem dL_law_219 : decode cL_law 219 = .ok (.iadd, 1) := by decide +kernel
theorem dL_law_220 : decode cL_law 220 = .ok (.iaload, 1) := by decide +kernel
theorem dL_law_221 : decode cL_law 221 = .ok (.aload_n 0, 1) := by decide +kernel
theorem dL_law_222 : decode cL_law 222 = .ok (.iload_n 3, 1) := by decide +kernel
theorem dL_law_223 : decode cL_law 223 = .ok (.iconst 2, 1) := by decide +kernel
theorem dL_law_224 : decode cL_law 224 = .ok (.iadd, 1) := by decide +kernel
theorem dL_law_225 : decode cL_law 225 = .ok (.iaload, 1) := by decide +kernel
theorem dL_law_226 : decode cL_law 226 = .ok (.invokevirtual 18, 3) := by decide +kernel
theorem dL_law_229 : decode cL_law 229 = .ok (.aload_n 2, 1) := by decide +kernel
theorem dL_law_230 : decode cL_law 230 = .ok (.aload_n 0, 1) := by decide +kernel
theorem dL_law_231 : decode cL_law 231 = .ok (.iload_n 3, 1) := by decide +kernel
theorem dL_law_232 : decode cL_law 232 = .ok (.iconst 1, 1) := by decide +kernel
theorem dL_law_233 : decode cL_law 233 = .ok (.iadd, 1) := by decide +kernel
theorem dL_law_234 : decode cL_law 234 = .ok (.iaload, 1) := by decide +kernel
theorem dL_law_235 : decode cL_law 235 = .ok (.aload_n 0, 1) := by decide +kernel
theorem dL_law_236 : decode cL_law 236 = .ok (.iload_n 3, 1) := by decide +kernel
theorem dL_law_237 : decode cL_law 237 = .ok (.iconst 2, 1) := by decide +kernel
theorem dL_law_238 : decode cL_law 238 = .ok (.iadd, 1) := by decide +kernel
theorem dL_law_239 : decode cL_law 239 = .ok (.iaload, 1) := by decide +kernel
theorem dL_law_240 : decode cL_law 240 = .ok (.invokevirtual 22, 3) := by decide +kernel
theorem dL_law_243 : decode cL_law 243 = .ok (.if_icmp .eq 972, 3) := by decide +kernel
theorem dL_law_246 : decode cL_law 246 = .ok (.iconst 0, 1) := by decide +kernel
theorem dL_law_247 : decode cL_law 247 = .ok (.ireturn, 1) := by decide +kernel
theorem dL_law_248 : decode cL_law 248 = .ok (.aload_n 1, 1) := by decide +kernel
theorem dL_law_249 : decode cL_law 249 = .ok (.aload_n 0, 1) := by decide +kernel
theorem dL_law_250 : decode cL_law 250 = .ok (.iload_n 3, 1) := by decide +kernel
theorem dL_law_251 : decode cL_law 251 = .ok (.iconst 1, 1) := by decide +kernel
theorem dL_law_252 : decode cL_law 252 = .ok (.iadd, 1) := by decide +kernel
theorem dL_law_253 : decode cL_law 253 = .ok (.iaload, 1) := by decide +kernel
theorem dL_law_254 : decode cL_law 254 = .ok (.invokevirtual 23, 3) := by decide +kernel
theorem dL_law_257 : decode cL_law 257 = .ok (.aload_n 2, 1) := by decide +kernel
theorem dL_law_258 : decode cL_law 258 = .ok (.aload_n 0, 1) := by decide +kernel
theorem dL_law_259 : decode cL_law 259 = .ok (.iload_n 3, 1) := by decide +kernel
theorem dL_law_260 : decode cL_law 260 = .ok (.iconst 1, 1) := by decide +kernel
theorem dL_law_261 : decode cL_law 261 = .ok (.iadd, 1) := by decide +kernel
theorem dL_law_262 : decode cL_law 262 = .ok (.iaload, 1) := by decide +kernel
theorem dL_law_263 : decode cL_law 263 = .ok (.invokevirtual 27, 3) := by decide +kernel
theorem dL_law_266 : decode cL_law 266 = .ok (.if_icmp .eq 949, 3) := by decide +kernel
theorem dL_law_269 : decode cL_law 269 = .ok (.iconst 0, 1) := by decide +kernel
theorem dL_law_270 : decode cL_law 270 = .ok (.ireturn, 1) := by decide +kernel
theorem dL_law_271 : decode cL_law 271 = .ok (.aload_n 1, 1) := by decide +kernel
theorem dL_law_272 : decode cL_law 272 = .ok (.aload_n 0, 1) := by decide +kernel
theorem dL_law_273 : decode cL_law 273 = .ok (.iload_n 3, 1) := by decide +kernel
theorem dL_law_274 : decode cL_law 274 = .ok (.iconst 1, 1) := by decide +kernel
theorem dL_law_275 : decode cL_law 275 = .ok (.iadd, 1) := by decide +kernel
theorem dL_law_276 : decode cL_law 276 = .ok (.iaload, 1) := by decide +kernel
theorem dL_law_277 : decode cL_law 277 = .ok (.aload_n 0, 1) := by decide +kernel
theorem dL_law_278 : decode cL_law 278 = .ok (.iload_n 3, 1) := by decide +kernel
theorem dL_law_279 : decode cL_law 279 = .ok (.iconst 2, 1) := by decide +kernel
theorem dL_law_280 : decode cL_law 280 = .ok (.iadd, 1) := by decide +kernel
theorem dL_law_281 : decode cL_law 281 = .ok (.iaload, 1) := by decide +kernel
theorem dL_law_282 : decode cL_law 282 = .ok (.invokevirtual 28, 3) := by decide +kernel
theorem dL_law_285 : decode cL_law 285 = .ok (.aload_n 2, 1) := by decide +kernel
theorem dL_law_286 : decode cL_law 286 = .ok (.aload_n 0, 1) := by decide +kernel
theorem dL_law_287 : decode cL_law 287 = .ok (.iload_n 3, 1) := by decide +kernel
theorem dL_law_288 : decode cL_law 288 = .ok (.iconst 1, 1) := by decide +kernel
theorem dL_law_289 : decode cL_law 289 = .ok (.iadd, 1) := by decide +kernel
theorem dL_law_290 : decode cL_law 290 = .ok (.iaload, 1) := by decide +kernel
theorem dL_law_291 : decode cL_law 291 = .ok (.aload_n 0, 1) := by decide +kernel
theorem dL_law_292 : decode cL_law 292 = .ok (.iload_n 3, 1) := by decide +kernel
theorem dL_law_293 : decode cL_law 293 = .ok (.iconst 2, 1) := by decide +kernel
theorem dL_law_294 : decode cL_law 294 = .ok (.iadd, 1) := by decide +kernel
theorem dL_law_295 : decode cL_law 295 = .ok (.iaload, 1) := by decide +kernel
theorem dL_law_296 : decode cL_law 296 = .ok (.invokevirtual 31, 3) := by decide +kernel
theorem dL_law_299 : decode cL_law 299 = .ok (.if_icmp .eq 916, 3) := by decide +kernel
theorem dL_law_302 : decode cL_law 302 = .ok (.iconst 0, 1) := by decide +kernel
theorem dL_law_303 : decode cL_law 303 = .ok (.ireturn, 1) := by decide +kernel
theorem dL_law_304 : decode cL_law 304 = .ok (.aload_n 1, 1) := by decide +kernel
theorem dL_law_305 : decode cL_law 305 = .ok (.aload_n 0, 1) := by decide +kernel
theorem dL_law_306 : decode cL_law 306 = .ok (.iload_n 3, 1) := by decide +kernel
theorem dL_law_307 : decode cL_law 307 = .ok (.iconst 1, 1) := by decide +kernel
theorem dL_law_308 : decode cL_law 308 = .ok (.iadd, 1) := by decide +kernel
theorem dL_law_309 : decode cL_law 309 = .ok (.iaload, 1) := by decide +kernel
theorem dL_law_310 : decode cL_law 310 = .ok (.aload_n 0, 1) := by decide +kernel
theorem dL_law_311 : decode cL_law 311 = .ok (.iload_n 3, 1) := by decide +kernel
theorem dL_law_312 : decode cL_law 312 = .ok (.iconst 2, 1) := by decide +kernel
theorem dL_law_313 : decode cL_law 313 = .ok (.iadd, 1) := by decide +kernel
theorem dL_law_314 : decode cL_law 314 = .ok (.iaload, 1) := by decide +kernel
theorem dL_law_315 : decode cL_law 315 = .ok (.aload_n 0, 1) := by decide +kernel
theorem dL_law_316 : decode cL_law 316 = .ok (.iload_n 3, 1) := by decide +kernel
theorem dL_law_317 : decode cL_law 317 = .ok (.iconst 3, 1) := by decide +kernel
theorem dL_law_318 : decode cL_law 318 = .ok (.iadd, 1) := by decide +kernel
theorem dL_law_319 : decode cL_law 319 = .ok (.iaload, 1) := by decide +kernel
theorem dL_law_320 : decode cL_law 320 = .ok (.invokevirtual 32, 3) := by decide +kernel
theorem dL_law_323 : decode cL_law 323 = .ok (.aload_n 2, 1) := by decide +kernel
theorem dL_law_324 : decode cL_law 324 = .ok (.aload_n 0, 1) := by decide +kernel
theorem dL_law_325 : decode cL_law 325 = .ok (.iload_n 3, 1) := by decide +kernel
theorem dL_law_326 : decode cL_law 326 = .ok (.iconst 1, 1) := by decide +kernel
theorem dL_law_327 : decode cL_law 327 = .ok (.iadd, 1) := by decide +kernel
theorem dL_law_328 : decode cL_law 328 = .ok (.iaload, 1) := by decide +kernel
theorem dL_law_329 : decode cL_law 329 = .ok (.aload_n 0, 1) := by decide +kernel
theorem dL_law_330 : decode cL_law 330 = .ok (.iload_n 3, 1) := by decide +kernel
theorem dL_law_331 : decode cL_law 331 = .ok (.iconst 2, 1) := by decide +kernel
theorem dL_law_332 : decode cL_law 332 = .ok (.iadd, 1) := by decide +kernel
theorem dL_law_333 : decode cL_law 333 = .ok (.iaload, 1) := by decide +kernel
theorem dL_law_334 : decode cL_law 334 = .ok (.aload_n 0, 1) := by decide +kernel
theorem dL_law_335 : decode cL_law 335 = .ok (.iload_n 3, 1) := by decide +kernel
theorem dL_law_336 : decode cL_law 336 = .ok (.iconst 3, 1) := by decide +kernel
theorem dL_law_337 : decode cL_law 337 = .ok (.iadd, 1) := by decide +kernel
theorem dL_law_338 : decode cL_law 338 = .ok (.iaload, 1) := by decide +kernel
theorem dL_law_339 : decode cL_law 339 = .ok (.invokevirtual 35, 3) := by decide +kernel
theorem dL_law_342 : decode cL_law 342 = .ok (.if_icmp .eq 873, 3) := by decide +kernel
theorem dL_law_345 : decode cL_law 345 = .ok (.iconst 0, 1) := by decide +kernel
theorem dL_law_346 : decode cL_law 346 = .ok (.ireturn, 1) := by decide +kernel
theorem dL_law_347 : decode cL_law 347 = .ok (.aload_n 1, 1) := by decide +kernel
theorem dL_law_348 : decode cL_law 348 = .ok (.aload_n 0, 1) := by decide +kernel
theorem dL_law_349 : decode cL_law 349 = .ok (.iload_n 3, 1) := by decide +kernel
theorem dL_law_350 : decode cL_law 350 = .ok (.iconst 1, 1) := by decide +kernel
theorem dL_law_351 : decode cL_law 351 = .ok (.iadd, 1) := by decide +kernel
theorem dL_law_352 : decode cL_law 352 = .ok (.iaload, 1) := by decide +kernel
theorem dL_law_353 : decode cL_law 353 = .ok (.aload_n 0, 1) := by decide +kernel
theorem dL_law_354 : decode cL_law 354 = .ok (.iload_n 3, 1) := by decide +kernel
theorem dL_law_355 : decode cL_law 355 = .ok (.iconst 2, 1) := by decide +kernel
theorem dL_law_356 : decode cL_law 356 = .ok (.iadd, 1) := by decide +kernel
theorem dL_law_357 : decode cL_law 357 = .ok (.iaload, 1) := by decide +kernel
theorem dL_law_358 : decode cL_law 358 = .ok (.invokevirtual 36, 3) := by decide +kernel
theorem dL_law_361 : decode cL_law 361 = .ok (.aload_n 2, 1) := by decide +kernel
theorem dL_law_362 : decode cL_law 362 = .ok (.aload_n 0, 1) := by decide +kernel
theorem dL_law_363 : decode cL_law 363 = .ok (.iload_n 3, 1) := by decide +kernel
theorem dL_law_364 : decode cL_law 364 = .ok (.iconst 1, 1) := by decide +kernel
theorem dL_law_365 : decode cL_law 365 = .ok (.iadd, 1) := by decide +kernel
theorem dL_law_366 : decode cL_law 366 = .ok (.iaload, 1) := by decide +kernel
theorem dL_law_367 : decode cL_law 367 = .ok (.aload_n 0, 1) := by decide +kernel
theorem dL_law_368 : decode cL_law 368 = .ok (.iload_n 3, 1) := by decide +kernel
theorem dL_law_369 : decode cL_law 369 = .ok (.iconst 2, 1) := by decide +kernel
theorem dL_law_370 : decode cL_law 370 = .ok (.iadd, 1) := by decide +kernel
theorem dL_law_371 : decode cL_law 371 = .ok (.iaload, 1) := by decide +kernel
theorem dL_law_372 : decode cL_law 372 = .ok (.invokevirtual 39, 3) := by decide +kernel
theorem dL_law_375 : decode cL_law 375 = .ok (.if_icmp .eq 840, 3) := by decide +kernel
theorem dL_law_378 : decode cL_law 378 = .ok (.iconst 0, 1) := by decide +kernel
theorem dL_law_379 : decode cL_law 379 = .ok (.ireturn, 1) := by decide +kernel
theorem dL_law_380 : decode cL_law 380 = .ok (.aload_n 1, 1) := by decide +kernel
theorem dL_law_381 : decode cL_law 381 = .ok (.aload_n 0, 1) := by decide +kernel
theorem dL_law_382 : decode cL_law 382 = .ok (.iload_n 3, 1) := by decide +kernel
theorem dL_law_383 : decode cL_law 383 = .ok (.iconst 1, 1) := by decide +kernel
theorem dL_law_384 : decode cL_law 384 = .ok (.iadd, 1) := by decide +kernel
theorem dL_law_385 : decode cL_law 385 = .ok (.iaload, 1) := by decide +kernel
theorem dL_law_386 : decode cL_law 386 = .ok (.aload_n 0, 1) := by decide +kernel
theorem dL_law_387 : decode cL_law 387 = .ok (.iload_n 3, 1) := by decide +kernel
theorem dL_law_388 : decode cL_law 388 = .ok (.iconst 2, 1) := by decide +kernel
theorem dL_law_389 : decode cL_law 389 = .ok (.iadd, 1) := by decide +kernel
theorem dL_law_390 : decode cL_law 390 = .ok (.iaload, 1) := by decide +kernel
theorem dL_law_391 : decode cL_law 391 = .ok (.invokevirtual 40, 3) := by decide +kernel
theorem dL_law_394 : decode cL_law 394 = .ok (.aload_n 2, 1) := by decide +kernel
theorem dL_law_395 : decode cL_law 395 = .ok (.aload_n 0, 1) := by decide +kernel
theorem dL_law_396 : decode cL_law 396 = .ok (.iload_n 3, 1) := by decide +kernel
theorem dL_law_397 : decode cL_law 397 = .ok (.iconst 1, 1) := by decide +kernel
theorem dL_law_398 : decode cL_law 398 = .ok (.iadd, 1) := by decide +kernel
theorem dL_law_399 : decode cL_law 399 = .ok (.iaload, 1) := by decide +kernel
theorem dL_law_400 : decode cL_law 400 = .ok (.aload_n 0, 1) := by decide +kernel
theorem dL_law_401 : decode cL_law 401 = .ok (.iload_n 3, 1) := by decide +kernel
theorem dL_law_402 : decode cL_law 402 = .ok (.iconst 2, 1) := by decide +kernel
theorem dL_law_403 : decode cL_law 403 = .ok (.iadd, 1) := by decide +kernel
theorem dL_law_404 : decode cL_law 404 = .ok (.iaload, 1) := by decide +kernel
theorem dL_law_405 : decode cL_law 405 = .ok (.invokevirtual 43, 3) := by decide +kernel
theorem dL_law_408 : decode cL_law 408 = .ok (.if_icmp .eq 807, 3) := by decide +kernel
theorem dL_law_411 : decode cL_law 411 = .ok (.iconst 0, 1) := by decide +kernel
theorem dL_law_412 : decode cL_law 412 = .ok (.ireturn, 1) := by decide +kernel
theorem dL_law_413 : decode cL_law 413 = .ok (.aload_n 1, 1) := by decide +kernel
theorem dL_law_414 : decode cL_law 414 = .ok (.aload_n 0, 1) := by decide +kernel
theorem dL_law_415 : decode cL_law 415 = .ok (.iload_n 3, 1) := by decide +kernel
theorem dL_law_416 : decode cL_law 416 = .ok (.iconst 1, 1) := by decide +kernel
theorem dL_law_417 : decode cL_law 417 = .ok (.iadd, 1) := by decide +kernel
theorem dL_law_418 : decode cL_law 418 = .ok (.iaload, 1) := by decide +kernel
theorem dL_law_419 : decode cL_law 419 = .ok (.aload_n 0, 1) := by decide +kernel
theorem dL_law_420 : decode cL_law 420 = .ok (.iload_n 3, 1) := by decide +kernel
theorem dL_law_421 : decode cL_law 421 = .ok (.iconst 2, 1) := by decide +kernel
theorem dL_law_422 : decode cL_law 422 = .ok (.iadd, 1) := by decide +kernel
theorem dL_law_423 : decode cL_law 423 = .ok (.iaload, 1) := by decide +kernel
theorem dL_law_424 : decode cL_law 424 = .ok (.aload_n 0, 1) := by decide +kernel
theorem dL_law_425 : decode cL_law 425 = .ok (.iload_n 3, 1) := by decide +kernel
theorem dL_law_426 : decode cL_law 426 = .ok (.iconst 3, 1) := by decide +kernel
theorem dL_law_427 : decode cL_law 427 = .ok (.iadd, 1) := by decide +kernel
theorem dL_law_428 : decode cL_law 428 = .ok (.iaload, 1) := by decide +kernel
theorem dL_law_429 : decode cL_law 429 = .ok (.invokevirtual 44, 3) := by decide +kernel
theorem dL_law_432 : decode cL_law 432 = .ok (.aload_n 2, 1) := by decide +kernel
theorem dL_law_433 : decode cL_law 433 = .ok (.aload_n 0, 1) := by decide +kernel
theorem dL_law_434 : decode cL_law 434 = .ok (.iload_n 3, 1) := by decide +kernel
theorem dL_law_435 : decode cL_law 435 = .ok (.iconst 1, 1) := by decide +kernel
theorem dL_law_436 : decode cL_law 436 = .ok (.iadd, 1) := by decide +kernel
theorem dL_law_437 : decode cL_law 437 = .ok (.iaload, 1) := by decide +kernel
theorem dL_law_438 : decode cL_law 438 = .ok (.aload_n 0, 1) := by decide +kernel
theorem dL_law_439 : decode cL_law 439 = .ok (.iload_n 3, 1) := by decide +kernel
theorem dL_law_440 : decode cL_law 440 = .ok (.iconst 2, 1) := by decide +kernel
theorem dL_law_441 : decode cL_law 441 = .ok (.iadd, 1) := by decide +kernel
theorem dL_law_442 : decode cL_law 442 = .ok (.iaload, 1) := by decide +kernel
theorem dL_law_443 : decode cL_law 443 = .ok (.aload_n 0, 1) := by decide +kernel
theorem dL_law_444 : decode cL_law 444 = .ok (.iload_n 3, 1) := by decide +kernel
theorem dL_law_445 : decode cL_law 445 = .ok (.iconst 3, 1) := by decide +kernel
theorem dL_law_446 : decode cL_law 446 = .ok (.iadd, 1) := by decide +kernel
theorem dL_law_447 : decode cL_law 447 = .ok (.iaload, 1) := by decide +kernel
theorem dL_law_448 : decode cL_law 448 = .ok (.invokevirtual 47, 3) := by decide +kernel
theorem dL_law_451 : decode cL_law 451 = .ok (.if_icmp .eq 764, 3) := by decide +kernel
theorem dL_law_454 : decode cL_law 454 = .ok (.iconst 0, 1) := by decide +kernel
theorem dL_law_455 : decode cL_law 455 = .ok (.ireturn, 1) := by decide +kernel
theorem dL_law_456 : decode cL_law 456 = .ok (.aload_n 1, 1) := by decide +kernel
theorem dL_law_457 : decode cL_law 457 = .ok (.aload_n 0, 1) := by decide +kernel
theorem dL_law_458 : decode cL_law 458 = .ok (.iload_n 3, 1) := by decide +kernel
theorem dL_law_459 : decode cL_law 459 = .ok (.iconst 1, 1) := by decide +kernel
theorem dL_law_460 : decode cL_law 460 = .ok (.iadd, 1) := by decide +kernel
theorem dL_law_461 : decode cL_law 461 = .ok (.iaload, 1) := by decide +kernel
theorem dL_law_462 : decode cL_law 462 = .ok (.invokevirtual 48, 3) := by decide +kernel
theorem dL_law_465 : decode cL_law 465 = .ok (.aload_n 2, 1) := by decide +kernel
theorem dL_law_466 : decode cL_law 466 = .ok (.aload_n 0, 1) := by decide +kernel
theorem dL_law_467 : decode cL_law 467 = .ok (.iload_n 3, 1) := by decide +kernel
theorem dL_law_468 : decode cL_law 468 = .ok (.iconst 1, 1) := by decide +kernel
theorem dL_law_469 : decode cL_law 469 = .ok (.iadd, 1) := by decide +kernel
theorem dL_law_470 : decode cL_law 470 = .ok (.iaload, 1) := by decide +kernel
theorem dL_law_471 : decode cL_law 471 = .ok (.invokevirtual 51, 3) := by decide +kernel
theorem dL_law_474 : decode cL_law 474 = .ok (.if_icmp .eq 741, 3) := by decide +kernel
theorem dL_law_477 : decode cL_law 477 = .ok (.iconst 0, 1) := by decide +kernel
theorem dL_law_478 : decode cL_law 478 = .ok (.ireturn, 1) := by decide +kernel
theorem dL_law_479 : decode cL_law 479 = .ok (.aload_n 1, 1) := by decide +kernel
theorem dL_law_480 : decode cL_law 480 = .ok (.aload_n 0, 1) := by decide +kernel
theorem dL_law_481 : decode cL_law 481 = .ok (.iload_n 3, 1) := by decide +kernel
theorem dL_law_482 : decode cL_law 482 = .ok (.iconst 1, 1) := by decide +kernel
theorem dL_law_483 : decode cL_law 483 = .ok (.iadd, 1) := by decide +kernel
theorem dL_law_484 : decode cL_law 484 = .ok (.iaload, 1) := by decide +kernel
theorem dL_law_485 : decode cL_law 485 = .ok (.invokevirtual 52, 3) := by decide +kernel
theorem dL_law_488 : decode cL_law 488 = .ok (.aload_n 2, 1) := by decide +kernel
theorem dL_law_489 : decode cL_law 489 = .ok (.aload_n 0, 1) := by decide +kernel
theorem dL_law_490 : decode cL_law 490 = .ok (.iload_n 3, 1) := by decide +kernel
theorem dL_law_491 : decode cL_law 491 = .ok (.iconst 1, 1) := by decide +kernel
theorem dL_law_492 : decode cL_law 492 = .ok (.iadd, 1) := by decide +kernel
theorem dL_law_493 : decode cL_law 493 = .ok (.iaload, 1) := by decide +kernel
theorem dL_law_494 : decode cL_law 494 = .ok (.invokevirtual 55, 3) := by decide +kernel
theorem dL_law_497 : decode cL_law 497 = .ok (.if_icmp .eq 718, 3) := by decide +kernel
theorem dL_law_500 : decode cL_law 500 = .ok (.iconst 0, 1) := by decide +kernel
theorem dL_law_501 : decode cL_law 501 = .ok (.ireturn, 1) := by decide +kernel
theorem dL_law_502 : decode cL_law 502 = .ok (.aload_n 1, 1) := by decide +kernel
theorem dL_law_503 : decode cL_law 503 = .ok (.aload_n 0, 1) := by decide +kernel
theorem dL_law_504 : decode cL_law 504 = .ok (.iload_n 3, 1) := by decide +kernel
theorem dL_law_505 : decode cL_law 505 = .ok (.iconst 1, 1) := by decide +kernel
theorem dL_law_506 : decode cL_law 506 = .ok (.iadd, 1) := by decide +kernel
theorem dL_law_507 : decode cL_law 507 = .ok (.iaload, 1) := by decide +kernel
theorem dL_law_508 : decode cL_law 508 = .ok (.invokevirtual 56, 3) := by decide +kernel
theorem dL_law_511 : decode cL_law 511 = .ok (.aload_n 2, 1) := by decide +kernel
theorem dL_law_512 : decode cL_law 512 = .ok (.aload_n 0, 1) := by decide +kernel
theorem dL_law_513 : decode cL_law 513 = .ok (.iload_n 3, 1) := by decide +kernel
theorem dL_law_514 : decode cL_law 514 = .ok (.iconst 1, 1) := by decide +kernel
theorem dL_law_515 : decode cL_law 515 = .ok (.iadd, 1) := by decide +kernel
theorem dL_law_516 : decode cL_law 516 = .ok (.iaload, 1) := by decide +kernel
theorem dL_law_517 : decode cL_law 517 = .ok (.invokevirtual 59, 3) := by decide +kernel
theorem dL_law_520 : decode cL_law 520 = .ok (.if_icmp .eq 695, 3) := by decide +kernel
theorem dL_law_523 : decode cL_law 523 = .ok (.iconst 0, 1) := by decide +kernel
theorem dL_law_524 : decode cL_law 524 = .ok (.ireturn, 1) := by decide +kernel
theorem dL_law_525 : decode cL_law 525 = .ok (.aload_n 1, 1) := by decide +kernel
theorem dL_law_526 : decode cL_law 526 = .ok (.aload_n 0, 1) := by decide +kernel
theorem dL_law_527 : decode cL_law 527 = .ok (.iload_n 3, 1) := by decide +kernel
theorem dL_law_528 : decode cL_law 528 = .ok (.iconst 1, 1) := by decide +kernel
theorem dL_law_529 : decode cL_law 529 = .ok (.iadd, 1) := by decide +kernel
theorem dL_law_530 : decode cL_law 530 = .ok (.iaload, 1) := by decide +kernel
theorem dL_law_531 : decode cL_law 531 = .ok (.aload_n 0, 1) := by decide +kernel
theorem dL_law_532 : decode cL_law 532 = .ok (.iload_n 3, 1) := by decide +kernel
theorem dL_law_533 : decode cL_law 533 = .ok (.iconst 2, 1) := by decide +kernel
theorem dL_law_534 : decode cL_law 534 = .ok (.iadd, 1) := by decide +kernel
theorem dL_law_535 : decode cL_law 535 = .ok (.iaload, 1) := by decide +kernel
theorem dL_law_536 : decode cL_law 536 = .ok (.aload_n 0, 1) := by decide +kernel
theorem dL_law_537 : decode cL_law 537 = .ok (.iload_n 3, 1) := by decide +kernel
theorem dL_law_538 : decode cL_law 538 = .ok (.iconst 3, 1) := by decide +kernel
theorem dL_law_539 : decode cL_law 539 = .ok (.iadd, 1) := by decide +kernel
theorem dL_law_540 : decode cL_law 540 = .ok (.iaload, 1) := by decide +kernel
theorem dL_law_541 : decode cL_law 541 = .ok (.invokevirtual 60, 3) := by decide +kernel
theorem dL_law_544 : decode cL_law 544 = .ok (.aload_n 2, 1) := by decide +kernel
theorem dL_law_545 : decode cL_law 545 = .ok (.aload_n 0, 1) := by decide +kernel
theorem dL_law_546 : decode cL_law 546 = .ok (.iload_n 3, 1) := by decide +kernel
theorem dL_law_547 : decode cL_law 547 = .ok (.iconst 1, 1) := by decide +kernel
theorem dL_law_548 : decode cL_law 548 = .ok (.iadd, 1) := by decide +kernel
theorem dL_law_549 : decode cL_law 549 = .ok (.iaload, 1) := by decide +kernel
theorem dL_law_550 : decode cL_law 550 = .ok (.aload_n 0, 1) := by decide +kernel
theorem dL_law_551 : decode cL_law 551 = .ok (.iload_n 3, 1) := by decide +kernel
theorem dL_law_552 : decode cL_law 552 = .ok (.iconst 2, 1) := by decide +kernel
theorem dL_law_553 : decode cL_law 553 = .ok (.iadd, 1) := by decide +kernel
theorem dL_law_554 : decode cL_law 554 = .ok (.iaload, 1) := by decide +kernel
theorem dL_law_555 : decode cL_law 555 = .ok (.aload_n 0, 1) := by decide +kernel
theorem dL_law_556 : decode cL_law 556 = .ok (.iload_n 3, 1) := by decide +kernel
theorem dL_law_557 : decode cL_law 557 = .ok (.iconst 3, 1) := by decide +kernel
theorem dL_law_558 : decode cL_law 558 = .ok (.iadd, 1) := by decide +kernel
theorem dL_law_559 : decode cL_law 559 = .ok (.iaload, 1) := by decide +kernel
theorem dL_law_560 : decode cL_law 560 = .ok (.invokevirtual 63, 3) := by decide +kernel
theorem dL_law_563 : decode cL_law 563 = .ok (.if_icmp .eq 652, 3) := by decide +kernel
theorem dL_law_566 : decode cL_law 566 = .ok (.iconst 0, 1) := by decide +kernel
theorem dL_law_567 : decode cL_law 567 = .ok (.ireturn, 1) := by decide +kernel
theorem dL_law_568 : decode cL_law 568 = .ok (.aload_n 1, 1) := by decide +kernel
theorem dL_law_569 : decode cL_law 569 = .ok (.aload_n 0, 1) := by decide +kernel
theorem dL_law_570 : decode cL_law 570 = .ok (.iload_n 3, 1) := by decide +kernel
theorem dL_law_571 : decode cL_law 571 = .ok (.iconst 1, 1) := by decide +kernel
theorem dL_law_572 : decode cL_law 572 = .ok (.iadd, 1) := by decide +kernel
theorem dL_law_573 : decode cL_law 573 = .ok (.iaload, 1) := by decide +kernel
theorem dL_law_574 : decode cL_law 574 = .ok (.aload_n 0, 1) := by decide +kernel
theorem dL_law_575 : decode cL_law 575 = .ok (.iload_n 3, 1) := by decide +kernel
theorem dL_law_576 : decode cL_law 576 = .ok (.iconst 2, 1) := by decide +kernel
theorem dL_law_577 : decode cL_law 577 = .ok (.iadd, 1) := by decide +kernel
theorem dL_law_578 : decode cL_law 578 = .ok (.iaload, 1) := by decide +kernel
theorem dL_law_579 : decode cL_law 579 = .ok (.aload_n 0, 1) := by decide +kernel
theorem dL_law_580 : decode cL_law 580 = .ok (.iload_n 3, 1) := by decide +kernel
theorem dL_law_581 : decode cL_law 581 = .ok (.iconst 3, 1) := by decide +kernel
theorem dL_law_582 : decode cL_law 582 = .ok (.iadd, 1) := by decide +kernel
theorem dL_law_583 : decode cL_law 583 = .ok (.iaload, 1) := by decide +kernel
theorem dL_law_584 : decode cL_law 584 = .ok (.invokevirtual 64, 3) := by decide +kernel
theorem dL_law_587 : decode cL_law 587 = .ok (.aload_n 2, 1) := by decide +kernel
theorem dL_law_588 : decode cL_law 588 = .ok (.aload_n 0, 1) := by decide +kernel
theorem dL_law_589 : decode cL_law 589 = .ok (.iload_n 3, 1) := by decide +kernel
theorem dL_law_590 : decode cL_law 590 = .ok (.iconst 1, 1) := by decide +kernel
theorem dL_law_591 : decode cL_law 591 = .ok (.iadd, 1) := by decide +kernel
theorem dL_law_592 : decode cL_law 592 = .ok (.iaload, 1) := by decide +kernel
theorem dL_law_593 : decode cL_law 593 = .ok (.aload_n 0, 1) := by decide +kernel
theorem dL_law_594 : decode cL_law 594 = .ok (.iload_n 3, 1) := by decide +kernel
theorem dL_law_595 : decode cL_law 595 = .ok (.iconst 2, 1) := by decide +kernel
theorem dL_law_596 : decode cL_law 596 = .ok (.iadd, 1) := by decide +kernel
theorem dL_law_597 : decode cL_law 597 = .ok (.iaload, 1) := by decide +kernel
theorem dL_law_598 : decode cL_law 598 = .ok (.aload_n 0, 1) := by decide +kernel
theorem dL_law_599 : decode cL_law 599 = .ok (.iload_n 3, 1) := by decide +kernel
theorem dL_law_600 : decode cL_law 600 = .ok (.iconst 3, 1) := by decide +kernel
theorem dL_law_601 : decode cL_law 601 = .ok (.iadd, 1) := by decide +kernel
theorem dL_law_602 : decode cL_law 602 = .ok (.iaload, 1) := by decide +kernel
theorem dL_law_603 : decode cL_law 603 = .ok (.invokevirtual 67, 3) := by decide +kernel
theorem dL_law_606 : decode cL_law 606 = .ok (.if_icmp .eq 609, 3) := by decide +kernel
theorem dL_law_609 : decode cL_law 609 = .ok (.iconst 0, 1) := by decide +kernel
theorem dL_law_610 : decode cL_law 610 = .ok (.ireturn, 1) := by decide +kernel
theorem dL_law_611 : decode cL_law 611 = .ok (.aload_n 1, 1) := by decide +kernel
theorem dL_law_612 : decode cL_law 612 = .ok (.aload_n 0, 1) := by decide +kernel
theorem dL_law_613 : decode cL_law 613 = .ok (.iload_n 3, 1) := by decide +kernel
theorem dL_law_614 : decode cL_law 614 = .ok (.iconst 1, 1) := by decide +kernel
theorem dL_law_615 : decode cL_law 615 = .ok (.iadd, 1) := by decide +kernel
theorem dL_law_616 : decode cL_law 616 = .ok (.iaload, 1) := by decide +kernel
theorem dL_law_617 : decode cL_law 617 = .ok (.aload_n 0, 1) := by decide +kernel
theorem dL_law_618 : decode cL_law 618 = .ok (.iload_n 3, 1) := by decide +kernel
theorem dL_law_619 : decode cL_law 619 = .ok (.iconst 2, 1) := by decide +kernel
theorem dL_law_620 : decode cL_law 620 = .ok (.iadd, 1) := by decide +kernel
theorem dL_law_621 : decode cL_law 621 = .ok (.iaload, 1) := by decide +kernel
theorem dL_law_622 : decode cL_law 622 = .ok (.invokevirtual 68, 3) := by decide +kernel
theorem dL_law_625 : decode cL_law 625 = .ok (.aload_n 2, 1) := by decide +kernel
theorem dL_law_626 : decode cL_law 626 = .ok (.aload_n 0, 1) := by decide +kernel
theorem dL_law_627 : decode cL_law 627 = .ok (.iload_n 3, 1) := by decide +kernel
theorem dL_law_628 : decode cL_law 628 = .ok (.iconst 1, 1) := by decide +kernel
theorem dL_law_629 : decode cL_law 629 = .ok (.iadd, 1) := by decide +kernel
theorem dL_law_630 : decode cL_law 630 = .ok (.iaload, 1) := by decide +kernel
theorem dL_law_631 : decode cL_law 631 = .ok (.aload_n 0, 1) := by decide +kernel
theorem dL_law_632 : decode cL_law 632 = .ok (.iload_n 3, 1) := by decide +kernel
theorem dL_law_633 : decode cL_law 633 = .ok (.iconst 2, 1) := by decide +kernel
theorem dL_law_634 : decode cL_law 634 = .ok (.iadd, 1) := by decide +kernel
theorem dL_law_635 : decode cL_law 635 = .ok (.iaload, 1) := by decide +kernel
theorem dL_law_636 : decode cL_law 636 = .ok (.invokevirtual 71, 3) := by decide +kernel
theorem dL_law_639 : decode cL_law 639 = .ok (.if_icmp .eq 576, 3) := by decide +kernel
theorem dL_law_642 : decode cL_law 642 = .ok (.iconst 0, 1) := by decide +kernel
theorem dL_law_643 : decode cL_law 643 = .ok (.ireturn, 1) := by decide +kernel
theorem dL_law_644 : decode cL_law 644 = .ok (.aload_n 1, 1) := by decide +kernel
theorem dL_law_645 : decode cL_law 645 = .ok (.aload_n 0, 1) := by decide +kernel
theorem dL_law_646 : decode cL_law 646 = .ok (.iload_n 3, 1) := by decide +kernel
theorem dL_law_647 : decode cL_law 647 = .ok (.iconst 1, 1) := by decide +kernel
theorem dL_law_648 : decode cL_law 648 = .ok (.iadd, 1) := by decide +kernel
theorem dL_law_649 : decode cL_law 649 = .ok (.iaload, 1) := by decide +kernel
theorem dL_law_650 : decode cL_law 650 = .ok (.aload_n 0, 1) := by decide +kernel
theorem dL_law_651 : decode cL_law 651 = .ok (.iload_n 3, 1) := by decide +kernel
theorem dL_law_652 : decode cL_law 652 = .ok (.iconst 2, 1) := by decide +kernel
theorem dL_law_653 : decode cL_law 653 = .ok (.iadd, 1) := by decide +kernel
theorem dL_law_654 : decode cL_law 654 = .ok (.iaload, 1) := by decide +kernel
theorem dL_law_655 : decode cL_law 655 = .ok (.aload_n 0, 1) := by decide +kernel
theorem dL_law_656 : decode cL_law 656 = .ok (.iload_n 3, 1) := by decide +kernel
theorem dL_law_657 : decode cL_law 657 = .ok (.iconst 3, 1) := by decide +kernel
theorem dL_law_658 : decode cL_law 658 = .ok (.iadd, 1) := by decide +kernel
theorem dL_law_659 : decode cL_law 659 = .ok (.iaload, 1) := by decide +kernel
theorem dL_law_660 : decode cL_law 660 = .ok (.invokevirtual 72, 3) := by decide +kernel
theorem dL_law_663 : decode cL_law 663 = .ok (.aload_n 2, 1) := by decide +kernel
theorem dL_law_664 : decode cL_law 664 = .ok (.aload_n 0, 1) := by decide +kernel
theorem dL_law_665 : decode cL_law 665 = .ok (.iload_n 3, 1) := by decide +kernel
theorem dL_law_666 : decode cL_law 666 = .ok (.iconst 1, 1) := by decide +kernel
theorem dL_law_667 : decode cL_law 667 = .ok (.iadd, 1) := by decide +kernel
theorem dL_law_668 : decode cL_law 668 = .ok (.iaload, 1) := by decide +kernel
theorem dL_law_669 : decode cL_law 669 = .ok (.aload_n 0, 1) := by decide +kernel
theorem dL_law_670 : decode cL_law 670 = .ok (.iload_n 3, 1) := by decide +kernel
theorem dL_law_671 : decode cL_law 671 = .ok (.iconst 2, 1) := by decide +kernel
theorem dL_law_672 : decode cL_law 672 = .ok (.iadd, 1) := by decide +kernel
theorem dL_law_673 : decode cL_law 673 = .ok (.iaload, 1) := by decide +kernel
theorem dL_law_674 : decode cL_law 674 = .ok (.aload_n 0, 1) := by decide +kernel
theorem dL_law_675 : decode cL_law 675 = .ok (.iload_n 3, 1) := by decide +kernel
theorem dL_law_676 : decode cL_law 676 = .ok (.iconst 3, 1) := by decide +kernel
theorem dL_law_677 : decode cL_law 677 = .ok (.iadd, 1) := by decide +kernel
theorem dL_law_678 : decode cL_law 678 = .ok (.iaload, 1) := by decide +kernel
theorem dL_law_679 : decode cL_law 679 = .ok (.invokevirtual 75, 3) := by decide +kernel
theorem dL_law_682 : decode cL_law 682 = .ok (.if_icmp .eq 533, 3) := by decide +kernel
theorem dL_law_685 : decode cL_law 685 = .ok (.iconst 0, 1) := by decide +kernel
theorem dL_law_686 : decode cL_law 686 = .ok (.ireturn, 1) := by decide +kernel
theorem dL_law_687 : decode cL_law 687 = .ok (.aload_n 1, 1) := by decide +kernel
theorem dL_law_688 : decode cL_law 688 = .ok (.aload_n 0, 1) := by decide +kernel
theorem dL_law_689 : decode cL_law 689 = .ok (.iload_n 3, 1) := by decide +kernel
theorem dL_law_690 : decode cL_law 690 = .ok (.iconst 1, 1) := by decide +kernel
theorem dL_law_691 : decode cL_law 691 = .ok (.iadd, 1) := by decide +kernel
theorem dL_law_692 : decode cL_law 692 = .ok (.iaload, 1) := by decide +kernel
theorem dL_law_693 : decode cL_law 693 = .ok (.invokevirtual 76, 3) := by decide +kernel
theorem dL_law_696 : decode cL_law 696 = .ok (.aload_n 2, 1) := by decide +kernel
theorem dL_law_697 : decode cL_law 697 = .ok (.aload_n 0, 1) := by decide +kernel
theorem dL_law_698 : decode cL_law 698 = .ok (.iload_n 3, 1) := by decide +kernel
theorem dL_law_699 : decode cL_law 699 = .ok (.iconst 1, 1) := by decide +kernel
theorem dL_law_700 : decode cL_law 700 = .ok (.iadd, 1) := by decide +kernel
theorem dL_law_701 : decode cL_law 701 = .ok (.iaload, 1) := by decide +kernel
theorem dL_law_702 : decode cL_law 702 = .ok (.invokevirtual 79, 3) := by decide +kernel
theorem dL_law_705 : decode cL_law 705 = .ok (.if_icmp .eq 510, 3) := by decide +kernel
theorem dL_law_708 : decode cL_law 708 = .ok (.iconst 0, 1) := by decide +kernel
theorem dL_law_709 : decode cL_law 709 = .ok (.ireturn, 1) := by decide +kernel
theorem dL_law_710 : decode cL_law 710 = .ok (.aload_n 1, 1) := by decide +kernel
theorem dL_law_711 : decode cL_law 711 = .ok (.aload_n 0, 1) := by decide +kernel
theorem dL_law_712 : decode cL_law 712 = .ok (.iload_n 3, 1) := by decide +kernel
theorem dL_law_713 : decode cL_law 713 = .ok (.iconst 1, 1) := by decide +kernel
theorem dL_law_714 : decode cL_law 714 = .ok (.iadd, 1) := by decide +kernel
theorem dL_law_715 : decode cL_law 715 = .ok (.iaload, 1) := by decide +kernel
theorem dL_law_716 : decode cL_law 716 = .ok (.aload_n 0, 1) := by decide +kernel
theorem dL_law_717 : decode cL_law 717 = .ok (.iload_n 3, 1) := by decide +kernel
theorem dL_law_718 : decode cL_law 718 = .ok (.iconst 2, 1) := by decide +kernel
theorem dL_law_719 : decode cL_law 719 = .ok (.iadd, 1) := by decide +kernel
theorem dL_law_720 : decode cL_law 720 = .ok (.iaload, 1) := by decide +kernel
theorem dL_law_721 : decode cL_law 721 = .ok (.invokevirtual 80, 3) := by decide +kernel
theorem dL_law_724 : decode cL_law 724 = .ok (.aload_n 2, 1) := by decide +kernel
theorem dL_law_725 : decode cL_law 725 = .ok (.aload_n 0, 1) := by decide +kernel
theorem dL_law_726 : decode cL_law 726 = .ok (.iload_n 3, 1) := by decide +kernel
theorem dL_law_727 : decode cL_law 727 = .ok (.iconst 1, 1) := by decide +kernel
theorem dL_law_728 : decode cL_law 728 = .ok (.iadd, 1) := by decide +kernel
theorem dL_law_729 : decode cL_law 729 = .ok (.iaload, 1) := by decide +kernel
theorem dL_law_730 : decode cL_law 730 = .ok (.aload_n 0, 1) := by decide +kernel
theorem dL_law_731 : decode cL_law 731 = .ok (.iload_n 3, 1) := by decide +kernel
theorem dL_law_732 : decode cL_law 732 = .ok (.iconst 2, 1) := by decide +kernel
theorem dL_law_733 : decode cL_law 733 = .ok (.iadd, 1) := by decide +kernel
theorem dL_law_734 : decode cL_law 734 = .ok (.iaload, 1) := by decide +kernel
theorem dL_law_735 : decode cL_law 735 = .ok (.invokevirtual 83, 3) := by decide +kernel
theorem dL_law_738 : decode cL_law 738 = .ok (.if_icmp .eq 477, 3) := by decide +kernel
theorem dL_law_741 : decode cL_law 741 = .ok (.iconst 0, 1) := by decide +kernel
theorem dL_law_742 : decode cL_law 742 = .ok (.ireturn, 1) := by decide +kernel
theorem dL_law_743 : decode cL_law 743 = .ok (.aload_n 1, 1) := by decide +kernel
theorem dL_law_744 : decode cL_law 744 = .ok (.aload_n 0, 1) := by decide +kernel
theorem dL_law_745 : decode cL_law 745 = .ok (.iload_n 3, 1) := by decide +kernel
theorem dL_law_746 : decode cL_law 746 = .ok (.iconst 1, 1) := by decide +kernel
theorem dL_law_747 : decode cL_law 747 = .ok (.iadd, 1) := by decide +kernel
theorem dL_law_748 : decode cL_law 748 = .ok (.iaload, 1) := by decide +kernel
theorem dL_law_749 : decode cL_law 749 = .ok (.aload_n 0, 1) := by decide +kernel
theorem dL_law_750 : decode cL_law 750 = .ok (.iload_n 3, 1) := by decide +kernel
theorem dL_law_751 : decode cL_law 751 = .ok (.iconst 2, 1) := by decide +kernel
theorem dL_law_752 : decode cL_law 752 = .ok (.iadd, 1) := by decide +kernel
theorem dL_law_753 : decode cL_law 753 = .ok (.iaload, 1) := by decide +kernel
theorem dL_law_754 : decode cL_law 754 = .ok (.invokevirtual 84, 3) := by decide +kernel
theorem dL_law_757 : decode cL_law 757 = .ok (.aload_n 2, 1) := by decide +kernel
theorem dL_law_758 : decode cL_law 758 = .ok (.aload_n 0, 1) := by decide +kernel
theorem dL_law_759 : decode cL_law 759 = .ok (.iload_n 3, 1) := by decide +kernel
theorem dL_law_760 : decode cL_law 760 = .ok (.iconst 1, 1) := by decide +kernel
theorem dL_law_761 : decode cL_law 761 = .ok (.iadd, 1) := by decide +kernel
theorem dL_law_762 : decode cL_law 762 = .ok (.iaload, 1) := by decide +kernel
theorem dL_law_763 : decode cL_law 763 = .ok (.aload_n 0, 1) := by decide +kernel
theorem dL_law_764 : decode cL_law 764 = .ok (.iload_n 3, 1) := by decide +kernel
theorem dL_law_765 : decode cL_law 765 = .ok (.iconst 2, 1) := by decide +kernel
theorem dL_law_766 : decode cL_law 766 = .ok (.iadd, 1) := by decide +kernel
theorem dL_law_767 : decode cL_law 767 = .ok (.iaload, 1) := by decide +kernel
theorem dL_law_768 : decode cL_law 768 = .ok (.invokevirtual 87, 3) := by decide +kernel
theorem dL_law_771 : decode cL_law 771 = .ok (.if_icmp .eq 444, 3) := by decide +kernel
theorem dL_law_774 : decode cL_law 774 = .ok (.iconst 0, 1) := by decide +kernel
theorem dL_law_775 : decode cL_law 775 = .ok (.ireturn, 1) := by decide +kernel
theorem dL_law_776 : decode cL_law 776 = .ok (.aload_n 1, 1) := by decide +kernel
theorem dL_law_777 : decode cL_law 777 = .ok (.aload_n 0, 1) := by decide +kernel
theorem dL_law_778 : decode cL_law 778 = .ok (.iload_n 3, 1) := by decide +kernel
theorem dL_law_779 : decode cL_law 779 = .ok (.iconst 1, 1) := by decide +kernel
theorem dL_law_780 : decode cL_law 780 = .ok (.iadd, 1) := by decide +kernel
theorem dL_law_781 : decode cL_law 781 = .ok (.iaload, 1) := by decide +kernel
theorem dL_law_782 : decode cL_law 782 = .ok (.aload_n 0, 1) := by decide +kernel
theorem dL_law_783 : decode cL_law 783 = .ok (.iload_n 3, 1) := by decide +kernel
theorem dL_law_784 : decode cL_law 784 = .ok (.iconst 2, 1) := by decide +kernel
theorem dL_law_785 : decode cL_law 785 = .ok (.iadd, 1) := by decide +kernel
theorem dL_law_786 : decode cL_law 786 = .ok (.iaload, 1) := by decide +kernel
theorem dL_law_787 : decode cL_law 787 = .ok (.invokevirtual 88, 3) := by decide +kernel
theorem dL_law_790 : decode cL_law 790 = .ok (.aload_n 2, 1) := by decide +kernel
theorem dL_law_791 : decode cL_law 791 = .ok (.aload_n 0, 1) := by decide +kernel
theorem dL_law_792 : decode cL_law 792 = .ok (.iload_n 3, 1) := by decide +kernel
theorem dL_law_793 : decode cL_law 793 = .ok (.iconst 1, 1) := by decide +kernel
theorem dL_law_794 : decode cL_law 794 = .ok (.iadd, 1) := by decide +kernel
theorem dL_law_795 : decode cL_law 795 = .ok (.iaload, 1) := by decide +kernel
theorem dL_law_796 : decode cL_law 796 = .ok (.aload_n 0, 1) := by decide +kernel
theorem dL_law_797 : decode cL_law 797 = .ok (.iload_n 3, 1) := by decide +kernel
theorem dL_law_798 : decode cL_law 798 = .ok (.iconst 2, 1) := by decide +kernel
theorem dL_law_799 : decode cL_law 799 = .ok (.iadd, 1) := by decide +kernel
theorem dL_law_800 : decode cL_law 800 = .ok (.iaload, 1) := by decide +kernel
theorem dL_law_801 : decode cL_law 801 = .ok (.invokevirtual 91, 3) := by decide +kernel
theorem dL_law_804 : decode cL_law 804 = .ok (.if_icmp .eq 411, 3) := by decide +kernel
theorem dL_law_807 : decode cL_law 807 = .ok (.iconst 0, 1) := by decide +kernel
theorem dL_law_808 : decode cL_law 808 = .ok (.ireturn, 1) := by decide +kernel
theorem dL_law_809 : decode cL_law 809 = .ok (.aload_n 1, 1) := by decide +kernel
theorem dL_law_810 : decode cL_law 810 = .ok (.aload_n 0, 1) := by decide +kernel
theorem dL_law_811 : decode cL_law 811 = .ok (.iload_n 3, 1) := by decide +kernel
theorem dL_law_812 : decode cL_law 812 = .ok (.iconst 1, 1) := by decide +kernel
theorem dL_law_813 : decode cL_law 813 = .ok (.iadd, 1) := by decide +kernel
theorem dL_law_814 : decode cL_law 814 = .ok (.iaload, 1) := by decide +kernel
theorem dL_law_815 : decode cL_law 815 = .ok (.aload_n 0, 1) := by decide +kernel
theorem dL_law_816 : decode cL_law 816 = .ok (.iload_n 3, 1) := by decide +kernel
theorem dL_law_817 : decode cL_law 817 = .ok (.iconst 2, 1) := by decide +kernel
theorem dL_law_818 : decode cL_law 818 = .ok (.iadd, 1) := by decide +kernel
theorem dL_law_819 : decode cL_law 819 = .ok (.iaload, 1) := by decide +kernel
theorem dL_law_820 : decode cL_law 820 = .ok (.aload_n 0, 1) := by decide +kernel
theorem dL_law_821 : decode cL_law 821 = .ok (.iload_n 3, 1) := by decide +kernel
theorem dL_law_822 : decode cL_law 822 = .ok (.iconst 3, 1) := by decide +kernel
theorem dL_law_823 : decode cL_law 823 = .ok (.iadd, 1) := by decide +kernel
theorem dL_law_824 : decode cL_law 824 = .ok (.iaload, 1) := by decide +kernel
theorem dL_law_825 : decode cL_law 825 = .ok (.invokevirtual 92, 3) := by decide +kernel
theorem dL_law_828 : decode cL_law 828 = .ok (.aload_n 2, 1) := by decide +kernel
theorem dL_law_829 : decode cL_law 829 = .ok (.aload_n 0, 1) := by decide +kernel
theorem dL_law_830 : decode cL_law 830 = .ok (.iload_n 3, 1) := by decide +kernel
theorem dL_law_831 : decode cL_law 831 = .ok (.iconst 1, 1) := by decide +kernel
theorem dL_law_832 : decode cL_law 832 = .ok (.iadd, 1) := by decide +kernel
theorem dL_law_833 : decode cL_law 833 = .ok (.iaload, 1) := by decide +kernel
theorem dL_law_834 : decode cL_law 834 = .ok (.aload_n 0, 1) := by decide +kernel
theorem dL_law_835 : decode cL_law 835 = .ok (.iload_n 3, 1) := by decide +kernel
theorem dL_law_836 : decode cL_law 836 = .ok (.iconst 2, 1) := by decide +kernel
theorem dL_law_837 : decode cL_law 837 = .ok (.iadd, 1) := by decide +kernel
theorem dL_law_838 : decode cL_law 838 = .ok (.iaload, 1) := by decide +kernel
theorem dL_law_839 : decode cL_law 839 = .ok (.aload_n 0, 1) := by decide +kernel
theorem dL_law_840 : decode cL_law 840 = .ok (.iload_n 3, 1) := by decide +kernel
theorem dL_law_841 : decode cL_law 841 = .ok (.iconst 3, 1) := by decide +kernel
theorem dL_law_842 : decode cL_law 842 = .ok (.iadd, 1) := by decide +kernel
theorem dL_law_843 : decode cL_law 843 = .ok (.iaload, 1) := by decide +kernel
theorem dL_law_844 : decode cL_law 844 = .ok (.invokevirtual 95, 3) := by decide +kernel
theorem dL_law_847 : decode cL_law 847 = .ok (.if_icmp .eq 368, 3) := by decide +kernel
theorem dL_law_850 : decode cL_law 850 = .ok (.iconst 0, 1) := by decide +kernel
theorem dL_law_851 : decode cL_law 851 = .ok (.ireturn, 1) := by decide +kernel
theorem dL_law_852 : decode cL_law 852 = .ok (.aload_n 1, 1) := by decide +kernel
theorem dL_law_853 : decode cL_law 853 = .ok (.aload_n 0, 1) := by decide +kernel
theorem dL_law_854 : decode cL_law 854 = .ok (.iload_n 3, 1) := by decide +kernel
theorem dL_law_855 : decode cL_law 855 = .ok (.iconst 1, 1) := by decide +kernel
theorem dL_law_856 : decode cL_law 856 = .ok (.iadd, 1) := by decide +kernel
theorem dL_law_857 : decode cL_law 857 = .ok (.iaload, 1) := by decide +kernel
theorem dL_law_858 : decode cL_law 858 = .ok (.aload_n 0, 1) := by decide +kernel
theorem dL_law_859 : decode cL_law 859 = .ok (.iload_n 3, 1) := by decide +kernel
theorem dL_law_860 : decode cL_law 860 = .ok (.iconst 2, 1) := by decide +kernel
theorem dL_law_861 : decode cL_law 861 = .ok (.iadd, 1) := by decide +kernel
theorem dL_law_862 : decode cL_law 862 = .ok (.iaload, 1) := by decide +kernel
theorem dL_law_863 : decode cL_law 863 = .ok (.invokevirtual 96, 3) := by decide +kernel
theorem dL_law_866 : decode cL_law 866 = .ok (.aload_n 2, 1) := by decide +kernel
theorem dL_law_867 : decode cL_law 867 = .ok (.aload_n 0, 1) := by decide +kernel
theorem dL_law_868 : decode cL_law 868 = .ok (.iload_n 3, 1) := by decide +kernel
theorem dL_law_869 : decode cL_law 869 = .ok (.iconst 1, 1) := by decide +kernel
theorem dL_law_870 : decode cL_law 870 = .ok (.iadd, 1) := by decide +kernel
theorem dL_law_871 : decode cL_law 871 = .ok (.iaload, 1) := by decide +kernel
theorem dL_law_872 : decode cL_law 872 = .ok (.aload_n 0, 1) := by decide +kernel
theorem dL_law_873 : decode cL_law 873 = .ok (.iload_n 3, 1) := by decide +kernel
theorem dL_law_874 : decode cL_law 874 = .ok (.iconst 2, 1) := by decide +kernel
theorem dL_law_875 : decode cL_law 875 = .ok (.iadd, 1) := by decide +kernel
theorem dL_law_876 : decode cL_law 876 = .ok (.iaload, 1) := by decide +kernel
theorem dL_law_877 : decode cL_law 877 = .ok (.invokevirtual 99, 3) := by decide +kernel
theorem dL_law_880 : decode cL_law 880 = .ok (.if_icmp .eq 335, 3) := by decide +kernel
theorem dL_law_883 : decode cL_law 883 = .ok (.iconst 0, 1) := by decide +kernel
theorem dL_law_884 : decode cL_law 884 = .ok (.ireturn, 1) := by decide +kernel
theorem dL_law_885 : decode cL_law 885 = .ok (.aload_n 1, 1) := by decide +kernel
theorem dL_law_886 : decode cL_law 886 = .ok (.aload_n 0, 1) := by decide +kernel
theorem dL_law_887 : decode cL_law 887 = .ok (.iload_n 3, 1) := by decide +kernel
theorem dL_law_888 : decode cL_law 888 = .ok (.iconst 1, 1) := by decide +kernel
theorem dL_law_889 : decode cL_law 889 = .ok (.iadd, 1) := by decide +kernel
theorem dL_law_890 : decode cL_law 890 = .ok (.iaload, 1) := by decide +kernel
theorem dL_law_891 : decode cL_law 891 = .ok (.aload_n 0, 1) := by decide +kernel
theorem dL_law_892 : decode cL_law 892 = .ok (.iload_n 3, 1) := by decide +kernel
theorem dL_law_893 : decode cL_law 893 = .ok (.iconst 2, 1) := by decide +kernel
theorem dL_law_894 : decode cL_law 894 = .ok (.iadd, 1) := by decide +kernel
theorem dL_law_895 : decode cL_law 895 = .ok (.iaload, 1) := by decide +kernel
theorem dL_law_896 : decode cL_law 896 = .ok (.invokevirtual 100, 3) := by decide +kernel
theorem dL_law_899 : decode cL_law 899 = .ok (.aload_n 2, 1) := by decide +kernel
theorem dL_law_900 : decode cL_law 900 = .ok (.aload_n 0, 1) := by decide +kernel
theorem dL_law_901 : decode cL_law 901 = .ok (.iload_n 3, 1) := by decide +kernel
theorem dL_law_902 : decode cL_law 902 = .ok (.iconst 1, 1) := by decide +kernel
theorem dL_law_903 : decode cL_law 903 = .ok (.iadd, 1) := by decide +kernel
theorem dL_law_904 : decode cL_law 904 = .ok (.iaload, 1) := by decide +kernel
theorem dL_law_905 : decode cL_law 905 = .ok (.aload_n 0, 1) := by decide +kernel
theorem dL_law_906 : decode cL_law 906 = .ok (.iload_n 3, 1) := by decide +kernel
theorem dL_law_907 : decode cL_law 907 = .ok (.iconst 2, 1) := by decide +kernel
theorem dL_law_908 : decode cL_law 908 = .ok (.iadd, 1) := by decide +kernel
theorem dL_law_909 : decode cL_law 909 = .ok (.iaload, 1) := by decide +kernel
theorem dL_law_910 : decode cL_law 910 = .ok (.invokevirtual 103, 3) := by decide +kernel
theorem dL_law_913 : decode cL_law 913 = .ok (.if_icmp .eq 302, 3) := by decide +kernel
theorem dL_law_916 : decode cL_law 916 = .ok (.iconst 0, 1) := by decide +kernel
theorem dL_law_917 : decode cL_law 917 = .ok (.ireturn, 1) := by decide +kernel
theorem dL_law_918 : decode cL_law 918 = .ok (.aload_n 1, 1) := by decide +kernel
theorem dL_law_919 : decode cL_law 919 = .ok (.aload_n 0, 1) := by decide +kernel
theorem dL_law_920 : decode cL_law 920 = .ok (.iload_n 3, 1) := by decide +kernel
theorem dL_law_921 : decode cL_law 921 = .ok (.iconst 1, 1) := by decide +kernel
theorem dL_law_922 : decode cL_law 922 = .ok (.iadd, 1) := by decide +kernel
theorem dL_law_923 : decode cL_law 923 = .ok (.iaload, 1) := by decide +kernel
theorem dL_law_924 : decode cL_law 924 = .ok (.aload_n 0, 1) := by decide +kernel
theorem dL_law_925 : decode cL_law 925 = .ok (.iload_n 3, 1) := by decide +kernel
theorem dL_law_926 : decode cL_law 926 = .ok (.iconst 2, 1) := by decide +kernel
theorem dL_law_927 : decode cL_law 927 = .ok (.iadd, 1) := by decide +kernel
theorem dL_law_928 : decode cL_law 928 = .ok (.iaload, 1) := by decide +kernel
theorem dL_law_929 : decode cL_law 929 = .ok (.invokevirtual 104, 3) := by decide +kernel
theorem dL_law_932 : decode cL_law 932 = .ok (.aload_n 2, 1) := by decide +kernel
theorem dL_law_933 : decode cL_law 933 = .ok (.aload_n 0, 1) := by decide +kernel
theorem dL_law_934 : decode cL_law 934 = .ok (.iload_n 3, 1) := by decide +kernel
theorem dL_law_935 : decode cL_law 935 = .ok (.iconst 1, 1) := by decide +kernel
theorem dL_law_936 : decode cL_law 936 = .ok (.iadd, 1) := by decide +kernel
theorem dL_law_937 : decode cL_law 937 = .ok (.iaload, 1) := by decide +kernel
theorem dL_law_938 : decode cL_law 938 = .ok (.aload_n 0, 1) := by decide +kernel
theorem dL_law_939 : decode cL_law 939 = .ok (.iload_n 3, 1) := by decide +kernel
theorem dL_law_940 : decode cL_law 940 = .ok (.iconst 2, 1) := by decide +kernel
theorem dL_law_941 : decode cL_law 941 = .ok (.iadd, 1) := by decide +kernel
theorem dL_law_942 : decode cL_law 942 = .ok (.iaload, 1) := by decide +kernel
theorem dL_law_943 : decode cL_law 943 = .ok (.invokevirtual 107, 3) := by decide +kernel
theorem dL_law_946 : decode cL_law 946 = .ok (.if_icmp .eq 269, 3) := by decide +kernel
theorem dL_law_949 : decode cL_law 949 = .ok (.iconst 0, 1) := by decide +kernel
theorem dL_law_950 : decode cL_law 950 = .ok (.ireturn, 1) := by decide +kernel
theorem dL_law_951 : decode cL_law 951 = .ok (.aload_n 1, 1) := by decide +kernel
theorem dL_law_952 : decode cL_law 952 = .ok (.aload_n 0, 1) := by decide +kernel
theorem dL_law_953 : decode cL_law 953 = .ok (.iload_n 3, 1) := by decide +kernel
theorem dL_law_954 : decode cL_law 954 = .ok (.iconst 1, 1) := by decide +kernel
theorem dL_law_955 : decode cL_law 955 = .ok (.iadd, 1) := by decide +kernel
theorem dL_law_956 : decode cL_law 956 = .ok (.iaload, 1) := by decide +kernel
theorem dL_law_957 : decode cL_law 957 = .ok (.aload_n 0, 1) := by decide +kernel
theorem dL_law_958 : decode cL_law 958 = .ok (.iload_n 3, 1) := by decide +kernel
theorem dL_law_959 : decode cL_law 959 = .ok (.iconst 2, 1) := by decide +kernel
theorem dL_law_960 : decode cL_law 960 = .ok (.iadd, 1) := by decide +kernel
theorem dL_law_961 : decode cL_law 961 = .ok (.iaload, 1) := by decide +kernel
theorem dL_law_962 : decode cL_law 962 = .ok (.invokevirtual 108, 3) := by decide +kernel
theorem dL_law_965 : decode cL_law 965 = .ok (.aload_n 2, 1) := by decide +kernel
theorem dL_law_966 : decode cL_law 966 = .ok (.aload_n 0, 1) := by decide +kernel
theorem dL_law_967 : decode cL_law 967 = .ok (.iload_n 3, 1) := by decide +kernel
theorem dL_law_968 : decode cL_law 968 = .ok (.iconst 1, 1) := by decide +kernel
theorem dL_law_969 : decode cL_law 969 = .ok (.iadd, 1) := by decide +kernel
theorem dL_law_970 : decode cL_law 970 = .ok (.iaload, 1) := by decide +kernel
theorem dL_law_971 : decode cL_law 971 = .ok (.aload_n 0, 1) := by decide +kernel
theorem dL_law_972 : decode cL_law 972 = .ok (.iload_n 3, 1) := by decide +kernel
theorem dL_law_973 : decode cL_law 973 = .ok (.iconst 2, 1) := by decide +kernel
theorem dL_law_974 : decode cL_law 974 = .ok (.iadd, 1) := by decide +kernel
theorem dL_law_975 : decode cL_law 975 = .ok (.iaload, 1) := by decide +kernel
theorem dL_law_976 : decode cL_law 976 = .ok (.invokevirtual 111, 3) := by decide +kernel
theorem dL_law_979 : decode cL_law 979 = .ok (.if_icmp .eq 236, 3) := by decide +kernel
theorem dL_law_982 : decode cL_law 982 = .ok (.iconst 0, 1) := by decide +kernel
theorem dL_law_983 : decode cL_law 983 = .ok (.ireturn, 1) := by decide +kernel
theorem dL_law_984 : decode cL_law 984 = .ok (.aload_n 1, 1) := by decide +kernel
theorem dL_law_985 : decode cL_law 985 = .ok (.aload_n 0, 1) := by decide +kernel
theorem dL_law_986 : decode cL_law 986 = .ok (.iload_n 3, 1) := by decide +kernel
theorem dL_law_987 : decode cL_law 987 = .ok (.iconst 1, 1) := by decide +kernel
theorem dL_law_988 : decode cL_law 988 = .ok (.iadd, 1) := by decide +kernel
theorem dL_law_989 : decode cL_law 989 = .ok (.iaload, 1) := by decide +kernel
theorem dL_law_990 : decode cL_law 990 = .ok (.invokevirtual 112, 3) := by decide +kernel
theorem dL_law_993 : decode cL_law 993 = .ok (.aload_n 2, 1) := by decide +kernel
theorem dL_law_994 : decode cL_law 994 = .ok (.aload_n 0, 1) := by decide +kernel
theorem dL_law_995 : decode cL_law 995 = .ok (.iload_n 3, 1) := by decide +kernel
theorem dL_law_996 : decode cL_law 996 = .ok (.iconst 1, 1) := by decide +kernel
theorem dL_law_997 : decode cL_law 997 = .ok (.iadd, 1) := by decide +kernel
theorem dL_law_998 : decode cL_law 998 = .ok (.iaload, 1) := by decide +kernel
theorem dL_law_999 : decode cL_law 999 = .ok (.invokevirtual 115, 3) := by decide +kernel
theorem dL_law_1002 : decode cL_law 1002 = .ok (.if_icmp .eq 213, 3) := by decide +kernel
theorem dL_law_1005 : decode cL_law 1005 = .ok (.iconst 0, 1) := by decide +kernel
theorem dL_law_1006 : decode cL_law 1006 = .ok (.ireturn, 1) := by decide +kernel
theorem dL_law_1007 : decode cL_law 1007 = .ok (.aload_n 1, 1) := by decide +kernel
theorem dL_law_1008 : decode cL_law 1008 = .ok (.aload_n 0, 1) := by decide +kernel
theorem dL_law_1009 : decode cL_law 1009 = .ok (.iload_n 3, 1) := by decide +kernel
theorem dL_law_1010 : decode cL_law 1010 = .ok (.iconst 1, 1) := by decide +kernel
theorem dL_law_1011 : decode cL_law 1011 = .ok (.iadd, 1) := by decide +kernel
theorem dL_law_1012 : decode cL_law 1012 = .ok (.iaload, 1) := by decide +kernel
theorem dL_law_1013 : decode cL_law 1013 = .ok (.invokevirtual 116, 3) := by decide +kernel
theorem dL_law_1016 : decode cL_law 1016 = .ok (.aload_n 2, 1) := by decide +kernel
theorem dL_law_1017 : decode cL_law 1017 = .ok (.aload_n 0, 1) := by decide +kernel
theorem dL_law_1018 : decode cL_law 1018 = .ok (.iload_n 3, 1) := by decide +kernel
theorem dL_law_1019 : decode cL_law 1019 = .ok (.iconst 1, 1) := by decide +kernel
theorem dL_law_1020 : decode cL_law 1020 = .ok (.iadd, 1) := by decide +kernel
theorem dL_law_1021 : decode cL_law 1021 = .ok (.iaload, 1) := by decide +kernel
theorem dL_law_1022 : decode cL_law 1022 = .ok (.invokevirtual 119, 3) := by decide +kernel
theorem dL_law_1025 : decode cL_law 1025 = .ok (.if_icmp .eq 190, 3) := by decide +kernel
theorem dL_law_1028 : decode cL_law 1028 = .ok (.iconst 0, 1) := by decide +kernel
theorem dL_law_1029 : decode cL_law 1029 = .ok (.ireturn, 1) := by decide +kernel
theorem dL_law_1030 : decode cL_law 1030 = .ok (.aload_n 1, 1) := by decide +kernel
theorem dL_law_1031 : decode cL_law 1031 = .ok (.aload_n 0, 1) := by decide +kernel
theorem dL_law_1032 : decode cL_law 1032 = .ok (.iload_n 3, 1) := by decide +kernel
theorem dL_law_1033 : decode cL_law 1033 = .ok (.iconst 1, 1) := by decide +kernel
theorem dL_law_1034 : decode cL_law 1034 = .ok (.iadd, 1) := by decide +kernel
theorem dL_law_1035 : decode cL_law 1035 = .ok (.iaload, 1) := by decide +kernel
theorem dL_law_1036 : decode cL_law 1036 = .ok (.aload_n 0, 1) := by decide +kernel
theorem dL_law_1037 : decode cL_law 1037 = .ok (.iload_n 3, 1) := by decide +kernel
theorem dL_law_1038 : decode cL_law 1038 = .ok (.iconst 2, 1) := by decide +kernel
theorem dL_law_1039 : decode cL_law 1039 = .ok (.iadd, 1) := by decide +kernel
theorem dL_law_1040 : decode cL_law 1040 = .ok (.iaload, 1) := by decide +kernel
theorem dL_law_1041 : decode cL_law 1041 = .ok (.invokevirtual 120, 3) := by decide +kernel
theorem dL_law_1044 : decode cL_law 1044 = .ok (.aload_n 2, 1) := by decide +kernel
theorem dL_law_1045 : decode cL_law 1045 = .ok (.aload_n 0, 1) := by decide +kernel
theorem dL_law_1046 : decode cL_law 1046 = .ok (.iload_n 3, 1) := by decide +kernel
theorem dL_law_1047 : decode cL_law 1047 = .ok (.iconst 1, 1) := by decide +kernel
theorem dL_law_1048 : decode cL_law 1048 = .ok (.iadd, 1) := by decide +kernel
theorem dL_law_1049 : decode cL_law 1049 = .ok (.iaload, 1) := by decide +kernel
theorem dL_law_1050 : decode cL_law 1050 = .ok (.aload_n 0, 1) := by decide +kernel
theorem dL_law_1051 : decode cL_law 1051 = .ok (.iload_n 3, 1) := by decide +kernel
theorem dL_law_1052 : decode cL_law 1052 = .ok (.iconst 2, 1) := by decide +kernel
theorem dL_law_1053 : decode cL_law 1053 = .ok (.iadd, 1) := by decide +kernel
theorem dL_law_1054 : decode cL_law 1054 = .ok (.iaload, 1) := by decide +kernel
theorem dL_law_1055 : decode cL_law 1055 = .ok (.invokevirtual 123, 3) := by decide +kernel
theorem dL_law_1058 : decode cL_law 1058 = .ok (.if_icmp .eq 157, 3) := by decide +kernel
theorem dL_law_1061 : decode cL_law 1061 = .ok (.iconst 0, 1) := by decide +kernel
theorem dL_law_1062 : decode cL_law 1062 = .ok (.ireturn, 1) := by decide +kernel
theorem dL_law_1063 : decode cL_law 1063 = .ok (.aload_n 1, 1) := by decide +kernel
theorem dL_law_1064 : decode cL_law 1064 = .ok (.aload_n 0, 1) := by decide +kernel
theorem dL_law_1065 : decode cL_law 1065 = .ok (.iload_n 3, 1) := by decide +kernel
theorem dL_law_1066 : decode cL_law 1066 = .ok (.iconst 1, 1) := by decide +kernel
theorem dL_law_1067 : decode cL_law 1067 = .ok (.iadd, 1) := by decide +kernel
theorem dL_law_1068 : decode cL_law 1068 = .ok (.iaload, 1) := by decide +kernel
theorem dL_law_1069 : decode cL_law 1069 = .ok (.aload_n 0, 1) := by decide +kernel
theorem dL_law_1070 : decode cL_law 1070 = .ok (.iload_n 3, 1) := by decide +kernel
theorem dL_law_1071 : decode cL_law 1071 = .ok (.iconst 2, 1) := by decide +kernel
theorem dL_law_1072 : decode cL_law 1072 = .ok (.iadd, 1) := by decide +kernel
theorem dL_law_1073 : decode cL_law 1073 = .ok (.iaload, 1) := by decide +kernel
theorem dL_law_1074 : decode cL_law 1074 = .ok (.aload_n 0, 1) := by decide +kernel
theorem dL_law_1075 : decode cL_law 1075 = .ok (.iload_n 3, 1) := by decide +kernel
theorem dL_law_1076 : decode cL_law 1076 = .ok (.iconst 3, 1) := by decide +kernel
theorem dL_law_1077 : decode cL_law 1077 = .ok (.iadd, 1) := by decide +kernel
theorem dL_law_1078 : decode cL_law 1078 = .ok (.iaload, 1) := by decide +kernel
theorem dL_law_1079 : decode cL_law 1079 = .ok (.invokevirtual 124, 3) := by decide +kernel
theorem dL_law_1082 : decode cL_law 1082 = .ok (.aload_n 2, 1) := by decide +kernel
theorem dL_law_1083 : decode cL_law 1083 = .ok (.aload_n 0, 1) := by decide +kernel
theorem dL_law_1084 : decode cL_law 1084 = .ok (.iload_n 3, 1) := by decide +kernel
theorem dL_law_1085 : decode cL_law 1085 = .ok (.iconst 1, 1) := by decide +kernel
theorem dL_law_1086 : decode cL_law 1086 = .ok (.iadd, 1) := by decide +kernel
theorem dL_law_1087 : decode cL_law 1087 = .ok (.iaload, 1) := by decide +kernel
theorem dL_law_1088 : decode cL_law 1088 = .ok (.aload_n 0, 1) := by decide +kernel
theorem dL_law_1089 : decode cL_law 1089 = .ok (.iload_n 3, 1) := by decide +kernel
theorem dL_law_1090 : decode cL_law 1090 = .ok (.iconst 2, 1) := by decide +kernel
theorem dL_law_1091 : decode cL_law 1091 = .ok (.iadd, 1) := by decide +kernel
theorem dL_law_1092 : decode cL_law 1092 = .ok (.iaload, 1) := by decide +kernel
theorem dL_law_1093 : decode cL_law 1093 = .ok (.aload_n 0, 1) := by decide +kernel
theorem dL_law_1094 : decode cL_law 1094 = .ok (.iload_n 3, 1) := by decide +kernel
theorem dL_law_1095 : decode cL_law 1095 = .ok (.iconst 3, 1) := by decide +kernel
theorem dL_law_1096 : decode cL_law 1096 = .ok (.iadd, 1) := by decide +kernel
theorem dL_law_1097 : decode cL_law 1097 = .ok (.iaload, 1) := by decide +kernel
theorem dL_law_1098 : decode cL_law 1098 = .ok (.invokevirtual 127, 3) := by decide +kernel
theorem dL_law_1101 : decode cL_law 1101 = .ok (.if_icmp .eq 114, 3) := by decide +kernel
theorem dL_law_1104 : decode cL_law 1104 = .ok (.iconst 0, 1) := by decide +kernel
theorem dL_law_1105 : decode cL_law 1105 = .ok (.ireturn, 1) := by decide +kernel
theorem dL_law_1106 : decode cL_law 1106 = .ok (.aload_n 1, 1) := by decide +kernel
theorem dL_law_1107 : decode cL_law 1107 = .ok (.aload_n 0, 1) := by decide +kernel
theorem dL_law_1108 : decode cL_law 1108 = .ok (.iload_n 3, 1) := by decide +kernel
theorem dL_law_1109 : decode cL_law 1109 = .ok (.iconst 1, 1) := by decide +kernel
theorem dL_law_1110 : decode cL_law 1110 = .ok (.iadd, 1) := by decide +kernel
theorem dL_law_1111 : decode cL_law 1111 = .ok (.iaload, 1) := by decide +kernel
theorem dL_law_1112 : decode cL_law 1112 = .ok (.aload_n 0, 1) := by decide +kernel
theorem dL_law_1113 : decode cL_law 1113 = .ok (.iload_n 3, 1) := by decide +kernel
theorem dL_law_1114 : decode cL_law 1114 = .ok (.iconst 2, 1) := by decide +kernel
theorem dL_law_1115 : decode cL_law 1115 = .ok (.iadd, 1) := by decide +kernel
theorem dL_law_1116 : decode cL_law 1116 = .ok (.iaload, 1) := by decide +kernel
theorem dL_law_1117 : decode cL_law 1117 = .ok (.aload_n 0, 1) := by decide +kernel
theorem dL_law_1118 : decode cL_law 1118 = .ok (.iload_n 3, 1) := by decide +kernel
theorem dL_law_1119 : decode cL_law 1119 = .ok (.iconst 3, 1) := by decide +kernel
theorem dL_law_1120 : decode cL_law 1120 = .ok (.iadd, 1) := by decide +kernel
theorem dL_law_1121 : decode cL_law 1121 = .ok (.iaload, 1) := by decide +kernel
theorem dL_law_1122 : decode cL_law 1122 = .ok (.aload_n 0, 1) := by decide +kernel
theorem dL_law_1123 : decode cL_law 1123 = .ok (.iload_n 3, 1) := by decide +kernel
theorem dL_law_1124 : decode cL_law 1124 = .ok (.iconst 4, 1) := by decide +kernel
theorem dL_law_1125 : decode cL_law 1125 = .ok (.iadd, 1) := by decide +kernel
theorem dL_law_1126 : decode cL_law 1126 = .ok (.iaload, 1) := by decide +kernel
theorem dL_law_1127 : decode cL_law 1127 = .ok (.aload_n 0, 1) := by decide +kernel
theorem dL_law_1128 : decode cL_law 1128 = .ok (.iload_n 3, 1) := by decide +kernel
theorem dL_law_1129 : decode cL_law 1129 = .ok (.iconst 5, 1) := by decide +kernel
theorem dL_law_1130 : decode cL_law 1130 = .ok (.iadd, 1) := by decide +kernel
theorem dL_law_1131 : decode cL_law 1131 = .ok (.iaload, 1) := by decide +kernel
theorem dL_law_1132 : decode cL_law 1132 = .ok (.invokevirtual 128, 3) := by decide +kernel
theorem dL_law_1135 : decode cL_law 1135 = .ok (.aload_n 2, 1) := by decide +kernel
theorem dL_law_1136 : decode cL_law 1136 = .ok (.aload_n 0, 1) := by decide +kernel
theorem dL_law_1137 : decode cL_law 1137 = .ok (.iload_n 3, 1) := by decide +kernel
theorem dL_law_1138 : decode cL_law 1138 = .ok (.iconst 1, 1) := by decide +kernel
theorem dL_law_1139 : decode cL_law 1139 = .ok (.iadd, 1) := by decide +kernel
theorem dL_law_1140 : decode cL_law 1140 = .ok (.iaload, 1) := by decide +kernel
theorem dL_law_1141 : decode cL_law 1141 = .ok (.aload_n 0, 1) := by decide +kernel
theorem dL_law_1142 : decode cL_law 1142 = .ok (.iload_n 3, 1) := by decide +kernel
theorem dL_law_1143 : decode cL_law 1143 = .ok (.iconst 2, 1) := by decide +kernel
theorem dL_law_1144 : decode cL_law 1144 = .ok (.iadd, 1) := by decide +kernel
theorem dL_law_1145 : decode cL_law 1145 = .ok (.iaload, 1) := by decide +kernel
theorem dL_law_1146 : decode cL_law 1146 = .ok (.aload_n 0, 1) := by decide +kernel
theorem dL_law_1147 : decode cL_law 1147 = .ok (.iload_n 3, 1) := by decide +kernel
theorem dL_law_1148 : decode cL_law 1148 = .ok (.iconst 3, 1) := by decide +kernel
theorem dL_law_1149 : decode cL_law 1149 = .ok (.iadd, 1) := by decide +kernel
theorem dL_law_1150 : decode cL_law 1150 = .ok (.iaload, 1) := by decide +kernel
theorem dL_law_1151 : decode cL_law 1151 = .ok (.aload_n 0, 1) := by decide +kernel
theorem dL_law_1152 : decode cL_law 1152 = .ok (.iload_n 3, 1) := by decide +kernel
theorem dL_law_1153 : decode cL_law 1153 = .ok (.iconst 4, 1) := by decide +kernel
theorem dL_law_1154 : decode cL_law 1154 = .ok (.iadd, 1) := by decide +kernel
theorem dL_law_1155 : decode cL_law 1155 = .ok (.iaload, 1) := by decide +kernel
theorem dL_law_1156 : decode cL_law 1156 = .ok (.aload_n 0, 1) := by decide +kernel
theorem dL_law_1157 : decode cL_law 1157 = .ok (.iload_n 3, 1) := by decide +kernel
theorem dL_law_1158 : decode cL_law 1158 = .ok (.iconst 5, 1) := by decide +kernel
theorem dL_law_1159 : decode cL_law 1159 = .ok (.iadd, 1) := by decide +kernel
theorem dL_law_1160 : decode cL_law 1160 = .ok (.iaload, 1) := by decide +kernel
theorem dL_law_1161 : decode cL_law 1161 = .ok (.invokevirtual 132, 3) := by decide +kernel
theorem dL_law_1164 : decode cL_law 1164 = .ok (.if_icmp .eq 51, 3) := by decide +kernel
theorem dL_law_1167 : decode cL_law 1167 = .ok (.iconst 0, 1) := by decide +kernel
theorem dL_law_1168 : decode cL_law 1168 = .ok (.ireturn, 1) := by decide +kernel
theorem dL_law_1169 : decode cL_law 1169 = .ok (.aload_n 1, 1) := by decide +kernel
theorem dL_law_1170 : decode cL_law 1170 = .ok (.aload_n 0, 1) := by decide +kernel
theorem dL_law_1171 : decode cL_law 1171 = .ok (.iload_n 3, 1) := by decide +kernel
theorem dL_law_1172 : decode cL_law 1172 = .ok (.iconst 1, 1) := by decide +kernel
theorem dL_law_1173 : decode cL_law 1173 = .ok (.iadd, 1) := by decide +kernel
theorem dL_law_1174 : decode cL_law 1174 = .ok (.iaload, 1) := by decide +kernel
theorem dL_law_1175 : decode cL_law 1175 = .ok (.invokevirtual 133, 3) := by decide +kernel
theorem dL_law_1178 : decode cL_law 1178 = .ok (.aload_n 2, 1) := by decide +kernel
theorem dL_law_1179 : decode cL_law 1179 = .ok (.aload_n 0, 1) := by decide +kernel
theorem dL_law_1180 : decode cL_law 1180 = .ok (.iload_n 3, 1) := by decide +kernel
theorem dL_law_1181 : decode cL_law 1181 = .ok (.iconst 1, 1) := by decide +kernel
theorem dL_law_1182 : decode cL_law 1182 = .ok (.iadd, 1) := by decide +kernel
theorem dL_law_1183 : decode cL_law 1183 = .ok (.iaload, 1) := by decide +kernel
theorem dL_law_1184 : decode cL_law 1184 = .ok (.invokevirtual 136, 3) := by decide +kernel
theorem dL_law_1187 : decode cL_law 1187 = .ok (.if_icmp .eq 28, 3) := by decide +kernel
theorem dL_law_1190 : decode cL_law 1190 = .ok (.iconst 0, 1) := by decide +kernel
theorem dL_law_1191 : decode cL_law 1191 = .ok (.ireturn, 1) := by decide +kernel
theorem dL_law_1192 : decode cL_law 1192 = .ok (.aload_n 1, 1) := by decide +kernel
theorem dL_law_1193 : decode cL_law 1193 = .ok (.aload_n 0, 1) := by decide +kernel
theorem dL_law_1194 : decode cL_law 1194 = .ok (.iload_n 3, 1) := by decide +kernel
theorem dL_law_1195 : decode cL_law 1195 = .ok (.iconst 1, 1) := by decide +kernel
theorem dL_law_1196 : decode cL_law 1196 = .ok (.iadd, 1) := by decide +kernel
theorem dL_law_1197 : decode cL_law 1197 = .ok (.iaload, 1) := by decide +kernel
theorem dL_law_1198 : decode cL_law 1198 = .ok (.invokevirtual 137, 3) := by decide +kernel
theorem dL_law_1201 : decode cL_law 1201 = .ok (.aload_n 2, 1) := by decide +kernel
theorem dL_law_1202 : decode cL_law 1202 = .ok (.aload_n 0, 1) := by decide +kernel
theorem dL_law_1203 : decode cL_law 1203 = .ok (.iload_n 3, 1) := by decide +kernel
theorem dL_law_1204 : decode cL_law 1204 = .ok (.iconst 1, 1) := by decide +kernel
theorem dL_law_1205 : decode cL_law 1205 = .ok (.iadd, 1) := by decide +kernel
theorem dL_law_1206 : decode cL_law 1206 = .ok (.iaload, 1) := by decide +kernel
theorem dL_law_1207 : decode cL_law 1207 = .ok (.invokevirtual 140, 3) := by decide +kernel
theorem dL_law_1210 : decode cL_law 1210 = .ok (.if_icmp .eq 5, 3) := by decide +kernel
theorem dL_law_1213 : decode cL_law 1213 = .ok (.iconst 0, 1) := by decide +kernel
theorem dL_law_1214 : decode cL_law 1214 = .ok (.ireturn, 1) := by decide +kernel
theorem dL_law_1215 : decode cL_law 1215 = .ok (.iinc 3 6, 3) := by decide +kernel
theorem dL_law_1218 : decode cL_law 1218 = .ok (.goto (-1200), 3) := by decide +kernel
theorem dL_law_1221 : decode cL_law 1221 = .ok (.iconst 1, 1) := by decide +kernel
theorem dL_law_1222 : decode cL_law 1222 = .ok (.ireturn, 1) := by decide +kernel
end
section
theorem gd_mem {w : Cond} (i : Nat) (h : lw_tbl[i]? = some w) (hg : goodWord w = true) : w ∈ lw_tbl.filter goodWord := List.mem_filter.mpr ⟨List.mem_of_getElem? h, hg⟩
def gtbl : List Cond := lw_tbl.filter goodWord
theorem gt_mem {w : Cond} (i : Nat) (h : lw_tbl[i]? = some w) (hg : goodWord w = true) : w ∈ gtbl := gd_mem i h hg
theorem gt_good {w : Cond} (h : w ∈ gtbl) : (w.onTables && w.keeps) = true ∨ ∃ ty, w = .arrayClass ty := good_of_word (List.mem_filter.mp h).2
theorem gt_in {w : Cond} (h : w ∈ gtbl) : w ∈ lw_tbl := (List.mem_filter.mp h).1

abbrev Mem : Type := Nat → Nat → Int32
abbrev Kt : Type := Launch × va_G × (Nat → ClassId) × (Nat → Nat) × (Nat → Nat) × (Nat → Nat) × Nat × Value
def kL (K : Kt) : Launch := K.1
def kD (K : Kt) : va_G := K.2.1
def kC (K : Kt) : Nat → ClassId := K.2.2.1
def kA (K : Kt) : Nat → Nat := K.2.2.2.1
def kS (K : Kt) : Nat → Nat := K.2.2.2.2.1
def kV (K : Kt) : Nat → Nat := K.2.2.2.2.2.1
def kH (K : Kt) : Nat := K.2.2.2.2.2.2.1
def kF (K : Kt) : Value := K.2.2.2.2.2.2.2
def rf (K : Kt) (i : Nat) : Value := .ref (kA K i)
def sf (K : Kt) (i : Nat) : Value := .ref (kS K i)
def sv (K : Kt) (i : Nat) : Value := .ref (kV K i)
def hf (K : Kt) : Value := .ref (kH K)
def wr (M : Mem) (i j : Nat) (v : Int32) : Mem := va_up M i (va_up (M i) j v)

abbrev Desc : Type := (Nat × List (Option Nat)) ⊕ (Nat × Nat) ⊕ (Nat × List Nat)
def fldV (K : Kt) (m : Nat → Int32) : Nat → List (Option Nat) → List Value
  | _, [] => []
  | k, none :: r => .int (m k) :: fldV K m (k + 1) r
  | k, some q :: r => rf K q :: fldV K m (k + 1) r
def cellOf (K : Kt) (d : Desc) (m : Nat → Int32) : va_E := match d with
  | .inl (ci, fs) => .inr (ci, fldV K m 0 fs)
  | .inr (.inl (a, n)) => .inl (kC K a, n, .inl m)
  | .inr (.inr (a, rs)) => .inl (kC K a, rs.length, .inr (.inr (.inr (.inr (fun j => (rs[j]?).map (kA K))))))
def layL : List Desc := [
  .inl (9, [some 1, some 7, some 9, some 10, some 21, some 28, some 32, some 35, none, none]),
  .inl (2, [some 2, some 3, some 4, some 5, some 6, none]),
  .inr (.inl (0, 80)), .inr (.inl (0, 80)), .inr (.inl (0, 80)), .inr (.inl (0, 80)), .inr (.inl (0, 80)),
  .inl (8, [some 8, none]), .inr (.inl (1, 72)),
  .inl (6, [some 7, none, none, none]),
  .inl (4, [some 11, none]), .inr (.inr (3, [12, 13, 14, 15, 16, 17, 18, 19, 20])),
  .inl (3, [none, none, none, none, none, none, none, none]), .inl (3, [none, none, none, none, none, none, none, none]), .inl (3, [none, none, none, none, none, none, none, none]),
  .inl (3, [none, none, none, none, none, none, none, none]), .inl (3, [none, none, none, none, none, none, none, none]), .inl (3, [none, none, none, none, none, none, none, none]),
  .inl (3, [none, none, none, none, none, none, none, none]), .inl (3, [none, none, none, none, none, none, none, none]), .inl (3, [none, none, none, none, none, none, none, none]),
  .inl (5, [some 22, some 27]), .inr (.inr (4, [23, 24])),
  .inl (7, [some 25, none]), .inl (7, [some 26, none]), .inr (.inl (1, 120)), .inr (.inl (1, 120)), .inr (.inl (0, 120)),
  .inl (1, [some 29, some 30, some 31, none, none]), .inr (.inl (0, 100)), .inr (.inl (0, 100)), .inr (.inl (0, 100)),
  .inl (0, [some 33, some 34, none, none]), .inr (.inl (0, 120)), .inr (.inl (0, 120)),
  .inr (.inl (2, 120)),
  .inl (10, [none, none, some 37, some 38, some 39, some 40, some 41, some 42, some 43, none, some 44, some 45, some 46, some 47, some 48, some 49, some 50, some 51, none, some 52, some 53, some 54, none, none, some 55, none, some 56, some 57, none, none, none, none, some 58, some 59, some 60, some 61]),
  .inr (.inl (0, 80)), .inr (.inl (0, 80)), .inr (.inl (0, 80)), .inr (.inl (0, 80)), .inr (.inl (0, 80)), .inr (.inl (0, 120)), .inr (.inl (2, 120)),
  .inr (.inl (0, 8)), .inr (.inl (0, 8)), .inr (.inl (0, 8)), .inr (.inl (0, 8)), .inr (.inl (0, 8)), .inr (.inl (0, 8)), .inr (.inl (0, 8)), .inr (.inl (0, 8)),
  .inr (.inl (0, 100)), .inr (.inl (0, 100)), .inr (.inl (0, 100)), .inr (.inl (0, 72)), .inr (.inl (0, 2)), .inr (.inl (0, 240)), .inr (.inl (0, 7)), .inr (.inl (0, 120)), .inr (.inl (0, 120)), .inr (.inl (0, 120))]
def wldF (K : Kt) (M : Mem) : Nat → List Desc → va_W
  | _, [] => []
  | i, d :: r => (kA K i, cellOf K d (M i)) :: wldF K M (i + 1) r
def wld (K : Kt) (M : Mem) : va_W := wldF K M 0 layL
def tyL (K : Kt) : List (ClassId × FieldType) := [(kC K 0, .int), (kC K 1, .byte), (kC K 2, .boolean), (kC K 3, .object "ChildPay$Law"), (kC K 4, .object "ChildPay$Sheet")]

theorem fldV_get (K : Kt) (m : Nat → Int32) : ∀ (fs : List (Option Nat)) (k j : Nat), (fldV K m k fs)[j]? = (fs[j]?).map (fun f => match f with | none => Value.int (m (k + j)) | some q => rf K q)
  | [], k, j => by simp [fldV]
  | none :: r, k, 0 => by simp [fldV]
  | some q :: r, k, 0 => by simp [fldV]
  | none :: r, k, j + 1 => by simp only [fldV, List.getElem?_cons_succ, fldV_get K m r (k + 1) j]; congr 1; funext f; cases f <;> simp [Nat.add_assoc, Nat.add_comm 1 j]
  | some q :: r, k, j + 1 => by simp only [fldV, List.getElem?_cons_succ, fldV_get K m r (k + 1) j]; congr 1; funext f; cases f <;> simp [Nat.add_assoc, Nat.add_comm 1 j]
theorem fldV_len (K : Kt) (m : Nat → Int32) : ∀ (fs : List (Option Nat)) (k : Nat), (fldV K m k fs).length = fs.length
  | [], k => rfl
  | none :: r, k => by simp [fldV, fldV_len K m r (k + 1)]
  | some q :: r, k => by simp [fldV, fldV_len K m r (k + 1)]
theorem fldV_up (K : Kt) (m : Nat → Int32) (v : Int32) : ∀ (fs : List (Option Nat)) (k j : Nat), j < k → fldV K (va_up m j v) k fs = fldV K m k fs
  | [], k, j, _ => rfl
  | none :: r, k, j, h => by
    have h1 : va_up m j v k = m k := by simp [va_up]; omega
    simp [fldV, h1, fldV_up K m v r (k + 1) j (by omega)]
  | some q :: r, k, j, h => by simp [fldV, fldV_up K m v r (k + 1) j (by omega)]
theorem fldV_set (K : Kt) (m : Nat → Int32) (v : Int32) : ∀ (fs : List (Option Nat)) (k j : Nat), fs[j]? = some none → (fldV K m k fs).set j (.int v) = fldV K (va_up m (k + j) v) k fs
  | [], k, j, h => by simp at h
  | none :: r, k, 0, _ => by simp [fldV, va_up, fldV_up K m v r (k + 1) k (by omega)]
  | some q :: r, k, 0, h => by simp at h
  | none :: r, k, j + 1, h => by
    have h1 : va_up m (k + (j + 1)) v k = m k := by simp [va_up]
    have e : k + (j + 1) = (k + 1) + j := by omega
    simp only [fldV, List.set_cons_succ, h1]
    rw [fldV_set K m v r (k + 1) j (by simpa using h), e]
  | some q :: r, k, j + 1, h => by
    have e : k + (j + 1) = (k + 1) + j := by omega
    simp only [fldV, List.set_cons_succ]
    rw [fldV_set K m v r (k + 1) j (by simpa using h), e]
theorem wldF_get (K : Kt) (M : Mem) : ∀ (L : List Desc) (i j : Nat), (wldF K M i L)[j]? = (L[j]?).map (fun d => (kA K (i + j), cellOf K d (M (i + j))))
  | [], i, j => by simp [wldF]
  | d :: r, i, 0 => by simp [wldF]
  | d :: r, i, j + 1 => by simp only [wldF, List.getElem?_cons_succ, wldF_get K M r (i + 1) j]; congr 1; funext d; simp [Nat.add_assoc, Nat.add_comm 1 j]
theorem wldF_up (K : Kt) (M : Mem) (m : Nat → Int32) : ∀ (L : List Desc) (i j : Nat), j < i → wldF K (va_up M j m) i L = wldF K M i L
  | [], i, j, _ => rfl
  | d :: r, i, j, h => by
    have h1 : va_up M j m i = M i := by simp [va_up]; omega
    simp [wldF, h1, wldF_up K M m r (i + 1) j (by omega)]
theorem wldF_set (K : Kt) (M : Mem) (m : Nat → Int32) : ∀ (L : List Desc) (i j : Nat) (d : Desc), L[j]? = some d → (wldF K M i L).set j (kA K (i + j), cellOf K d m) = wldF K (va_up M (i + j) m) i L
  | [], i, j, d, h => by simp at h
  | d0 :: r, i, 0, d, h => by
    simp at h
    subst h
    have h1 : va_up M i m i = m := by simp [va_up]
    simp [wldF, h1, wldF_up K M m r (i + 1) i (by omega)]
  | d0 :: r, i, j + 1, d, h => by
    have e : i + (j + 1) = (i + 1) + j := by omega
    have h1 : va_up M (i + (j + 1)) m i = M i := by simp [va_up]
    simp only [wldF, List.set_cons_succ, h1]
    rw [e, wldF_set K M m r (i + 1) j d (by simpa using h)]
theorem wld_get {K : Kt} {M : Mem} {i : Nat} {d : Desc} (h : layL[i]? = some d) : (wld K M)[i]? = some (kA K i, cellOf K d (M i)) := by
  unfold wld
  rw [wldF_get, h]
  simp
theorem wld_set {K : Kt} {M : Mem} {i : Nat} {d : Desc} {m : Nat → Int32} (h : layL[i]? = some d) : (wld K M).set i (kA K i, cellOf K d m) = wld K (va_up M i m) := by
  unfold wld
  have := wldF_set K M m layL 0 i d h
  simpa using this
theorem wld_ad {K : Kt} {M M' : Mem} {q : Nat} {k : Nat} {e : va_E} (h : (wld K M)[k]? = some (q, e)) : ∃ e', (wld K M')[k]? = some (q, e') := by
  unfold wld at h ⊢
  rw [wldF_get] at h ⊢
  cases hd : layL[k]? with
  | none => rw [hd] at h; simp at h
  | some d =>
    rw [hd] at h
    simp at h
    exact ⟨_, by simp; exact ⟨h.1, rfl⟩⟩
theorem wld_A {K : Kt} (M M' : Mem) {sz q : Nat} (h : va_A (wld K M) sz q) : va_A (wld K M') sz q := by
  rcases h with ⟨k, e, h⟩ | h
  · obtain ⟨e', h'⟩ := wld_ad (M' := M') h
    exact Or.inl ⟨k, e', h'⟩
  · exact Or.inr h
end
section
def slen : List Nat := [4, 4, 5, 5, 5, 4]
def sbyt : List (List Int32) := [[116, 97, 107, 101], [111, 118, 101, 114], [110, 105, 103, 104, 116], [111, 116, 104, 101, 114], [108, 101, 97, 115, 116], [109, 111, 115, 116]]
def sidx : List (Nat × String) := [(26, "take"), (48, "over"), (55, "night"), (64, "other"), (69, "least"), (73, "most")]
def htab : List Int32 := [0, 100, 150, 180, 200]
def nestM : List (String × Nat × MethodName) := [(RX2, 33, yX9_isBelow), (RX7, 25, yX9_isBelow), (RX7, 29, yX9_areNights), (RX6, 110, yX9_isBelow), (RX3, 25, yX9_isBelow)]
def sioN : String := "jdk/internal/util/Preconditions"
def sioD : String := "Ljava/util/function/BiFunction;"
/-- what stays as it is: links among nest mates, the constant row, the texts -/
def EV (K : Kt) (A : Nat → Prop) (U : State) : Prop :=
  (∀ q ∈ nestM, va_Nw (.methodLinkNest q.1 q.2.1 q.2.2 RX9) U) ∧ va_Nw (.fieldLinkNest RX3 19 RX9 "HUNDREDTHS_BY_CHILDREN" "[I" RX9) U ∧
  va_Z RX9 "HUNDREDTHS_BY_CHILDREN" "[I" (.ref (kH K)) A U U.heap ∧ va_T .int (kH K) 5 (fun j => .int (htab.getD j 0)) A U U.heap ∧
  va_Z "java/lang/String" "COMPACT_STRINGS" "Z" (.int 1) A U U.heap ∧ va_Z sioN "SIOOBE_FORMATTER" sioD (kF K) A U U.heap ∧
  vk_S 6 slen sbyt (kS K) (kV K) A U U.heap ∧ (∀ i q, sidx[i]? = some q → vk_R RX6 q.1 q.2 (kS K i) U) ∧ (kF K).category = 1

theorem EV.pass {K : Kt} {A B : Nat → Prop} {s U : State} (h : EV K A s) (hW : s.WarmedH U.vm) (hq : ∀ a : Nat, a < s.heap.size → ¬ A a → U.heap[a]? = s.heap[a]?) (hAB : ∀ q, B q → A q) : EV K B U := by
  obtain ⟨h1, h2, h3, h4, h5, h6, h7, h8, h9⟩ := h
  exact ⟨fun q hq' => va_Nw.warmM hW (h1 q hq'), va_Nw.warmF hW h2, ((h3.kept hq).moved hW.alike).narrow hAB, ((h4.kept hq).moved hW.alike).narrow hAB, ((h5.kept hq).moved hW.alike).narrow hAB, ((h6.kept hq).moved hW.alike).narrow hAB, ((h7.kept hq).moved hW.alike).narrow hAB, fun i q hi => vk_R.warm hW (h8 i q hi), h9⟩
theorem EV.call {K : Kt} {A : Nat → Prop} {U : State} {g : JFrame} {mk : MethodId} {a : Array Value} (h : EV K A U) : EV K A (U.calling g mk a) := by
  obtain ⟨h1, h2, h3, h4, h5, h6, h7, h8, h9⟩ := h
  exact ⟨fun q hq => va_Nw.same (u := U) rfl rfl (h1 q hq), va_Nw.same (u := U) rfl rfl h2, h3.moved (u := U) (Vm.Alike.refl U.vm), h4.moved (u := U) (Vm.Alike.refl U.vm), h5.moved (u := U) (Vm.Alike.refl U.vm), h6.moved (u := U) (Vm.Alike.refl U.vm), h7.moved (u := U) (Vm.Alike.refl U.vm), fun i q hi => vk_R.same (u := U) rfl (h8 i q hi), h9⟩

def lk : List (Nat × Value) → Nat → Option Value
  | [], _ => none
  | q :: r, i => bif Nat.beq q.1 i then some q.2 else lk r i
def lh (ls : Array Slot) (n : Nat) (l : List (Nat × Value)) : Prop := ls.size = n ∧ lv_wf ls ∧ ∀ (i : Nat) (v : Value), lk l i = some v → v.category = 1 ∧ ls[i]? = some (.val v)
def lsubs (l : List (Nat × Value)) : List (Nat × Value) → Prop
  | [] => True
  | q :: r => lk l q.1 = some q.2 ∧ lsubs l r
theorem lk_subs {l l' : List (Nat × Value)} (h : lsubs l l') : ∀ i v, lk l' i = some v → lk l i = some v := by
  induction l' with
  | nil => intro i v h'; simp [lk] at h'
  | cons q r ih =>
    intro i v h'
    simp only [lk] at h'
    cases hb : Nat.beq q.1 i with
    | true =>
      rw [hb] at h'
      simp at h'
      have := Nat.eq_of_beq_eq_true hb
      subst this
      rw [← h']
      exact h.1
    | false =>
      rw [hb] at h'
      simp at h'
      exact ih h.2 i v h'
theorem lh.sub {ls : Array Slot} {n : Nat} {l l' : List (Nat × Value)} (h : lh ls n l) (hs : lsubs l l') : lh ls n l' := ⟨h.1, h.2.1, fun i v hv => h.2.2 i v (lk_subs hs i v hv)⟩
theorem lh.has {ls : Array Slot} {n : Nat} {l : List (Nat × Value)} (h : lh ls n l) : lv_has ls n ((List.range n).filterMap (fun j => (lk l j).map (fun v => (j, v)))) := by
  refine ⟨h.1, h.2.1, fun q hq => ?_⟩
  obtain ⟨j, -, hj⟩ := List.mem_filterMap.mp hq
  cases hk : lk l j with
  | none => rw [hk] at hj; simp at hj
  | some v =>
    rw [hk] at hj
    simp at hj
    subst hj
    exact (h.2.2 j v hk).2
theorem lh.mem {ls : Array Slot} {n : Nat} {l : List (Nat × Value)} (h : lh ls n l) {j : Nat} {v : Value} (hk : lk l j = some v) : ∃ k : Nat, ((List.range n).filterMap (fun j => (lk l j).map (fun v => (j, v))))[k]? = some (j, v) := by
  have hj : j < n := by
    have := (h.2.2 j v hk).2
    rw [← h.1]
    exact (Array.getElem?_eq_some_iff.mp this).1
  have : (j, v) ∈ (List.range n).filterMap (fun j => (lk l j).map (fun v => (j, v))) := List.mem_filterMap.mpr ⟨j, List.mem_range.mpr hj, by rw [hk]; rfl⟩
  exact List.getElem?_of_mem this
theorem lh.put {ls ls' : Array Slot} {n i : Nat} {l : List (Nat × Value)} {v : Value} (h : lh ls n l) (hv : v.category = 1) (h' : lv_has ls' n ((i, v) :: ((List.range n).filterMap (fun j => (lk l j).map (fun v => (j, v)))).filter (fun q => !(q.1 == i) && !(q.1 + 1 == i && q.2.category == 2)))) : lh ls' n ((i, v) :: l) := by
  refine ⟨h'.1, h'.2.1, fun j w hj => ?_⟩
  simp only [lk] at hj
  cases hb : Nat.beq i j with
  | true =>
    rw [hb] at hj
    simp at hj
    have := Nat.eq_of_beq_eq_true hb
    subst this
    subst hj
    exact ⟨hv, h'.2.2 (i, v) List.mem_cons_self⟩
  | false =>
    rw [hb] at hj
    simp at hj
    have hne : ¬ i = j := fun e => by subst e; simp at hb
    obtain ⟨hc, hs⟩ := h.2.2 j w hj
    refine ⟨hc, h'.2.2 (j, w) (List.mem_cons_of_mem _ (List.mem_filter.mpr ⟨?_, ?_⟩))⟩
    · obtain ⟨k, hk⟩ := h.mem hj
      exact List.mem_of_getElem? hk
    · have h1 : ¬ j = i := fun e => hne e.symm
      simp [h1, hc]

abbrev Cx : Type := Program × Env × Room × State × MethodId × Array Value × List Frame × Method × Code × Nat × Nat × (State → Prop) × (Nat → Prop)
def G (K : Kt) (x : Cx) (nL : Nat) (pc : Nat) (lv : List (Nat × Value)) (st : List Value) (M : Mem) : Prop := match x with
  | (p, e, R, s, m, args, below, meth, c, cells, slots, Q, A) => ∀ (H : Heap) (locs : List Loc) (ls : Array Slot), va_P (kD K) vwCl (wld K M) H → va_D A (wld K M) → va_S A s.heap H locs → lh ls nL lv → W p (kL K) e R s m args below meth c H locs cells slots Q (F0 m pc ls st)
def Cok (K : Kt) (x : Cx) (own : String) (cc : ByteArray) (nL : Nat) (d : Nat) (Rp : Option Int32 → Mem → Prop) : Prop := match x with
  | (p, e, R, s, m, args, below, meth, c, cells, slots, Q, A) => p.tables.exec = Jvm.exec ∧ c.code = cc ∧ c.maxLocals = nL ∧ s.vm.findClass own = some m.cls ∧ (∀ w ∈ gtbl, w.before args s = true) ∧ va_K (kD K) vwCl (tyL K) s ∧ (∀ a, s.heap.size ≤ a → A a) ∧ EV K A s ∧ d ≤ R.frames ∧ 36 * d ≤ R.locals ∧ cells ≤ R.cells ∧ slots ≤ R.slots ∧
    (∀ (v : Int32) (M : Mem) (H : Heap) (locs : List Loc) (pc : Nat) (ls : Array Slot), Rp (some v) M → va_P (kD K) vwCl (wld K M) H → va_D A (wld K M) → va_S A s.heap H locs → decode cc pc = .ok (.ireturn, 1) → W p (kL K) e R s m args below meth c H locs cells slots Q (F0 m pc ls [.int v])) ∧
    (∀ (M : Mem) (H : Heap) (locs : List Loc) (pc : Nat) (ls : Array Slot), Rp none M → va_P (kD K) vwCl (wld K M) H → va_D A (wld K M) → va_S A s.heap H locs → decode cc pc = .ok (.return_, 1) → W p (kL K) e R s m args below meth c H locs cells slots Q (F0 m pc ls []))
abbrev Mt : Type := MethodName × ByteArray × Nat × Option FieldType
def mws (q : Mt) : List Cond := Cond.code q.1 q.2.1 q.2.2.1 q.2.2.2 :: gtbl
def rmD (d : Nat) : Room := { frames := d, cells := 0, slots := 0, locals := 36 * d }
def wB (K : Kt) (A : Nat → Prop) (M : Mem) (t : State) : Prop := va_P (kD K) vwCl (wld K M) t.heap ∧ va_K (kD K) vwCl (tyL K) t ∧ va_D A (wld K M)
def Pm (K : Kt) (sz : Nat) (M : Mem) (U : State) : Prop := U.heap.size = sz ∧ va_P (kD K) vwCl (wld K M) U.heap ∧ va_K (kD K) vwCl (tyL K) U ∧ va_D (fun _ => True) (wld K M) ∧ EV K (va_A (wld K M) sz) U
/-- a method that answers a number, by its contract -/
def Ci (K : Kt) (d : Nat) (q : Mt) (av : List Value) (M : Mem) (Q : Int32 → Mem → Prop) : Prop := ∀ sz, Met (kL K) q.1 (mws q) (rmD d) (va_Pc av (Pm K sz M)) (va_Qi Q (wB K (va_A (wld K M) sz)) (va_A (wld K M) sz)) 0 0 (va_A (wld K M) sz)
/-- a method that answers nothing -/
def Cv (K : Kt) (d : Nat) (q : Mt) (av : List Value) (M : Mem) (Q : Mem → Prop) : Prop := ∀ sz, Met (kL K) q.1 (mws q) (rmD d) (va_Pc av (Pm K sz M)) (va_Qv Q (wB K (va_A (wld K M) sz)) (va_A (wld K M) sz)) 0 0 (va_A (wld K M) sz)
def RI (Q : Int32 → Mem → Prop) : Option Int32 → Mem → Prop
  | some v => Q v
  | none => fun _ => False
def RV (Q : Mem → Prop) : Option Int32 → Mem → Prop
  | some _ => fun _ => False
  | none => Q
def la : Nat → List Value → List (Nat × Value)
  | _, [] => []
  | i, v :: r => (i, v) :: la (i + 1) r
theorem la_args : ∀ (av : List Value) (i : Nat), (∀ v ∈ av, v.category = 1) → lv_args i av = la i av
  | [], i, _ => rfl
  | v :: r, i, h => by
    have h1 := h v List.mem_cons_self
    have h2 := la_args r (i + 1) (fun w hw => h w (List.mem_cons_of_mem _ hw))
    simp [lv_args, la, h1, h2]
theorem la_ge : ∀ (av : List Value) (i : Nat) (q : Nat × Value), q ∈ la i av → i ≤ q.1
  | [], i, q, h => by simp [la] at h
  | v :: r, i, q, h => by
    simp only [la, List.mem_cons] at h
    rcases h with rfl | h
    · exact Nat.le_refl _
    · exact Nat.le_of_succ_le (la_ge r (i + 1) q h)
theorem lk_mem : ∀ (l : List (Nat × Value)) (i : Nat) (v : Value), lk l i = some v → (i, v) ∈ l
  | [], i, v, h => by simp [lk] at h
  | q :: r, i, v, h => by
    simp only [lk] at h
    cases hb : Nat.beq q.1 i with
    | true =>
      rw [hb] at h
      simp at h
      have := Nat.eq_of_beq_eq_true hb
      subst this
      subst h
      exact List.mem_cons_self
    | false =>
      rw [hb] at h
      simp at h
      exact List.mem_cons_of_mem _ (lk_mem r i v h)
theorem lh.entry {av : List Value} {n : Nat} (hc : ∀ v ∈ av, v.category = 1) (h : (lg_sl av).length ≤ n) : lh ((lg_sl av ++ List.replicate (n - (lg_sl av).length) Slot.unset).toArray) n (la 0 av) := by
  have h0 := lv_entry av h
  rw [la_args av 0 hc] at h0
  refine ⟨h0.1, h0.2.1, fun i v hv => ?_⟩
  have hm := lk_mem _ _ _ hv
  refine ⟨?_, h0.2.2 (i, v) hm⟩
  have key : ∀ (av : List Value) (i : Nat) (q : Nat × Value), q ∈ la i av → q.2 ∈ av := by
    intro av
    induction av with
    | nil => intro i q h; simp [la] at h
    | cons w r ih =>
      intro i q h
      simp only [la, List.mem_cons] at h
      rcases h with rfl | h
      · exact List.mem_cons_self
      · exact List.mem_cons_of_mem _ (ih _ _ h)
  exact hc v (key av 0 (i, v) hm)
theorem Pm.blind {K : Kt} {sz : Nat} {M : Mem} {av : List Value} : FrameBlind (va_Pc av (Pm K sz M)) := fun a U g mk q => by
  obtain ⟨q0, q1, qP, qK, qD, qE⟩ := q
  exact ⟨q0, q1, qP, va_K.moved (u := U) (U := U.calling g mk a) (Vm.Alike.refl U.vm) qK, qD, qE.call⟩
set_option maxHeartbeats 1000000 in
theorem Ci.ofG {K : Kt} {d : Nat} {y : MethodName} {cc : ByteArray} {nL : Nat} {ty : FieldType} {av : List Value} {M : Mem} {Q : Int32 → Mem → Prop} (own : String) (hown0 : y.cls = own) (hpl : plainName own = true) (hn : ∀ v N, Q v N → narrow ty (.int v) = .int v) (lv : List (Nat × Value)) (hlv : la 0 av = lv) (hlen : (lg_sl av).length ≤ nL) (hc : ∀ v ∈ av, v.category = 1)
    (body : ∀ x : Cx, Cok K x own cc nL d (RI Q) → G K x nL 0 lv [] M) : Ci K d (y, cc, nL, some ty) av M Q := by
  subst hown0
  intro sz
  refine Met.ofW (cc := cc) (maxL := nL) (ret := some ty) hpl rfl ?_
  intro p e s m args below meth c s₁ B hml hv
  obtain ⟨rfl, hsz, hP, hK, hD0, hE⟩ := hv
  subst hsz
  have hx := B.exec
  have hb := B.bytes
  have hr := B.returns
  have hts := atoms_spec (ws := mws (y, cc, nL, some ty)) B.pre
  have hown : s.vm.findClass y.cls = some m.cls := findClass_of_methodNamed B.named
  have hlocks := B.notSynchronized
  have hD := hD0.self (sz := s.heap.size)
  have hS : va_S (va_A (wld K M) s.heap.size) s.heap s.heap [] := va_S.rf
  have hl := lh.entry (n := nL) hc hlen
  rw [lg_entry_eq]
  refine body (p, e, rmD d, s, m, av.toArray, below, meth, c, 0, 0, MQ below (va_Qi Q (wB K (va_A (wld K M) s.heap.size)) (va_A (wld K M) s.heap.size)) av.toArray s 0 0 (va_A (wld K M) s.heap.size), va_A (wld K M) s.heap.size) ⟨hx, hb, hml, hown, fun w hw => hts w (List.mem_cons_of_mem _ hw), hK, fun a h => Or.inr h, hE, Nat.le_refl _, Nat.le_refl _, Nat.le_refl _, Nat.le_refl _, ?_, ?_⟩ _ _ _ hP hD hS (by rw [← hlv]; exact hl)
  · intro v N H locs pc ls hq hP hD hS hd
    exact W.zret (v := v) (ty := ty) hx hb hr (hn v N hq) (fun t ht hW => ⟨⟨v, N, rfl, hq, by rw [ht]; exact hP, va_K.moved hW.alike hK, hD⟩, hS.F ht⟩) hS.2.2 hd
  · intro N H locs pc ls hq
    exact hq.elim
set_option maxHeartbeats 1000000 in
theorem Cv.ofG {K : Kt} {d : Nat} {y : MethodName} {cc : ByteArray} {nL : Nat} {av : List Value} {M : Mem} {Q : Mem → Prop} (own : String) (hown0 : y.cls = own) (hpl : plainName own = true) (lv : List (Nat × Value)) (hlv : la 0 av = lv) (hlen : (lg_sl av).length ≤ nL) (hc : ∀ v ∈ av, v.category = 1)
    (body : ∀ x : Cx, Cok K x own cc nL d (RV Q) → G K x nL 0 lv [] M) : Cv K d (y, cc, nL, none) av M Q := by
  subst hown0
  intro sz
  refine Met.ofW (cc := cc) (maxL := nL) (ret := none) hpl rfl ?_
  intro p e s m args below meth c s₁ B hml hv
  obtain ⟨rfl, hsz, hP, hK, hD0, hE⟩ := hv
  subst hsz
  have hx := B.exec
  have hb := B.bytes
  have hr := B.returns
  have hts := atoms_spec (ws := mws (y, cc, nL, none)) B.pre
  have hown : s.vm.findClass y.cls = some m.cls := findClass_of_methodNamed B.named
  have hlocks := B.notSynchronized
  have hD := hD0.self (sz := s.heap.size)
  have hS : va_S (va_A (wld K M) s.heap.size) s.heap s.heap [] := va_S.rf
  have hl := lh.entry (n := nL) hc hlen
  rw [lg_entry_eq]
  refine body (p, e, rmD d, s, m, av.toArray, below, meth, c, 0, 0, MQ below (va_Qv Q (wB K (va_A (wld K M) s.heap.size)) (va_A (wld K M) s.heap.size)) av.toArray s 0 0 (va_A (wld K M) s.heap.size), va_A (wld K M) s.heap.size) ⟨hx, hb, hml, hown, fun w hw => hts w (List.mem_cons_of_mem _ hw), hK, fun a h => Or.inr h, hE, Nat.le_refl _, Nat.le_refl _, Nat.le_refl _, Nat.le_refl _, ?_, ?_⟩ _ _ _ hP hD hS (by rw [← hlv]; exact hl)
  · intro v N H locs pc ls hq
    exact hq.elim
  · intro N H locs pc ls hq hP hD hS hd
    exact W.vret hx hb hr (fun t ht hW => ⟨⟨N, rfl, hq, by rw [ht]; exact hP, va_K.moved hW.alike hK, hD⟩, hS.F ht⟩) hS.2.2 hd
end
section
section GR
variable {K : Kt} {x : Cx} {own : String} {cc : ByteArray} {nL d : Nat} {Rp : Option Int32 → Mem → Prop} {pc : Nat} {lv : List (Nat × Value)} {st : List Value} {M : Mem}
theorem G_sub (lv' : List (Nat × Value)) (hs : lsubs lv lv') (k : G K x nL pc lv' st M) : G K x nL pc lv st M := by
  obtain ⟨p, e, R, s, m, args, below, meth, c, cells, slots, Q, A⟩ := x
  intro H locs ls hP hD hS hl
  exact k H locs ls hP hD hS (hl.sub hs)
theorem G_iload_n (C : Cok K x own cc nL d Rp) {i : Fin 4} {v : Int32} (hd : decode cc pc = .ok (.iload_n i, 1)) (hl : lk lv i.val = some (.int v)) (k : G K x nL (pc + 1) lv (.int v :: st) M) : G K x nL pc lv st M := by
  obtain ⟨p, e, R, s, m, args, below, meth, c, cells, slots, Q, A⟩ := x
  obtain ⟨hx, hb, -⟩ := C
  intro H locs ls hP hD hS h
  exact lv_iload_n hx hb hd rfl (h.2.2 _ _ hl).2 (k H locs ls hP hD hS h)
theorem G_iload (C : Cok K x own cc nL d Rp) {i : Nat} {v : Int32} (hd : decode cc pc = .ok (.iload i, 2)) (hl : lk lv i = some (.int v)) (k : G K x nL (pc + 2) lv (.int v :: st) M) : G K x nL pc lv st M := by
  obtain ⟨p, e, R, s, m, args, below, meth, c, cells, slots, Q, A⟩ := x
  obtain ⟨hx, hb, -⟩ := C
  intro H locs ls hP hD hS h
  exact lv_iload hx hb hd (h.2.2 _ _ hl).2 (k H locs ls hP hD hS h)
theorem G_aload_n (C : Cok K x own cc nL d Rp) {i : Fin 4} {a : Nat} (hd : decode cc pc = .ok (.aload_n i, 1)) (hl : lk lv i.val = some (.ref a)) (k : G K x nL (pc + 1) lv (.ref a :: st) M) : G K x nL pc lv st M := by
  obtain ⟨p, e, R, s, m, args, below, meth, c, cells, slots, Q, A⟩ := x
  obtain ⟨hx, hb, -⟩ := C
  intro H locs ls hP hD hS h
  exact lv_aload_n hx hb hd rfl (h.2.2 _ _ hl).2 (k H locs ls hP hD hS h)
theorem G_aload_r (C : Cok K x own cc nL d Rp) {i : Fin 4} {a : Nat} (hd : decode cc pc = .ok (.aload_n i, 1)) (hl : lk lv i.val = some (rf K a)) (k : G K x nL (pc + 1) lv (rf K a :: st) M) : G K x nL pc lv st M := G_aload_n C hd hl k
theorem G_aload_s (C : Cok K x own cc nL d Rp) {i : Fin 4} {a : Nat} (hd : decode cc pc = .ok (.aload_n i, 1)) (hl : lk lv i.val = some (sf K a)) (k : G K x nL (pc + 1) lv (sf K a :: st) M) : G K x nL pc lv st M := G_aload_n C hd hl k
theorem G_aload_v (C : Cok K x own cc nL d Rp) {i : Fin 4} {a : Nat} (hd : decode cc pc = .ok (.aload_n i, 1)) (hl : lk lv i.val = some (sv K a)) (k : G K x nL (pc + 1) lv (sv K a :: st) M) : G K x nL pc lv st M := G_aload_n C hd hl k
theorem G_aload (C : Cok K x own cc nL d Rp) {i : Nat} {a : Nat} (hd : decode cc pc = .ok (.aload i, 2)) (hl : lk lv i = some (rf K a)) (k : G K x nL (pc + 2) lv (rf K a :: st) M) : G K x nL pc lv st M := by
  obtain ⟨p, e, R, s, m, args, below, meth, c, cells, slots, Q, A⟩ := x
  obtain ⟨hx, hb, -⟩ := C
  intro H locs ls hP hD hS h
  exact lv_aload hx hb hd (h.2.2 _ _ hl).2 (k H locs ls hP hD hS h)
theorem G_istore_n (C : Cok K x own cc nL d Rp) {i : Fin 4} {v : Int32} (hd : decode cc pc = .ok (.istore_n i, 1)) (hi : i.val < nL) (k : G K x nL (pc + 1) ((i.val, .int v) :: lv) st M) : G K x nL pc lv (.int v :: st) M := by
  obtain ⟨p, e, R, s, m, args, below, meth, c, cells, slots, Q, A⟩ := x
  obtain ⟨hx, hb, -⟩ := C
  intro H locs ls hP hD hS h
  exact lv_istore_n hx hb hd rfl h.has hi rfl (fun ls' h' => k H locs ls' hP hD hS (h.put rfl h'))
theorem G_istore (C : Cok K x own cc nL d Rp) {i : Nat} {v : Int32} (hd : decode cc pc = .ok (.istore i, 2)) (hi : i < nL) (k : G K x nL (pc + 2) ((i, .int v) :: lv) st M) : G K x nL pc lv (.int v :: st) M := by
  obtain ⟨p, e, R, s, m, args, below, meth, c, cells, slots, Q, A⟩ := x
  obtain ⟨hx, hb, -⟩ := C
  intro H locs ls hP hD hS h
  exact lv_istore hx hb hd h.has hi rfl (fun ls' h' => k H locs ls' hP hD hS (h.put rfl h'))
theorem G_astore_n (C : Cok K x own cc nL d Rp) {i : Fin 4} {a : Nat} (hd : decode cc pc = .ok (.astore_n i, 1)) (hi : i.val < nL) (k : G K x nL (pc + 1) ((i.val, rf K a) :: lv) st M) : G K x nL pc lv (rf K a :: st) M := by
  obtain ⟨p, e, R, s, m, args, below, meth, c, cells, slots, Q, A⟩ := x
  obtain ⟨hx, hb, -⟩ := C
  intro H locs ls hP hD hS h
  exact lv_astore_n hx hb hd rfl h.has hi rfl (fun ls' h' => k H locs ls' hP hD hS (h.put rfl h'))
theorem G_astore (C : Cok K x own cc nL d Rp) {i : Nat} {a : Nat} (hd : decode cc pc = .ok (.astore i, 2)) (hi : i < nL) (k : G K x nL (pc + 2) ((i, rf K a) :: lv) st M) : G K x nL pc lv (rf K a :: st) M := by
  obtain ⟨p, e, R, s, m, args, below, meth, c, cells, slots, Q, A⟩ := x
  obtain ⟨hx, hb, -⟩ := C
  intro H locs ls hP hD hS h
  exact lv_astore hx hb hd h.has hi rfl (fun ls' h' => k H locs ls' hP hD hS (h.put rfl h'))
theorem G_iinc (C : Cok K x own cc nL d Rp) {i : Nat} {n : Int} {v w : Int32} (hd : decode cc pc = .ok (.iinc i n, 3)) (hi : i < nL) (hl : lk lv i = some (.int v)) (hw : v + Int32.ofInt n = w) (k : G K x nL (pc + 3) ((i, .int w) :: lv) st M) : G K x nL pc lv st M := by
  obtain ⟨p, e, R, s, m, args, below, meth, c, cells, slots, Q, A⟩ := x
  obtain ⟨hx, hb, -⟩ := C
  intro H locs ls hP hD hS h
  obtain ⟨j, hj⟩ := lh.mem h hl
  exact lv_iinc hx hb hd h.has hj hw hi rfl (fun ls' h' => k H locs ls' hP hD hS (h.put rfl h'))
theorem G_iconst (C : Cok K x own cc nL d Rp) {n : Int} (v : Int32) (hd : decode cc pc = .ok (.iconst n, 1)) (hv : Int32.ofInt n = v) (k : G K x nL (pc + 1) lv (.int v :: st) M) : G K x nL pc lv st M := by
  obtain ⟨p, e, R, s, m, args, below, meth, c, cells, slots, Q, A⟩ := x
  obtain ⟨hx, hb, -⟩ := C
  intro H locs ls hP hD hS h
  exact lv_iconst hx hb hd hv (k H locs ls hP hD hS h)
theorem G_bipush (C : Cok K x own cc nL d Rp) {n : Int} (v : Int32) (hd : decode cc pc = .ok (.bipush n, 2)) (hv : (Int8.ofInt n).toInt32 = v) (k : G K x nL (pc + 2) lv (.int v :: st) M) : G K x nL pc lv st M := by
  obtain ⟨p, e, R, s, m, args, below, meth, c, cells, slots, Q, A⟩ := x
  obtain ⟨hx, hb, -⟩ := C
  intro H locs ls hP hD hS h
  exact lv_bipush hx hb hd hv (k H locs ls hP hD hS h)
theorem G_sipush (C : Cok K x own cc nL d Rp) {n : Int} (v : Int32) (hd : decode cc pc = .ok (.sipush n, 3)) (hv : (Int16.ofInt n).toInt32 = v) (k : G K x nL (pc + 3) lv (.int v :: st) M) : G K x nL pc lv st M := by
  obtain ⟨p, e, R, s, m, args, below, meth, c, cells, slots, Q, A⟩ := x
  obtain ⟨hx, hb, -⟩ := C
  intro H locs ls hP hD hS h
  exact lv_sipush hx hb hd hv (k H locs ls hP hD hS h)
theorem G_ldc (C : Cok K x own cc nL d Rp) {i : Nat} {v : Int32} (hw : Cond.constant own i v ∈ gtbl) (hd : decode cc pc = .ok (.ldc i, 2)) (k : G K x nL (pc + 2) lv (.int v :: st) M) : G K x nL pc lv st M := by
  obtain ⟨p, e, R, s, m, args, below, meth, c, cells, slots, Q, A⟩ := x
  obtain ⟨hx, hb, hml, hown, hts, -⟩ := C
  intro H locs ls hP hD hS h
  exact lv_ldc hx hb hown (hts _ hw) hd (k H locs ls hP hD hS h)
theorem G_ldcw (C : Cok K x own cc nL d Rp) {i : Nat} {v : Int32} (hw : Cond.constant own i v ∈ gtbl) (hd : decode cc pc = .ok (.ldc_w i, 3)) (k : G K x nL (pc + 3) lv (.int v :: st) M) : G K x nL pc lv st M := by
  obtain ⟨p, e, R, s, m, args, below, meth, c, cells, slots, Q, A⟩ := x
  obtain ⟨hx, hb, hml, hown, hts, -⟩ := C
  intro H locs ls hP hD hS h
  exact lv_ldcw hx hb hown (hts _ hw) hd (k H locs ls hP hD hS h)
theorem G_ldcS (C : Cok K x RX6 cc nL d Rp) (i : Nat) {q : Nat × String} (hi : sidx[i]? = some q) (hd : decode cc pc = .ok (.ldc q.1, 2)) (k : G K x nL (pc + 2) lv (sf K i :: st) M) : G K x nL pc lv st M := by
  obtain ⟨p, e, R, s, m, args, below, meth, c, cells, slots, Q, A⟩ := x
  obtain ⟨hx, hb, hml, hown, hts, hK, hA, hE, -⟩ := C
  intro H locs ls hP hD hS h
  exact va_ldcS hx hb hown (hE.2.2.2.2.2.2.2.1 i q hi) hd (k H locs ls hP hD hS h)
theorem G_dup (C : Cok K x own cc nL d Rp) {v : Value} (hd : decode cc pc = .ok (.dup, 1)) (hv : v.category = 1) (k : G K x nL (pc + 1) lv (v :: v :: st) M) : G K x nL pc lv (v :: st) M := by
  obtain ⟨p, e, R, s, m, args, below, meth, c, cells, slots, Q, A⟩ := x
  obtain ⟨hx, hb, -⟩ := C
  intro H locs ls hP hD hS h
  exact lv_dup hx hb hd hv (k H locs ls hP hD hS h)
theorem G_pop (C : Cok K x own cc nL d Rp) {v : Value} (hd : decode cc pc = .ok (.pop, 1)) (hv : v.category = 1) (k : G K x nL (pc + 1) lv st M) : G K x nL pc lv (v :: st) M := by
  obtain ⟨p, e, R, s, m, args, below, meth, c, cells, slots, Q, A⟩ := x
  obtain ⟨hx, hb, -⟩ := C
  intro H locs ls hP hD hS h
  exact lv_pop hx hb hd hv (k H locs ls hP hD hS h)
theorem G_goto (C : Cok K x own cc nL d Rp) {off : Int} (tgt : Nat) (hd : decode cc pc = .ok (.goto off, 3)) (ht : (pc : Int) + off = (tgt : Int)) (k : G K x nL tgt lv st M) : G K x nL pc lv st M := by
  obtain ⟨p, e, R, s, m, args, below, meth, c, cells, slots, Q, A⟩ := x
  obtain ⟨hx, hb, -⟩ := C
  intro H locs ls hP hD hS h
  exact lv_goto hx hb hd ht (k H locs ls hP hD hS h)
theorem G_iadd (C : Cok K x own cc nL d Rp) {a b : Int32} (hd : decode cc pc = .ok (.iadd, 1)) (k : G K x nL (pc + 1) lv (.int (a + b) :: st) M) : G K x nL pc lv (.int b :: .int a :: st) M := by
  obtain ⟨p, e, R, s, m, args, below, meth, c, cells, slots, Q, A⟩ := x
  obtain ⟨hx, hb, -⟩ := C
  intro H locs ls hP hD hS h
  exact lv_iadd hx hb hd (k H locs ls hP hD hS h)
theorem G_isub (C : Cok K x own cc nL d Rp) {a b : Int32} (hd : decode cc pc = .ok (.isub, 1)) (k : G K x nL (pc + 1) lv (.int (a - b) :: st) M) : G K x nL pc lv (.int b :: .int a :: st) M := by
  obtain ⟨p, e, R, s, m, args, below, meth, c, cells, slots, Q, A⟩ := x
  obtain ⟨hx, hb, -⟩ := C
  intro H locs ls hP hD hS h
  exact lv_isub hx hb hd (k H locs ls hP hD hS h)
theorem G_imul (C : Cok K x own cc nL d Rp) {a b : Int32} (hd : decode cc pc = .ok (.imul, 1)) (k : G K x nL (pc + 1) lv (.int (a * b) :: st) M) : G K x nL pc lv (.int b :: .int a :: st) M := by
  obtain ⟨p, e, R, s, m, args, below, meth, c, cells, slots, Q, A⟩ := x
  obtain ⟨hx, hb, -⟩ := C
  intro H locs ls hP hD hS h
  exact lv_imul hx hb hd (k H locs ls hP hD hS h)
theorem G_iand (C : Cok K x own cc nL d Rp) {a b : Int32} (hd : decode cc pc = .ok (.iand, 1)) (k : G K x nL (pc + 1) lv (.int (a &&& b) :: st) M) : G K x nL pc lv (.int b :: .int a :: st) M := by
  obtain ⟨p, e, R, s, m, args, below, meth, c, cells, slots, Q, A⟩ := x
  obtain ⟨hx, hb, -⟩ := C
  intro H locs ls hP hD hS h
  exact lv_iand hx hb hd (k H locs ls hP hD hS h)
theorem G_ishr (C : Cok K x own cc nL d Rp) {a b : Int32} (hd : decode cc pc = .ok (.ishr, 1)) (k : G K x nL (pc + 1) lv (.int (a >>> (b &&& 31)) :: st) M) : G K x nL pc lv (.int b :: .int a :: st) M := by
  obtain ⟨p, e, R, s, m, args, below, meth, c, cells, slots, Q, A⟩ := x
  obtain ⟨hx, hb, -⟩ := C
  intro H locs ls hP hD hS h
  exact lv_ishr hx hb hd (k H locs ls hP hD hS h)
theorem G_ishl (C : Cok K x own cc nL d Rp) {a b : Int32} (hd : decode cc pc = .ok (.ishl, 1)) (k : G K x nL (pc + 1) lv (.int (a <<< (b &&& 31)) :: st) M) : G K x nL pc lv (.int b :: .int a :: st) M := by
  obtain ⟨p, e, R, s, m, args, below, meth, c, cells, slots, Q, A⟩ := x
  obtain ⟨hx, hb, -⟩ := C
  intro H locs ls hP hD hS h
  exact lv_ishl hx hb hd (k H locs ls hP hD hS h)
theorem G_idiv (C : Cok K x own cc nL d Rp) {a b : Int32} (hd : decode cc pc = .ok (.idiv, 1)) (hb0 : ¬ b = 0) (k : G K x nL (pc + 1) lv (.int (a / b) :: st) M) : G K x nL pc lv (.int b :: .int a :: st) M := by
  obtain ⟨p, e, R, s, m, args, below, meth, c, cells, slots, Q, A⟩ := x
  obtain ⟨hx, hb, -⟩ := C
  intro H locs ls hP hD hS h
  exact lv_idiv hx hb hd hb0 (k H locs ls hP hD hS h)
theorem G_iushr (C : Cok K x own cc nL d Rp) {a b : Int32} (hd : decode cc pc = .ok (.iushr, 1)) (k : G K x nL (pc + 1) lv (.int ((a.toUInt32 >>> (b.toUInt32 &&& Int32.toUInt32 31)).toInt32) :: st) M) : G K x nL pc lv (.int b :: .int a :: st) M := by
  obtain ⟨p, e, R, s, m, args, below, meth, c, cells, slots, Q, A⟩ := x
  obtain ⟨hx, hb, -⟩ := C
  intro H locs ls hP hD hS h
  exact lv_iushr hx hb hd rfl (k H locs ls hP hD hS h)
theorem G_i2b (C : Cok K x own cc nL d Rp) {a : Int32} (hd : decode cc pc = .ok (.i2b, 1)) (k : G K x nL (pc + 1) lv (.int (a.toInt8.toInt32) :: st) M) : G K x nL pc lv (.int a :: st) M := by
  obtain ⟨p, e, R, s, m, args, below, meth, c, cells, slots, Q, A⟩ := x
  obtain ⟨hx, hb, -⟩ := C
  intro H locs ls hP hD hS h
  exact lv_i2b hx hb hd rfl (k H locs ls hP hD hS h)
theorem G_i2c (C : Cok K x own cc nL d Rp) {a : Int32} (hd : decode cc pc = .ok (.i2c, 1)) (k : G K x nL (pc + 1) lv (.int ((a.toUInt32 % 65536).toInt32) :: st) M) : G K x nL pc lv (.int a :: st) M := by
  obtain ⟨p, e, R, s, m, args, below, meth, c, cells, slots, Q, A⟩ := x
  obtain ⟨hx, hb, -⟩ := C
  intro H locs ls hP hD hS h
  exact lv_i2c hx hb hd rfl (k H locs ls hP hD hS h)
theorem G_i2l (C : Cok K x own cc nL d Rp) {a : Int32} (hd : decode cc pc = .ok (.i2l, 1)) (k : G K x nL (pc + 1) lv (.long a.toInt64 :: st) M) : G K x nL pc lv (.int a :: st) M := by
  obtain ⟨p, e, R, s, m, args, below, meth, c, cells, slots, Q, A⟩ := x
  obtain ⟨hx, hb, -⟩ := C
  intro H locs ls hP hD hS h
  exact lv_i2l hx hb hd rfl (k H locs ls hP hD hS h)
theorem G_ladd (C : Cok K x own cc nL d Rp) {a b : Int64} (hd : decode cc pc = .ok (.ladd, 1)) (k : G K x nL (pc + 1) lv (.long (a + b) :: st) M) : G K x nL pc lv (.long b :: .long a :: st) M := by
  obtain ⟨p, e, R, s, m, args, below, meth, c, cells, slots, Q, A⟩ := x
  obtain ⟨hx, hb, -⟩ := C
  intro H locs ls hP hD hS h
  exact lv_ladd hx hb hd (k H locs ls hP hD hS h)
theorem G_lcmp (C : Cok K x own cc nL d Rp) {a b : Int64} (hd : decode cc pc = .ok (.lcmp, 1)) (k : G K x nL (pc + 1) lv (.int (lg_cmp a b) :: st) M) : G K x nL pc lv (.long b :: .long a :: st) M := by
  obtain ⟨p, e, R, s, m, args, below, meth, c, cells, slots, Q, A⟩ := x
  obtain ⟨hx, hb, -⟩ := C
  intro H locs ls hP hD hS h
  exact W.lcmp hx hb hd (k H locs ls hP hD hS h)
theorem G_if_eq (C : Cok K x own cc nL d Rp) {x1 : Int32} {off : Int} (tgt : Nat) (hd : decode cc pc = .ok (.ifCond .eq off, 3)) (ht : (pc : Int) + off = (tgt : Int)) (kt : x1 = 0 → G K x nL tgt lv st M) (kf : ¬ x1 = 0 → G K x nL (pc + 3) lv st M) : G K x nL pc lv (.int x1 :: st) M := by
  obtain ⟨p, e, R, s, m, args, below, meth, c, cells, slots, Q, A⟩ := x
  obtain ⟨hx, hb, -⟩ := C
  intro H locs ls hP hD hS hl
  exact lv_if_eq hx hb hd ht (fun h => kt h H locs ls hP hD hS hl) (fun h => kf h H locs ls hP hD hS hl)
theorem G_icmp_eq (C : Cok K x own cc nL d Rp) {x1 y1 : Int32} {off : Int} (tgt : Nat) (hd : decode cc pc = .ok (.if_icmp .eq off, 3)) (ht : (pc : Int) + off = (tgt : Int)) (kt : x1 = y1 → G K x nL tgt lv st M) (kf : ¬ x1 = y1 → G K x nL (pc + 3) lv st M) : G K x nL pc lv (.int y1 :: .int x1 :: st) M := by
  obtain ⟨p, e, R, s, m, args, below, meth, c, cells, slots, Q, A⟩ := x
  obtain ⟨hx, hb, -⟩ := C
  intro H locs ls hP hD hS hl
  exact lv_icmp_eq hx hb hd ht (fun h => kt h H locs ls hP hD hS hl) (fun h => kf h H locs ls hP hD hS hl)
theorem G_if_ne (C : Cok K x own cc nL d Rp) {x1 : Int32} {off : Int} (tgt : Nat) (hd : decode cc pc = .ok (.ifCond .ne off, 3)) (ht : (pc : Int) + off = (tgt : Int)) (kt : ¬ x1 = 0 → G K x nL tgt lv st M) (kf : x1 = 0 → G K x nL (pc + 3) lv st M) : G K x nL pc lv (.int x1 :: st) M := by
  obtain ⟨p, e, R, s, m, args, below, meth, c, cells, slots, Q, A⟩ := x
  obtain ⟨hx, hb, -⟩ := C
  intro H locs ls hP hD hS hl
  exact lv_if_ne hx hb hd ht (fun h => kt h H locs ls hP hD hS hl) (fun h => kf h H locs ls hP hD hS hl)
theorem G_icmp_ne (C : Cok K x own cc nL d Rp) {x1 y1 : Int32} {off : Int} (tgt : Nat) (hd : decode cc pc = .ok (.if_icmp .ne off, 3)) (ht : (pc : Int) + off = (tgt : Int)) (kt : ¬ x1 = y1 → G K x nL tgt lv st M) (kf : x1 = y1 → G K x nL (pc + 3) lv st M) : G K x nL pc lv (.int y1 :: .int x1 :: st) M := by
  obtain ⟨p, e, R, s, m, args, below, meth, c, cells, slots, Q, A⟩ := x
  obtain ⟨hx, hb, -⟩ := C
  intro H locs ls hP hD hS hl
  exact lv_icmp_ne hx hb hd ht (fun h => kt h H locs ls hP hD hS hl) (fun h => kf h H locs ls hP hD hS hl)
theorem G_if_lt (C : Cok K x own cc nL d Rp) {x1 : Int32} {off : Int} (tgt : Nat) (hd : decode cc pc = .ok (.ifCond .lt off, 3)) (ht : (pc : Int) + off = (tgt : Int)) (kt : x1 < 0 → G K x nL tgt lv st M) (kf : ¬ x1 < 0 → G K x nL (pc + 3) lv st M) : G K x nL pc lv (.int x1 :: st) M := by
  obtain ⟨p, e, R, s, m, args, below, meth, c, cells, slots, Q, A⟩ := x
  obtain ⟨hx, hb, -⟩ := C
  intro H locs ls hP hD hS hl
  exact lv_if_lt hx hb hd ht (fun h => kt h H locs ls hP hD hS hl) (fun h => kf h H locs ls hP hD hS hl)
theorem G_icmp_lt (C : Cok K x own cc nL d Rp) {x1 y1 : Int32} {off : Int} (tgt : Nat) (hd : decode cc pc = .ok (.if_icmp .lt off, 3)) (ht : (pc : Int) + off = (tgt : Int)) (kt : x1 < y1 → G K x nL tgt lv st M) (kf : ¬ x1 < y1 → G K x nL (pc + 3) lv st M) : G K x nL pc lv (.int y1 :: .int x1 :: st) M := by
  obtain ⟨p, e, R, s, m, args, below, meth, c, cells, slots, Q, A⟩ := x
  obtain ⟨hx, hb, -⟩ := C
  intro H locs ls hP hD hS hl
  exact lv_icmp_lt hx hb hd ht (fun h => kt h H locs ls hP hD hS hl) (fun h => kf h H locs ls hP hD hS hl)
theorem G_if_ge (C : Cok K x own cc nL d Rp) {x1 : Int32} {off : Int} (tgt : Nat) (hd : decode cc pc = .ok (.ifCond .ge off, 3)) (ht : (pc : Int) + off = (tgt : Int)) (kt : 0 ≤ x1 → G K x nL tgt lv st M) (kf : ¬ 0 ≤ x1 → G K x nL (pc + 3) lv st M) : G K x nL pc lv (.int x1 :: st) M := by
  obtain ⟨p, e, R, s, m, args, below, meth, c, cells, slots, Q, A⟩ := x
  obtain ⟨hx, hb, -⟩ := C
  intro H locs ls hP hD hS hl
  exact lv_if_ge hx hb hd ht (fun h => kt h H locs ls hP hD hS hl) (fun h => kf h H locs ls hP hD hS hl)
theorem G_icmp_ge (C : Cok K x own cc nL d Rp) {x1 y1 : Int32} {off : Int} (tgt : Nat) (hd : decode cc pc = .ok (.if_icmp .ge off, 3)) (ht : (pc : Int) + off = (tgt : Int)) (kt : y1 ≤ x1 → G K x nL tgt lv st M) (kf : ¬ y1 ≤ x1 → G K x nL (pc + 3) lv st M) : G K x nL pc lv (.int y1 :: .int x1 :: st) M := by
  obtain ⟨p, e, R, s, m, args, below, meth, c, cells, slots, Q, A⟩ := x
  obtain ⟨hx, hb, -⟩ := C
  intro H locs ls hP hD hS hl
  exact lv_icmp_ge hx hb hd ht (fun h => kt h H locs ls hP hD hS hl) (fun h => kf h H locs ls hP hD hS hl)
theorem G_if_gt (C : Cok K x own cc nL d Rp) {x1 : Int32} {off : Int} (tgt : Nat) (hd : decode cc pc = .ok (.ifCond .gt off, 3)) (ht : (pc : Int) + off = (tgt : Int)) (kt : 0 < x1 → G K x nL tgt lv st M) (kf : ¬ 0 < x1 → G K x nL (pc + 3) lv st M) : G K x nL pc lv (.int x1 :: st) M := by
  obtain ⟨p, e, R, s, m, args, below, meth, c, cells, slots, Q, A⟩ := x
  obtain ⟨hx, hb, -⟩ := C
  intro H locs ls hP hD hS hl
  exact lv_if_gt hx hb hd ht (fun h => kt h H locs ls hP hD hS hl) (fun h => kf h H locs ls hP hD hS hl)
theorem G_icmp_gt (C : Cok K x own cc nL d Rp) {x1 y1 : Int32} {off : Int} (tgt : Nat) (hd : decode cc pc = .ok (.if_icmp .gt off, 3)) (ht : (pc : Int) + off = (tgt : Int)) (kt : y1 < x1 → G K x nL tgt lv st M) (kf : ¬ y1 < x1 → G K x nL (pc + 3) lv st M) : G K x nL pc lv (.int y1 :: .int x1 :: st) M := by
  obtain ⟨p, e, R, s, m, args, below, meth, c, cells, slots, Q, A⟩ := x
  obtain ⟨hx, hb, -⟩ := C
  intro H locs ls hP hD hS hl
  exact lv_icmp_gt hx hb hd ht (fun h => kt h H locs ls hP hD hS hl) (fun h => kf h H locs ls hP hD hS hl)
theorem G_if_le (C : Cok K x own cc nL d Rp) {x1 : Int32} {off : Int} (tgt : Nat) (hd : decode cc pc = .ok (.ifCond .le off, 3)) (ht : (pc : Int) + off = (tgt : Int)) (kt : x1 ≤ 0 → G K x nL tgt lv st M) (kf : ¬ x1 ≤ 0 → G K x nL (pc + 3) lv st M) : G K x nL pc lv (.int x1 :: st) M := by
  obtain ⟨p, e, R, s, m, args, below, meth, c, cells, slots, Q, A⟩ := x
  obtain ⟨hx, hb, -⟩ := C
  intro H locs ls hP hD hS hl
  exact lv_if_le hx hb hd ht (fun h => kt h H locs ls hP hD hS hl) (fun h => kf h H locs ls hP hD hS hl)
theorem G_icmp_le (C : Cok K x own cc nL d Rp) {x1 y1 : Int32} {off : Int} (tgt : Nat) (hd : decode cc pc = .ok (.if_icmp .le off, 3)) (ht : (pc : Int) + off = (tgt : Int)) (kt : x1 ≤ y1 → G K x nL tgt lv st M) (kf : ¬ x1 ≤ y1 → G K x nL (pc + 3) lv st M) : G K x nL pc lv (.int y1 :: .int x1 :: st) M := by
  obtain ⟨p, e, R, s, m, args, below, meth, c, cells, slots, Q, A⟩ := x
  obtain ⟨hx, hb, -⟩ := C
  intro H locs ls hP hD hS hl
  exact lv_icmp_le hx hb hd ht (fun h => kt h H locs ls hP hD hS hl) (fun h => kf h H locs ls hP hD hS hl)
theorem G_tableOut (C : Cok K x own cc nL d Rp) {dflt lo hi : Int} {offs : Array Int} {len : Nat} {v : Int32} (tgt : Nat) (hd : decode cc pc = .ok (.tableswitch dflt lo hi offs, len)) (h : v.toInt < lo ∨ hi < v.toInt) (ht : (pc : Int) + dflt = (tgt : Int)) (k : G K x nL tgt lv st M) : G K x nL pc lv (.int v :: st) M := by
  obtain ⟨p, e, R, s, m, args, below, meth, c, cells, slots, Q, A⟩ := x
  obtain ⟨hx, hb, -⟩ := C
  intro H locs ls hP hD hS hl
  exact lv_tableOut hx hb hd h ht (k H locs ls hP hD hS hl)
theorem G_tableIn (C : Cok K x own cc nL d Rp) {dflt lo hi : Int} {offs : Array Int} {len : Nat} {v : Int32} (off : Int) (tgt : Nat) (hd : decode cc pc = .ok (.tableswitch dflt lo hi offs, len)) (h1 : ¬ v.toInt < lo) (h2 : ¬ hi < v.toInt) (ho : offs[(v.toInt - lo).toNat]? = some off) (ht : (pc : Int) + off = (tgt : Int)) (k : G K x nL tgt lv st M) : G K x nL pc lv (.int v :: st) M := by
  obtain ⟨p, e, R, s, m, args, below, meth, c, cells, slots, Q, A⟩ := x
  obtain ⟨hx, hb, -⟩ := C
  intro H locs ls hP hD hS hl
  exact lv_tableIn hx hb hd h1 h2 ho ht (k H locs ls hP hD hS hl)
theorem G_ret {Q0 : Int32 → Mem → Prop} (C : Cok K x own cc nL d (RI Q0)) {v : Int32} (hd : decode cc pc = .ok (.ireturn, 1)) (h : Q0 v M) : G K x nL pc lv [.int v] M := by
  obtain ⟨p, e, R, s, m, args, below, meth, c, cells, slots, Q, A⟩ := x
  obtain ⟨hx, hb, hml, hown, hts, hK, hA, hE, hd1, hd2, hd3, hd4, hrI, hrV⟩ := C
  intro H locs ls hP hD hS hl
  exact hrI v M H locs pc ls h hP hD hS hd
theorem G_retR {r : Int32} {M' : Mem} (C : Cok K x own cc nL d (RI (fun v N => v = r ∧ N = M'))) {v : Int32} (hd : decode cc pc = .ok (.ireturn, 1)) (h : v = r) (hM : M = M') : G K x nL pc lv [.int v] M := G_ret C hd ⟨h, hM⟩
theorem G_vret {Q0 : Mem → Prop} (C : Cok K x own cc nL d (RV Q0)) (hd : decode cc pc = .ok (.return_, 1)) (h : Q0 M) : G K x nL pc lv [] M := by
  obtain ⟨p, e, R, s, m, args, below, meth, c, cells, slots, Q, A⟩ := x
  obtain ⟨hx, hb, hml, hown, hts, hK, hA, hE, hd1, hd2, hd3, hd4, hrI, hrV⟩ := C
  intro H locs ls hP hD hS hl
  exact hrV M H locs pc ls h hP hD hS hd
end GR
end
section
section GR2
variable {K : Kt} {x : Cx} {own : String} {cc : ByteArray} {nL d : Nat} {Rp : Option Int32 → Mem → Prop} {pc : Nat} {lv : List (Nat × Value)} {st : List Value} {M : Mem}
def fOK (own : String) (idx ci k : Nat) : Prop := ∃ (C : String) (T : u_T) (N : Nat), vwCl[ci]? = some (C, T, N) ∧ (∀ w ∈ u_ws C T N, w ∈ gtbl) ∧ k < N ∧ (T k).1 = C ∧ Cond.fieldLink own idx C (T k).2.1 (T k).2.2.1 ∈ gtbl
def fPut (own : String) (idx ci k : Nat) : Prop := ∃ (C : String) (T : u_T) (N : Nat) (ty : Nat → FieldType), vwCl[ci]? = some (C, T, N) ∧ (∀ w ∈ u_ws C T N, w ∈ gtbl) ∧ k < N ∧ (T k).1 = C ∧ Cond.fieldLink own idx C (T k).2.1 (T k).2.2.1 ∈ gtbl ∧ (∀ k, k < N → parseFieldDescriptor (T k).2.2.1 = some (ty k)) ∧ (∀ a, a < N → ∀ b, b < N → a ≠ b → (T a).2.1 ≠ (T b).2.1) ∧ (T k).2.2.2 = false ∧ parseFieldDescriptor (T k).2.2.1 = some .int
theorem G_getI (C : Cok K x own cc nL d Rp) {idx ci k i : Nat} {fl : List (Option Nat)} (hf : fOK own idx ci k) (hlay : layL[i]? = some (.inl (ci, fl))) (hk : fl[k]? = some none) (hd : decode cc pc = .ok (.getfield idx, 3)) (k9 : G K x nL (pc + 3) lv (.int (M i k) :: st) M) : G K x nL pc lv (rf K i :: st) M := by
  obtain ⟨p, e, R, s, m, args, below, meth, c, cells, slots, Q, A⟩ := x
  obtain ⟨hx, hb, hml, hown, hts, hK, hA, hE, hd1, hd2, hd3, hd4, hrI, hrV⟩ := C
  obtain ⟨C', T, N, h1, h2, h3, h4, h5⟩ := hf
  intro H locs ls hP hD hS hl
  refine va_get hx hb hts h2 hown hK hP i (wld_get hlay) h1 k h3 (hts _ h5) (fun _ h => by rw [h4] at h; exact h) (v := .int (M i k)) ?_ hd (k9 H locs ls hP hD hS hl)
  rw [fldV_get, hk]
  simp
theorem G_getR (C : Cok K x own cc nL d Rp) {idx ci k i r : Nat} {fl : List (Option Nat)} (hf : fOK own idx ci k) (hlay : layL[i]? = some (.inl (ci, fl))) (hk : fl[k]? = some (some r)) (hd : decode cc pc = .ok (.getfield idx, 3)) (k9 : G K x nL (pc + 3) lv (rf K r :: st) M) : G K x nL pc lv (rf K i :: st) M := by
  obtain ⟨p, e, R, s, m, args, below, meth, c, cells, slots, Q, A⟩ := x
  obtain ⟨hx, hb, hml, hown, hts, hK, hA, hE, hd1, hd2, hd3, hd4, hrI, hrV⟩ := C
  obtain ⟨C', T, N, h1, h2, h3, h4, h5⟩ := hf
  intro H locs ls hP hD hS hl
  refine va_get hx hb hts h2 hown hK hP i (wld_get hlay) h1 k h3 (hts _ h5) (fun _ h => by rw [h4] at h; exact h) (v := rf K r) ?_ hd (k9 H locs ls hP hD hS hl)
  rw [fldV_get, hk]
  simp
theorem G_putI (C : Cok K x own cc nL d Rp) {idx ci k i : Nat} {v : Int32} {fl : List (Option Nat)} (hf : fPut own idx ci k) (hlay : layL[i]? = some (.inl (ci, fl))) (hk : fl[k]? = some none) (hd : decode cc pc = .ok (.putfield idx, 3)) (k9 : G K x nL (pc + 3) lv st (wr M i k v)) : G K x nL pc lv (.int v :: rf K i :: st) M := by
  obtain ⟨p, e, R, s, m, args, below, meth, c, cells, slots, Q, A⟩ := x
  obtain ⟨hx, hb, hml, hown, hts, hK, hA, hE, hd1, hd2, hd3, hd4, hrI, hrV⟩ := C
  obtain ⟨C', T, N, ty, h1, h2, h3, h4, h5, h6, h7, h8, h9⟩ := hf
  intro H locs ls hP hD hS hl
  refine va_put hx hb hts h2 ty h6 h7 hown hK hP hD hS i (wld_get hlay) h1 k h3 (hts _ h5) (fun _ h => by rw [h4] at h; exact h) h8 (ty := .int) (v := .int v) h9 rfl rfl (by rw [fldV_len]; exact (List.getElem?_eq_some_iff.mp hk).1) hd (fun H1 locs1 hP1 hD1 hS1 => ?_)
  have e : (wld K M).set i (kA K i, .inr (ci, (fldV K (M i) 0 fl).set k (.int v))) = wld K (wr M i k v) := by
    rw [fldV_set K (M i) v fl 0 k hk, Nat.zero_add]
    exact wld_set (d := .inl (ci, fl)) hlay
  rw [e] at hP1 hD1
  exact k9 H1 locs1 ls hP1 hD1 hS1 hl
theorem G_iald (C : Cok K x own cc nL d Rp) {i n : Nat} {j : Int32} (hlay : layL[i]? = some (.inr (.inl (0, n)))) (hin : vp_in j n) (hd : decode cc pc = .ok (.iaload, 1)) (k9 : G K x nL (pc + 1) lv (.int (M i j.toNatClampNeg) :: st) M) : G K x nL pc lv (.int j :: rf K i :: st) M := by
  obtain ⟨p, e, R, s, m, args, below, meth, c, cells, slots, Q, A⟩ := x
  obtain ⟨hx, hb, hml, hown, hts, hK, hA, hE, hd1, hd2, hd3, hd4, hrI, hrV⟩ := C
  intro H locs ls hP hD hS hl
  exact va_iald hx hb hK hP i 0 (wld_get hlay) rfl hin hd (k9 H locs ls hP hD hS hl)
theorem G_ialdN (C : Cok K x own cc nL d Rp) {i n j : Nat} (hlay : layL[i]? = some (.inr (.inl (0, n)))) (hj : j < n) (hn : n < 2 ^ 31) (hd : decode cc pc = .ok (.iaload, 1)) (k9 : G K x nL (pc + 1) lv (.int (M i j) :: st) M) : G K x nL pc lv (.int (nI j) :: rf K i :: st) M := by
  refine G_iald C hlay (vp_in_nI hj hn) hd ?_
  rw [nI_clamp (Nat.lt_trans hj hn)]
  exact k9
theorem G_bald (C : Cok K x own cc nL d Rp) {i n : Nat} {j : Int32} (hlay : layL[i]? = some (.inr (.inl (1, n)))) (hin : vp_in j n) (hd : decode cc pc = .ok (.baload, 1)) (k9 : G K x nL (pc + 1) lv (.int (M i j.toNatClampNeg) :: st) M) : G K x nL pc lv (.int j :: rf K i :: st) M := by
  obtain ⟨p, e, R, s, m, args, below, meth, c, cells, slots, Q, A⟩ := x
  obtain ⟨hx, hb, hml, hown, hts, hK, hA, hE, hd1, hd2, hd3, hd4, hrI, hrV⟩ := C
  intro H locs ls hP hD hS hl
  exact va_bald hx hb hK hP i 1 (wld_get hlay) rfl hin hd (k9 H locs ls hP hD hS hl)
theorem G_baldN (C : Cok K x own cc nL d Rp) {i n j : Nat} (hlay : layL[i]? = some (.inr (.inl (1, n)))) (hj : j < n) (hn : n < 2 ^ 31) (hd : decode cc pc = .ok (.baload, 1)) (k9 : G K x nL (pc + 1) lv (.int (M i j) :: st) M) : G K x nL pc lv (.int (nI j) :: rf K i :: st) M := by
  refine G_bald C hlay (vp_in_nI hj hn) hd ?_
  rw [nI_clamp (Nat.lt_trans hj hn)]
  exact k9
theorem G_zald (C : Cok K x own cc nL d Rp) {i n : Nat} {j : Int32} (hlay : layL[i]? = some (.inr (.inl (2, n)))) (hin : vp_in j n) (hd : decode cc pc = .ok (.baload, 1)) (k9 : G K x nL (pc + 1) lv (.int (M i j.toNatClampNeg) :: st) M) : G K x nL pc lv (.int j :: rf K i :: st) M := by
  obtain ⟨p, e, R, s, m, args, below, meth, c, cells, slots, Q, A⟩ := x
  obtain ⟨hx, hb, hml, hown, hts, hK, hA, hE, hd1, hd2, hd3, hd4, hrI, hrV⟩ := C
  intro H locs ls hP hD hS hl
  exact va_zald hx hb hK hP i 2 (wld_get hlay) rfl hin hd (k9 H locs ls hP hD hS hl)
theorem G_zaldN (C : Cok K x own cc nL d Rp) {i n j : Nat} (hlay : layL[i]? = some (.inr (.inl (2, n)))) (hj : j < n) (hn : n < 2 ^ 31) (hd : decode cc pc = .ok (.baload, 1)) (k9 : G K x nL (pc + 1) lv (.int (M i j) :: st) M) : G K x nL pc lv (.int (nI j) :: rf K i :: st) M := by
  refine G_zald C hlay (vp_in_nI hj hn) hd ?_
  rw [nI_clamp (Nat.lt_trans hj hn)]
  exact k9
theorem G_iast (C : Cok K x own cc nL d Rp) {i n : Nat} {j v : Int32} (hlay : layL[i]? = some (.inr (.inl (0, n)))) (hin : vp_in j n) (hd : decode cc pc = .ok (.iastore, 1)) (k9 : G K x nL (pc + 1) lv st (wr M i j.toNatClampNeg (v))) : G K x nL pc lv (.int v :: .int j :: rf K i :: st) M := by
  obtain ⟨p, e, R, s, m, args, below, meth, c, cells, slots, Q, A⟩ := x
  obtain ⟨hx, hb, hml, hown, hts, hK, hA, hE, hd1, hd2, hd3, hd4, hrI, hrV⟩ := C
  intro H locs ls hP hD hS hl
  refine va_iast hx hb hK hP hD hS i 0 (wld_get hlay) rfl hin hd (fun H1 locs1 hP1 hD1 hS1 => ?_)
  have e : (wld K M).set i (kA K i, .inl (kC K 0, n, .inl (upd (M i) j.toNatClampNeg v))) = wld K (wr M i j.toNatClampNeg (v)) := by
    exact wld_set (d := .inr (.inl (0, n))) hlay
  rw [e] at hP1 hD1
  exact k9 H1 locs1 ls hP1 hD1 hS1 hl
theorem G_iastN (C : Cok K x own cc nL d Rp) {i n j : Nat} {v : Int32} (hlay : layL[i]? = some (.inr (.inl (0, n)))) (hj : j < n) (hn : n < 2 ^ 31) (hd : decode cc pc = .ok (.iastore, 1)) (k9 : G K x nL (pc + 1) lv st (wr M i j (v))) : G K x nL pc lv (.int v :: .int (nI j) :: rf K i :: st) M := by
  refine G_iast C hlay (vp_in_nI hj hn) hd ?_
  rw [nI_clamp (Nat.lt_trans hj hn)]
  exact k9
theorem G_bast (C : Cok K x own cc nL d Rp) {i n : Nat} {j v : Int32} (hlay : layL[i]? = some (.inr (.inl (1, n)))) (hin : vp_in j n) (hd : decode cc pc = .ok (.bastore, 1)) (k9 : G K x nL (pc + 1) lv st (wr M i j.toNatClampNeg (v.toInt8.toInt32))) : G K x nL pc lv (.int v :: .int j :: rf K i :: st) M := by
  obtain ⟨p, e, R, s, m, args, below, meth, c, cells, slots, Q, A⟩ := x
  obtain ⟨hx, hb, hml, hown, hts, hK, hA, hE, hd1, hd2, hd3, hd4, hrI, hrV⟩ := C
  have e0 : vp_nar .byte v = v.toInt8.toInt32 := vp_nar_byte v
  intro H locs ls hP hD hS hl
  refine va_bast hx hb hK hP hD hS i 1 (wld_get hlay) rfl hin hd (fun H1 locs1 hP1 hD1 hS1 => ?_)
  have e : (wld K M).set i (kA K i, .inl (kC K 1, n, .inl (upd (M i) j.toNatClampNeg (vp_nar .byte v)))) = wld K (wr M i j.toNatClampNeg (v.toInt8.toInt32)) := by
    rw [e0]
    exact wld_set (d := .inr (.inl (1, n))) hlay
  rw [e] at hP1 hD1
  exact k9 H1 locs1 ls hP1 hD1 hS1 hl
theorem G_bastN (C : Cok K x own cc nL d Rp) {i n j : Nat} {v : Int32} (hlay : layL[i]? = some (.inr (.inl (1, n)))) (hj : j < n) (hn : n < 2 ^ 31) (hd : decode cc pc = .ok (.bastore, 1)) (k9 : G K x nL (pc + 1) lv st (wr M i j (v.toInt8.toInt32))) : G K x nL pc lv (.int v :: .int (nI j) :: rf K i :: st) M := by
  refine G_bast C hlay (vp_in_nI hj hn) hd ?_
  rw [nI_clamp (Nat.lt_trans hj hn)]
  exact k9
theorem G_zast (C : Cok K x own cc nL d Rp) {i n : Nat} {j v : Int32} (hlay : layL[i]? = some (.inr (.inl (2, n)))) (hin : vp_in j n) (hv : v = 0 ∨ v = 1) (hd : decode cc pc = .ok (.bastore, 1)) (k9 : G K x nL (pc + 1) lv st (wr M i j.toNatClampNeg (v))) : G K x nL pc lv (.int v :: .int j :: rf K i :: st) M := by
  obtain ⟨p, e, R, s, m, args, below, meth, c, cells, slots, Q, A⟩ := x
  obtain ⟨hx, hb, hml, hown, hts, hK, hA, hE, hd1, hd2, hd3, hd4, hrI, hrV⟩ := C
  have e0 : vp_nar .boolean v = v := by rcases hv with rfl | rfl <;> decide
  intro H locs ls hP hD hS hl
  refine va_zast hx hb hK hP hD hS i 2 (wld_get hlay) rfl hin hd (fun H1 locs1 hP1 hD1 hS1 => ?_)
  have e : (wld K M).set i (kA K i, .inl (kC K 2, n, .inl (upd (M i) j.toNatClampNeg (vp_nar .boolean v)))) = wld K (wr M i j.toNatClampNeg (v)) := by
    rw [e0]
    exact wld_set (d := .inr (.inl (2, n))) hlay
  rw [e] at hP1 hD1
  exact k9 H1 locs1 ls hP1 hD1 hS1 hl
theorem G_zastN (C : Cok K x own cc nL d Rp) {i n j : Nat} {v : Int32} (hlay : layL[i]? = some (.inr (.inl (2, n)))) (hj : j < n) (hn : n < 2 ^ 31) (hv : v = 0 ∨ v = 1) (hd : decode cc pc = .ok (.bastore, 1)) (k9 : G K x nL (pc + 1) lv st (wr M i j (v))) : G K x nL pc lv (.int v :: .int (nI j) :: rf K i :: st) M := by
  refine G_zast C hlay (vp_in_nI hj hn) hv hd ?_
  rw [nI_clamp (Nat.lt_trans hj hn)]
  exact k9
theorem G_aald (C : Cok K x own cc nL d Rp) {i r a : Nat} {rs : List Nat} {j : Int32} (hlay : layL[i]? = some (.inr (.inr (a, rs)))) (ha : a = 3 ∨ a = 4) (hin : vp_in j rs.length) (hr : rs[j.toNatClampNeg]? = some r) (hd : decode cc pc = .ok (.aaload, 1)) (k9 : G K x nL (pc + 1) lv (rf K r :: st) M) : G K x nL pc lv (.int j :: rf K i :: st) M := by
  obtain ⟨p, e, R, s, m, args, below, meth, c, cells, slots, Q, A⟩ := x
  obtain ⟨hx, hb, hml, hown, hts, hK, hA, hE, hd1, hd2, hd3, hd4, hrI, hrV⟩ := C
  intro H locs ls hP hD hS hl
  have e : va_rf ((rs[j.toNatClampNeg]?).map (kA K)) = rf K r := by rw [hr]; rfl
  rcases ha with rfl | rfl
  · refine va_aldq (C := "ChildPay$Law") hx hb hK hP i 3 (wld_get hlay) rfl hin hd ?_
    rw [e]
    exact k9 H locs ls hP hD hS hl
  · refine va_aldq (C := "ChildPay$Sheet") hx hb hK hP i 4 (wld_get hlay) rfl hin hd ?_
    rw [e]
    exact k9 H locs ls hP hD hS hl
theorem G_alenW (C : Cok K x own cc nL d Rp) {i n a : Nat} (hlay : layL[i]? = some (.inr (.inl (a, n)))) (ha : a < 3) (hd : decode cc pc = .ok (.arraylength, 1)) (k9 : G K x nL (pc + 1) lv (.int (nI n) :: st) M) : G K x nL pc lv (rf K i :: st) M := by
  obtain ⟨p, e, R, s, m, args, below, meth, c, cells, slots, Q, A⟩ := x
  obtain ⟨hx, hb, hml, hown, hts, hK, hA, hE, hd1, hd2, hd3, hd4, hrI, hrV⟩ := C
  intro H locs ls hP hD hS hl
  rcases (show a = 0 ∨ a = 1 ∨ a = 2 by omega) with rfl | rfl | rfl
  · exact va_alen hx hb hK hP i 0 (wld_get hlay) (ty := .int) rfl rfl hd (k9 H locs ls hP hD hS hl)
  · exact va_alen hx hb hK hP i 1 (wld_get hlay) (ty := .byte) rfl rfl hd (k9 H locs ls hP hD hS hl)
  · exact va_alen hx hb hK hP i 2 (wld_get hlay) (ty := .boolean) rfl rfl hd (k9 H locs ls hP hD hS hl)
theorem G_getH (C : Cok K x RX3 cc nL d Rp) (hd : decode cc pc = .ok (.getstatic 19, 3)) (k9 : G K x nL (pc + 3) lv (hf K :: st) M) : G K x nL pc lv st M := by
  obtain ⟨p, e, R, s, m, args, below, meth, c, cells, slots, Q, A⟩ := x
  obtain ⟨hx, hb, hml, hown, hts, hK, hA, hE, hd1, hd2, hd3, hd4, hrI, hrV⟩ := C
  intro H locs ls hP hD hS hl
  exact va_getsN hx hb hE.2.2.1 hS hown (va_Nw.use rfl hE.2.1) (fun _ h => h) hd (k9 H locs ls hP hD hS hl)
theorem G_aldH (C : Cok K x own cc nL d Rp) {j : Int32} (hin : vp_in j 5) (hd : decode cc pc = .ok (.iaload, 1)) (k9 : G K x nL (pc + 1) lv (.int (htab.getD j.toNatClampNeg 0) :: st) M) : G K x nL pc lv (.int j :: hf K :: st) M := by
  obtain ⟨p, e, R, s, m, args, below, meth, c, cells, slots, Q, A⟩ := x
  obtain ⟨hx, hb, hml, hown, hts, hK, hA, hE, hd1, hd2, hd3, hd4, hrI, hrV⟩ := C
  intro H locs ls hP hD hS hl
  exact va_ti hx hb hE.2.2.2.1 hS hin rfl hd (k9 H locs ls hP hD hS hl)
theorem G_alenH (C : Cok K x own cc nL d Rp) (hd : decode cc pc = .ok (.arraylength, 1)) (k9 : G K x nL (pc + 1) lv (.int 5 :: st) M) : G K x nL pc lv (hf K :: st) M := by
  obtain ⟨p, e, R, s, m, args, below, meth, c, cells, slots, Q, A⟩ := x
  obtain ⟨hx, hb, hml, hown, hts, hK, hA, hE, hd1, hd2, hd3, hd4, hrI, hrV⟩ := C
  intro H locs ls hP hD hS hl
  exact va_tlen hx hb hE.2.2.2.1 hS rfl hd (k9 H locs ls hP hD hS hl)
theorem G_getC (C : Cok K x RJ0 cc nL d Rp) {idx : Nat} (hw : Cond.fieldLink RJ0 idx "java/lang/String" "COMPACT_STRINGS" "Z" ∈ gtbl) (hd : decode cc pc = .ok (.getstatic idx, 3)) (k9 : G K x nL (pc + 3) lv (.int 1 :: st) M) : G K x nL pc lv st M := by
  obtain ⟨p, e, R, s, m, args, below, meth, c, cells, slots, Q, A⟩ := x
  obtain ⟨hx, hb, hml, hown, hts, hK, hA, hE, hd1, hd2, hd3, hd4, hrI, hrV⟩ := C
  intro H locs ls hP hD hS hl
  exact va_gets hx hb hE.2.2.2.2.1 hS hown (hts _ hw) (fun _ h => h) hd (k9 H locs ls hP hD hS hl)
theorem G_getF (C : Cok K x RJ0 cc nL d Rp) {idx : Nat} (hw : Cond.fieldLink RJ0 idx sioN "SIOOBE_FORMATTER" sioD ∈ gtbl) (hd : decode cc pc = .ok (.getstatic idx, 3)) (k9 : G K x nL (pc + 3) lv (kF K :: st) M) : G K x nL pc lv st M := by
  obtain ⟨p, e, R, s, m, args, below, meth, c, cells, slots, Q, A⟩ := x
  obtain ⟨hx, hb, hml, hown, hts, hK, hA, hE, hd1, hd2, hd3, hd4, hrI, hrV⟩ := C
  intro H locs ls hP hD hS hl
  exact va_gets hx hb hE.2.2.2.2.2.1 hS hown (hts _ hw) (fun _ h => h) hd (k9 H locs ls hP hD hS hl)
theorem G_getCo (C : Cok K x own cc nL d Rp) {idx i : Nat} (hi : i < 6) (hw : Cond.fieldLink own idx "java/lang/String" "coder" "B" ∈ gtbl) (hd : decode cc pc = .ok (.getfield idx, 3)) (k9 : G K x nL (pc + 3) lv (.int 0 :: st) M) : G K x nL pc lv (sf K i :: st) M := by
  obtain ⟨p, e, R, s, m, args, below, meth, c, cells, slots, Q, A⟩ := x
  obtain ⟨hx, hb, hml, hown, hts, hK, hA, hE, hd1, hd2, hd3, hd4, hrI, hrV⟩ := C
  intro H locs ls hP hD hS hl
  exact vk_getf hx hb (hE.2.2.2.2.2.2.1.1 i hi).2.1 hS hown (hts _ hw) (fun _ h => h) hd (k9 H locs ls hP hD hS hl)
theorem G_getVa (C : Cok K x own cc nL d Rp) {idx i : Nat} (hi : i < 6) (hw : Cond.fieldLink own idx "java/lang/String" "value" "[B" ∈ gtbl) (hd : decode cc pc = .ok (.getfield idx, 3)) (k9 : G K x nL (pc + 3) lv (sv K i :: st) M) : G K x nL pc lv (sf K i :: st) M := by
  obtain ⟨p, e, R, s, m, args, below, meth, c, cells, slots, Q, A⟩ := x
  obtain ⟨hx, hb, hml, hown, hts, hK, hA, hE, hd1, hd2, hd3, hd4, hrI, hrV⟩ := C
  intro H locs ls hP hD hS hl
  exact vk_getf hx hb (hE.2.2.2.2.2.2.1.1 i hi).2.2.1 hS hown (hts _ hw) (fun _ h => h) hd (k9 H locs ls hP hD hS hl)
theorem G_alenS (C : Cok K x own cc nL d Rp) {i : Nat} (hi : i < 6) (hd : decode cc pc = .ok (.arraylength, 1)) (k9 : G K x nL (pc + 1) lv (.int (nI (slen.getD i 0)) :: st) M) : G K x nL pc lv (sv K i :: st) M := by
  obtain ⟨p, e, R, s, m, args, below, meth, c, cells, slots, Q, A⟩ := x
  obtain ⟨hx, hb, hml, hown, hts, hK, hA, hE, hd1, hd2, hd3, hd4, hrI, hrV⟩ := C
  intro H locs ls hP hD hS hl
  exact va_tlen hx hb (hE.2.2.2.2.2.2.1.1 i hi).2.2.2 hS rfl hd (k9 H locs ls hP hD hS hl)
theorem G_aldS (C : Cok K x own cc nL d Rp) {i : Nat} {j : Int32} (hi : i < 6) (hin : vp_in j (slen.getD i 0)) (hd : decode cc pc = .ok (.baload, 1)) (k9 : G K x nL (pc + 1) lv (.int ((sbyt.getD i []).getD j.toNatClampNeg 0) :: st) M) : G K x nL pc lv (.int j :: sv K i :: st) M := by
  obtain ⟨p, e, R, s, m, args, below, meth, c, cells, slots, Q, A⟩ := x
  obtain ⟨hx, hb, hml, hown, hts, hK, hA, hE, hd1, hd2, hd3, hd4, hrI, hrV⟩ := C
  intro H locs ls hP hD hS hl
  exact va_tb hx hb (hE.2.2.2.2.2.2.1.1 i hi).2.2.2 hS hin rfl hd (k9 H locs ls hP hD hS hl)
def mOK (q : Mt) (n : Nat) : Prop := Cond.code q.1 q.2.1 q.2.2.1 q.2.2.2 ∈ gtbl ∧ Cond.initialized q.1.cls ∈ gtbl ∧ (q.1.cls ≠ "java/lang/invoke/MethodHandle" ∧ q.1.cls ≠ "java/lang/invoke/VarHandle" ∧ (parseMethodDescriptor q.1.desc).map (fun d => d.parameters.length) = some n) ∧ q.2.2.1 ≤ 17
def lkV (own : String) (idx : Nat) (q : Mt) : Prop := Cond.methodLink own idx q.1 ∈ gtbl ∧ Cond.instanceMethod q.1 ∈ gtbl ∧ Cond.selects q.1.cls q.1 q.1 ∈ gtbl
def lkS (own : String) (idx : Nat) (q : Mt) : Prop := Cond.methodLink own idx q.1 ∈ gtbl ∧ Cond.static q.1 ∈ gtbl
def lkN (own : String) (idx : Nat) (q : Mt) : Prop := (own, idx, q.1) ∈ nestM ∧ Cond.static q.1 ∈ gtbl
theorem mws_good {q : Mt} {n : Nat} (ok : mOK q n) : GoodIn gtbl (mws q) := fun w hw => by
  rcases List.mem_cons.mp hw with rfl | h
  · exact ⟨ok.1, gt_good ok.1⟩
  · exact ⟨h, gt_good h⟩
theorem A_free {K : Kt} {M : Mem} {A : Nat → Prop} {H0 H : Heap} {locs : List Loc} (hD : va_D A (wld K M)) (hS : va_S A H0 H locs) (hA : ∀ a, H0.size ≤ a → A a) : ∀ q, va_A (wld K M) H.size q → A q := by
  intro q h
  rcases h with ⟨k, e, h⟩ | h
  · exact hD.2 k (q, e) h
  · exact hA q (Nat.le_trans hS.1 h)
theorem callB_K {q : Mt} {n idx : Nat} {R : Room} {s : State} {args : Array Value} {own : String} {d : Nat} (ok : mOK q n) (hl : Cond.methodLink own idx q.1 ∈ gtbl) (hts : ∀ w ∈ gtbl, w.before args s = true) (h1 : d + 1 ≤ R.frames) (h2 : 36 * (d + 1) ≤ R.locals) : CallB R s args own idx q.1 q.2.1 q.2.2.1 q.2.2.2 (mws q) (rmD d) 0 0 n :=
  callB_of n hts (mws_good ok) rfl rfl rfl (hts _ ok.2.1) (hts _ hl) ok.2.2.1 ⟨h1, by have := ok.2.2.2; show 8 + (q.2.2.1 + 11) + 36 * d ≤ R.locals; omega⟩
theorem callN_K {q : Mt} {n idx : Nat} {R : Room} {s : State} {args : Array Value} {own : String} {d : Nat} (ok : mOK q n) (hl : va_Nw (.methodLinkNest own idx q.1 RX9) s) (hts : ∀ w ∈ gtbl, w.before args s = true) (h1 : d + 1 ≤ R.frames) (h2 : 36 * (d + 1) ≤ R.locals) : va_CN R s args own idx q.1 RX9 q.2.1 q.2.2.1 q.2.2.2 (mws q) (rmD d) 0 0 n :=
  va_cnB n hts (mws_good ok) rfl rfl rfl hl (hts _ ok.2.1) ok.2.2.1 ⟨h1, by have := ok.2.2.2; show 8 + (q.2.2.1 + 11) + 36 * d ≤ R.locals; omega⟩
end GR2
section GR3
variable {K : Kt} {x : Cx} {own : String} {cc : ByteArray} {nL d : Nat} {Rp : Option Int32 → Mem → Prop} {pc : Nat} {lv : List (Nat × Value)} {st : List Value} {M : Mem}
set_option maxHeartbeats 1000000 in
theorem G_callVi (C : Cok K x own cc nL (d + 1) Rp) {q : Mt} {n idx : Nat} {Q0 : Int32 → Mem → Prop} {As rest : List Value} (ok : mOK q n) (lk : lkV own idx q) {ci i : Nat} {fl : List (Option Nat)} (hlay : layL[i]? = some (.inl (ci, fl))) (hci : (vwCl[ci]?).map (fun r => r.1) = some q.1.cls) (hc : Ci K d q (rf K i :: As) M Q0) (hn : As.length = n) (hst : st = As.reverse ++ rf K i :: rest) (hW8 : (rest.map fun v => v.category).sum ≤ 8) (hd : decode cc pc = .ok (.invokevirtual idx, 3)) (k9 : ∀ (r : Int32) (N : Mem), Q0 r N → G K x nL (pc + 3) lv (.int r :: rest) N) : G K x nL pc lv st M := by
  obtain ⟨p, e, R, s, m, args, below, meth, c, cells, slots, Q, A⟩ := x
  obtain ⟨hx, hb, hml, hown, hts, hK, hA, hE, hd1, hd2, hd3, hd4, hrI, hrV⟩ := C
  intro H locs ls hP hD hS hl
  have hrec : ∃ cell : Cell, H[kA K i]? = some cell ∧ cell.vm.isStatics = false ∧ s.vm.findClass q.1.cls = some cell.cls := by
    cases h : vwCl[ci]? with
    | none => rw [h] at hci; simp at hci
    | some r =>
      rw [h] at hci
      simp at hci
      rw [← hci]
      exact va_recv hK hP h (wld_get hlay)
  have hF := A_free hD hS hA
  refine va_calli (va_runV (As := As) (rest := rest) (C := q.1.cls) ⟨hx, hb, hml, hown, hts⟩ (hc H.size) ⟨callB_K ok lk.1 hts hd1 hd2, hts _ lk.2.1, hts _ lk.2.2⟩ ⟨Pm.blind, hrec, fun U hU hW => ⟨rfl, by rw [hU], by rw [hU]; exact hP, va_K.moved hW.alike hK, hD.weaken (fun _ _ _ _ => trivial), hE.pass hW (fun a h1 h2 => by rw [hU]; exact hS.2.1 a h1 h2) hF⟩⟩ rfl hn hl.1 hst (lv_room hW8) hd ⟨hd3, hd4⟩) hS (fun q _ h => hF q h) hF (fun r N t H1 locs1 ht hvm hq hB hz hk hS1 => ?_)
  obtain ⟨hP1, hK1, hD1⟩ := hB
  rw [ht] at hP1
  exact k9 r N hq H1 locs1 ls hP1 (hD1.weaken (fun k q _ h => hF q.1 h)) hS1 hl
set_option maxHeartbeats 1000000 in
theorem G_callVv (C : Cok K x own cc nL (d + 1) Rp) {q : Mt} {n idx : Nat} {Q0 : Mem → Prop} {As rest : List Value} (ok : mOK q n) (lk : lkV own idx q) {ci i : Nat} {fl : List (Option Nat)} (hlay : layL[i]? = some (.inl (ci, fl))) (hci : (vwCl[ci]?).map (fun r => r.1) = some q.1.cls) (hc : Cv K d q (rf K i :: As) M Q0) (hn : As.length = n) (hst : st = As.reverse ++ rf K i :: rest) (hW8 : (rest.map fun v => v.category).sum ≤ 8) (hd : decode cc pc = .ok (.invokevirtual idx, 3)) (k9 : ∀ (N : Mem), Q0 N → G K x nL (pc + 3) lv rest N) : G K x nL pc lv st M := by
  obtain ⟨p, e, R, s, m, args, below, meth, c, cells, slots, Q, A⟩ := x
  obtain ⟨hx, hb, hml, hown, hts, hK, hA, hE, hd1, hd2, hd3, hd4, hrI, hrV⟩ := C
  intro H locs ls hP hD hS hl
  have hrec : ∃ cell : Cell, H[kA K i]? = some cell ∧ cell.vm.isStatics = false ∧ s.vm.findClass q.1.cls = some cell.cls := by
    cases h : vwCl[ci]? with
    | none => rw [h] at hci; simp at hci
    | some r =>
      rw [h] at hci
      simp at hci
      rw [← hci]
      exact va_recv hK hP h (wld_get hlay)
  have hF := A_free hD hS hA
  refine va_callv (va_runV (As := As) (rest := rest) (C := q.1.cls) ⟨hx, hb, hml, hown, hts⟩ (hc H.size) ⟨callB_K ok lk.1 hts hd1 hd2, hts _ lk.2.1, hts _ lk.2.2⟩ ⟨Pm.blind, hrec, fun U hU hW => ⟨rfl, by rw [hU], by rw [hU]; exact hP, va_K.moved hW.alike hK, hD.weaken (fun _ _ _ _ => trivial), hE.pass hW (fun a h1 h2 => by rw [hU]; exact hS.2.1 a h1 h2) hF⟩⟩ rfl hn hl.1 hst (lv_room hW8) hd ⟨hd3, hd4⟩) hS (fun q _ h => hF q h) hF (fun N t H1 locs1 ht hvm hq hB hz hk hS1 => ?_)
  obtain ⟨hP1, hK1, hD1⟩ := hB
  rw [ht] at hP1
  exact k9 N hq H1 locs1 ls hP1 (hD1.weaken (fun k q _ h => hF q.1 h)) hS1 hl
set_option maxHeartbeats 1000000 in
theorem G_callUi (C : Cok K x own cc nL (d + 1) Rp) {q : Mt} {n idx : Nat} {Q0 : Int32 → Mem → Prop} {As rest : List Value} (ok : mOK q n) (lk : lkV own idx q) {i : Nat} (hi : i < 6) (hcs : q.1.cls = "java/lang/String") (hc : Ci K d q (sf K i :: As) M Q0) (hn : As.length = n) (hst : st = As.reverse ++ sf K i :: rest) (hW8 : (rest.map fun v => v.category).sum ≤ 8) (hd : decode cc pc = .ok (.invokevirtual idx, 3)) (k9 : ∀ (r : Int32) (N : Mem), Q0 r N → G K x nL (pc + 3) lv (.int r :: rest) N) : G K x nL pc lv st M := by
  obtain ⟨p, e, R, s, m, args, below, meth, c, cells, slots, Q, A⟩ := x
  obtain ⟨hx, hb, hml, hown, hts, hK, hA, hE, hd1, hd2, hd3, hd4, hrI, hrV⟩ := C
  intro H locs ls hP hD hS hl
  have hrec : ∃ cell : Cell, H[kS K i]? = some cell ∧ cell.vm.isStatics = false ∧ s.vm.findClass q.1.cls = some cell.cls := by
    rw [hcs]
    exact vk_recv hE.2.2.2.2.2.2.1 hi hS
  have hF := A_free hD hS hA
  refine va_calli (va_runV (As := As) (rest := rest) (C := q.1.cls) ⟨hx, hb, hml, hown, hts⟩ (hc H.size) ⟨callB_K ok lk.1 hts hd1 hd2, hts _ lk.2.1, hts _ lk.2.2⟩ ⟨Pm.blind, hrec, fun U hU hW => ⟨rfl, by rw [hU], by rw [hU]; exact hP, va_K.moved hW.alike hK, hD.weaken (fun _ _ _ _ => trivial), hE.pass hW (fun a h1 h2 => by rw [hU]; exact hS.2.1 a h1 h2) hF⟩⟩ rfl hn hl.1 hst (lv_room hW8) hd ⟨hd3, hd4⟩) hS (fun q _ h => hF q h) hF (fun r N t H1 locs1 ht hvm hq hB hz hk hS1 => ?_)
  obtain ⟨hP1, hK1, hD1⟩ := hB
  rw [ht] at hP1
  exact k9 r N hq H1 locs1 ls hP1 (hD1.weaken (fun k q _ h => hF q.1 h)) hS1 hl
set_option maxHeartbeats 1000000 in
theorem G_callUv (C : Cok K x own cc nL (d + 1) Rp) {q : Mt} {n idx : Nat} {Q0 : Mem → Prop} {As rest : List Value} (ok : mOK q n) (lk : lkV own idx q) {i : Nat} (hi : i < 6) (hcs : q.1.cls = "java/lang/String") (hc : Cv K d q (sf K i :: As) M Q0) (hn : As.length = n) (hst : st = As.reverse ++ sf K i :: rest) (hW8 : (rest.map fun v => v.category).sum ≤ 8) (hd : decode cc pc = .ok (.invokevirtual idx, 3)) (k9 : ∀ (N : Mem), Q0 N → G K x nL (pc + 3) lv rest N) : G K x nL pc lv st M := by
  obtain ⟨p, e, R, s, m, args, below, meth, c, cells, slots, Q, A⟩ := x
  obtain ⟨hx, hb, hml, hown, hts, hK, hA, hE, hd1, hd2, hd3, hd4, hrI, hrV⟩ := C
  intro H locs ls hP hD hS hl
  have hrec : ∃ cell : Cell, H[kS K i]? = some cell ∧ cell.vm.isStatics = false ∧ s.vm.findClass q.1.cls = some cell.cls := by
    rw [hcs]
    exact vk_recv hE.2.2.2.2.2.2.1 hi hS
  have hF := A_free hD hS hA
  refine va_callv (va_runV (As := As) (rest := rest) (C := q.1.cls) ⟨hx, hb, hml, hown, hts⟩ (hc H.size) ⟨callB_K ok lk.1 hts hd1 hd2, hts _ lk.2.1, hts _ lk.2.2⟩ ⟨Pm.blind, hrec, fun U hU hW => ⟨rfl, by rw [hU], by rw [hU]; exact hP, va_K.moved hW.alike hK, hD.weaken (fun _ _ _ _ => trivial), hE.pass hW (fun a h1 h2 => by rw [hU]; exact hS.2.1 a h1 h2) hF⟩⟩ rfl hn hl.1 hst (lv_room hW8) hd ⟨hd3, hd4⟩) hS (fun q _ h => hF q h) hF (fun N t H1 locs1 ht hvm hq hB hz hk hS1 => ?_)
  obtain ⟨hP1, hK1, hD1⟩ := hB
  rw [ht] at hP1
  exact k9 N hq H1 locs1 ls hP1 (hD1.weaken (fun k q _ h => hF q.1 h)) hS1 hl
set_option maxHeartbeats 1000000 in
theorem G_callSi (C : Cok K x own cc nL (d + 1) Rp) {q : Mt} {n idx : Nat} {Q0 : Int32 → Mem → Prop} {As rest : List Value} (ok : mOK q n) (lk : lkS own idx q) (hc : Ci K d q As M Q0) (hn : As.length = n) (hst : st = As.reverse ++ rest) (hW8 : (rest.map fun v => v.category).sum ≤ 8) (hd : decode cc pc = .ok (.invokestatic idx, 3)) (k9 : ∀ (r : Int32) (N : Mem), Q0 r N → G K x nL (pc + 3) lv (.int r :: rest) N) : G K x nL pc lv st M := by
  obtain ⟨p, e, R, s, m, args, below, meth, c, cells, slots, Q, A⟩ := x
  obtain ⟨hx, hb, hml, hown, hts, hK, hA, hE, hd1, hd2, hd3, hd4, hrI, hrV⟩ := C
  intro H locs ls hP hD hS hl
  have hF := A_free hD hS hA
  refine va_calli (va_runS (As := As) (rest := rest) ⟨hx, hb, hml, hown, hts⟩ (hc H.size) ⟨callB_K ok lk.1 hts hd1 hd2, hts _ lk.2⟩ ⟨Pm.blind, fun U hU hW => ⟨rfl, by rw [hU], by rw [hU]; exact hP, va_K.moved hW.alike hK, hD.weaken (fun _ _ _ _ => trivial), hE.pass hW (fun a h1 h2 => by rw [hU]; exact hS.2.1 a h1 h2) hF⟩⟩ rfl hn hl.1 hst (lv_room hW8) hd ⟨hd3, hd4⟩) hS (fun q _ h => hF q h) hF (fun r N t H1 locs1 ht hvm hq hB hz hk hS1 => ?_)
  obtain ⟨hP1, hK1, hD1⟩ := hB
  rw [ht] at hP1
  exact k9 r N hq H1 locs1 ls hP1 (hD1.weaken (fun k q _ h => hF q.1 h)) hS1 hl
set_option maxHeartbeats 1000000 in
theorem G_callSv (C : Cok K x own cc nL (d + 1) Rp) {q : Mt} {n idx : Nat} {Q0 : Mem → Prop} {As rest : List Value} (ok : mOK q n) (lk : lkS own idx q) (hc : Cv K d q As M Q0) (hn : As.length = n) (hst : st = As.reverse ++ rest) (hW8 : (rest.map fun v => v.category).sum ≤ 8) (hd : decode cc pc = .ok (.invokestatic idx, 3)) (k9 : ∀ (N : Mem), Q0 N → G K x nL (pc + 3) lv rest N) : G K x nL pc lv st M := by
  obtain ⟨p, e, R, s, m, args, below, meth, c, cells, slots, Q, A⟩ := x
  obtain ⟨hx, hb, hml, hown, hts, hK, hA, hE, hd1, hd2, hd3, hd4, hrI, hrV⟩ := C
  intro H locs ls hP hD hS hl
  have hF := A_free hD hS hA
  refine va_callv (va_runS (As := As) (rest := rest) ⟨hx, hb, hml, hown, hts⟩ (hc H.size) ⟨callB_K ok lk.1 hts hd1 hd2, hts _ lk.2⟩ ⟨Pm.blind, fun U hU hW => ⟨rfl, by rw [hU], by rw [hU]; exact hP, va_K.moved hW.alike hK, hD.weaken (fun _ _ _ _ => trivial), hE.pass hW (fun a h1 h2 => by rw [hU]; exact hS.2.1 a h1 h2) hF⟩⟩ rfl hn hl.1 hst (lv_room hW8) hd ⟨hd3, hd4⟩) hS (fun q _ h => hF q h) hF (fun N t H1 locs1 ht hvm hq hB hz hk hS1 => ?_)
  obtain ⟨hP1, hK1, hD1⟩ := hB
  rw [ht] at hP1
  exact k9 N hq H1 locs1 ls hP1 (hD1.weaken (fun k q _ h => hF q.1 h)) hS1 hl
set_option maxHeartbeats 1000000 in
theorem G_callNi (C : Cok K x own cc nL (d + 1) Rp) {q : Mt} {n idx : Nat} {Q0 : Int32 → Mem → Prop} {As rest : List Value} (ok : mOK q n) (lk : lkN own idx q) (hc : Ci K d q As M Q0) (hn : As.length = n) (hst : st = As.reverse ++ rest) (hW8 : (rest.map fun v => v.category).sum ≤ 8) (hd : decode cc pc = .ok (.invokestatic idx, 3)) (k9 : ∀ (r : Int32) (N : Mem), Q0 r N → G K x nL (pc + 3) lv (.int r :: rest) N) : G K x nL pc lv st M := by
  obtain ⟨p, e, R, s, m, args, below, meth, c, cells, slots, Q, A⟩ := x
  obtain ⟨hx, hb, hml, hown, hts, hK, hA, hE, hd1, hd2, hd3, hd4, hrI, hrV⟩ := C
  intro H locs ls hP hD hS hl
  have hF := A_free hD hS hA
  refine va_calli (va_runSN (As := As) (rest := rest) (host := RX9) ⟨hx, hb, hml, hown, hts⟩ (hc H.size) ⟨callN_K ok (hE.1 _ lk.1) hts hd1 hd2, hts _ lk.2, trivial⟩ ⟨Pm.blind, fun U hU hW => ⟨rfl, by rw [hU], by rw [hU]; exact hP, va_K.moved hW.alike hK, hD.weaken (fun _ _ _ _ => trivial), hE.pass hW (fun a h1 h2 => by rw [hU]; exact hS.2.1 a h1 h2) hF⟩⟩ rfl hn hl.1 hst (lv_room hW8) hd ⟨hd3, hd4⟩) hS (fun q _ h => hF q h) hF (fun r N t H1 locs1 ht hvm hq hB hz hk hS1 => ?_)
  obtain ⟨hP1, hK1, hD1⟩ := hB
  rw [ht] at hP1
  exact k9 r N hq H1 locs1 ls hP1 (hD1.weaken (fun k q _ h => hF q.1 h)) hS1 hl
set_option maxHeartbeats 1000000 in
theorem G_callNv (C : Cok K x own cc nL (d + 1) Rp) {q : Mt} {n idx : Nat} {Q0 : Mem → Prop} {As rest : List Value} (ok : mOK q n) (lk : lkN own idx q) (hc : Cv K d q As M Q0) (hn : As.length = n) (hst : st = As.reverse ++ rest) (hW8 : (rest.map fun v => v.category).sum ≤ 8) (hd : decode cc pc = .ok (.invokestatic idx, 3)) (k9 : ∀ (N : Mem), Q0 N → G K x nL (pc + 3) lv rest N) : G K x nL pc lv st M := by
  obtain ⟨p, e, R, s, m, args, below, meth, c, cells, slots, Q, A⟩ := x
  obtain ⟨hx, hb, hml, hown, hts, hK, hA, hE, hd1, hd2, hd3, hd4, hrI, hrV⟩ := C
  intro H locs ls hP hD hS hl
  have hF := A_free hD hS hA
  refine va_callv (va_runSN (As := As) (rest := rest) (host := RX9) ⟨hx, hb, hml, hown, hts⟩ (hc H.size) ⟨callN_K ok (hE.1 _ lk.1) hts hd1 hd2, hts _ lk.2, trivial⟩ ⟨Pm.blind, fun U hU hW => ⟨rfl, by rw [hU], by rw [hU]; exact hP, va_K.moved hW.alike hK, hD.weaken (fun _ _ _ _ => trivial), hE.pass hW (fun a h1 h2 => by rw [hU]; exact hS.2.1 a h1 h2) hF⟩⟩ rfl hn hl.1 hst (lv_room hW8) hd ⟨hd3, hd4⟩) hS (fun q _ h => hF q h) hF (fun N t H1 locs1 ht hvm hq hB hz hk hS1 => ?_)
  obtain ⟨hP1, hK1, hD1⟩ := hB
  rw [ht] at hP1
  exact k9 N hq H1 locs1 ls hP1 (hD1.weaken (fun k q _ h => hF q.1 h)) hS1 hl
def Ri (K : Kt) (d : Nat) (q : Mt) (av : List Value) (M : Mem) (r : Int32) (M' : Mem) : Prop := Ci K d q av M (fun v N => v = r ∧ N = M')
def Rv (K : Kt) (d : Nat) (q : Mt) (av : List Value) (M : Mem) (M' : Mem) : Prop := Cv K d q av M (fun N => N = M')
theorem G_cVi0 (C : Cok K x own cc nL (d + 1) Rp) {q : Mt} {idx : Nat} {Q0 : Int32 → Mem → Prop} {rest : List Value} (ok : mOK q 0) (lk : lkV own idx q) {ci i : Nat} {fl : List (Option Nat)} (hlay : layL[i]? = some (.inl (ci, fl))) (hci : (vwCl[ci]?).map (fun r => r.1) = some q.1.cls) (hc : Ci K d q [rf K i] M Q0) (hW8 : (rest.map fun v => v.category).sum ≤ 8) (hd : decode cc pc = .ok (.invokevirtual idx, 3)) (k9 : ∀ (r : Int32) (N : Mem), Q0 r N → G K x nL (pc + 3) lv (.int r :: rest) N) : G K x nL pc lv (rf K i :: rest) M := G_callVi C (As := []) ok lk hlay hci hc rfl rfl hW8 hd k9
theorem G_cVr0 (C : Cok K x own cc nL (d + 1) Rp) {q : Mt} {idx : Nat} {r : Int32} {N : Mem} {rest : List Value} (ok : mOK q 0) (lk : lkV own idx q) {ci i : Nat} {fl : List (Option Nat)} (hlay : layL[i]? = some (.inl (ci, fl))) (hci : (vwCl[ci]?).map (fun r => r.1) = some q.1.cls) (hc : Ri K d q [rf K i] M r N) (hW8 : (rest.map fun v => v.category).sum ≤ 8) (hd : decode cc pc = .ok (.invokevirtual idx, 3)) (k9 : G K x nL (pc + 3) lv (.int r :: rest) N) : G K x nL pc lv (rf K i :: rest) M := G_callVi C (As := []) ok lk hlay hci hc rfl rfl hW8 hd (fun r' N' h => by obtain ⟨rfl, rfl⟩ := h; exact k9)
theorem G_cVv0 (C : Cok K x own cc nL (d + 1) Rp) {q : Mt} {idx : Nat} {Q0 : Mem → Prop} {rest : List Value} (ok : mOK q 0) (lk : lkV own idx q) {ci i : Nat} {fl : List (Option Nat)} (hlay : layL[i]? = some (.inl (ci, fl))) (hci : (vwCl[ci]?).map (fun r => r.1) = some q.1.cls) (hc : Cv K d q [rf K i] M Q0) (hW8 : (rest.map fun v => v.category).sum ≤ 8) (hd : decode cc pc = .ok (.invokevirtual idx, 3)) (k9 : ∀ (N : Mem), Q0 N → G K x nL (pc + 3) lv rest N) : G K x nL pc lv (rf K i :: rest) M := G_callVv C (As := []) ok lk hlay hci hc rfl rfl hW8 hd k9
theorem G_cVw0 (C : Cok K x own cc nL (d + 1) Rp) {q : Mt} {idx : Nat} {N : Mem} {rest : List Value} (ok : mOK q 0) (lk : lkV own idx q) {ci i : Nat} {fl : List (Option Nat)} (hlay : layL[i]? = some (.inl (ci, fl))) (hci : (vwCl[ci]?).map (fun r => r.1) = some q.1.cls) (hc : Rv K d q [rf K i] M N) (hW8 : (rest.map fun v => v.category).sum ≤ 8) (hd : decode cc pc = .ok (.invokevirtual idx, 3)) (k9 : G K x nL (pc + 3) lv rest N) : G K x nL pc lv (rf K i :: rest) M := G_callVv C (As := []) ok lk hlay hci hc rfl rfl hW8 hd (fun N' h => by subst h; exact k9)
theorem G_cVi1 (C : Cok K x own cc nL (d + 1) Rp) {q : Mt} {idx : Nat} {Q0 : Int32 → Mem → Prop} {v1 : Value} {rest : List Value} (ok : mOK q 1) (lk : lkV own idx q) {ci i : Nat} {fl : List (Option Nat)} (hlay : layL[i]? = some (.inl (ci, fl))) (hci : (vwCl[ci]?).map (fun r => r.1) = some q.1.cls) (hc : Ci K d q [rf K i, v1] M Q0) (hW8 : (rest.map fun v => v.category).sum ≤ 8) (hd : decode cc pc = .ok (.invokevirtual idx, 3)) (k9 : ∀ (r : Int32) (N : Mem), Q0 r N → G K x nL (pc + 3) lv (.int r :: rest) N) : G K x nL pc lv (v1 :: rf K i :: rest) M := G_callVi C (As := [v1]) ok lk hlay hci hc rfl rfl hW8 hd k9
theorem G_cVr1 (C : Cok K x own cc nL (d + 1) Rp) {q : Mt} {idx : Nat} {r : Int32} {N : Mem} {v1 : Value} {rest : List Value} (ok : mOK q 1) (lk : lkV own idx q) {ci i : Nat} {fl : List (Option Nat)} (hlay : layL[i]? = some (.inl (ci, fl))) (hci : (vwCl[ci]?).map (fun r => r.1) = some q.1.cls) (hc : Ri K d q [rf K i, v1] M r N) (hW8 : (rest.map fun v => v.category).sum ≤ 8) (hd : decode cc pc = .ok (.invokevirtual idx, 3)) (k9 : G K x nL (pc + 3) lv (.int r :: rest) N) : G K x nL pc lv (v1 :: rf K i :: rest) M := G_callVi C (As := [v1]) ok lk hlay hci hc rfl rfl hW8 hd (fun r' N' h => by obtain ⟨rfl, rfl⟩ := h; exact k9)
theorem G_cVv1 (C : Cok K x own cc nL (d + 1) Rp) {q : Mt} {idx : Nat} {Q0 : Mem → Prop} {v1 : Value} {rest : List Value} (ok : mOK q 1) (lk : lkV own idx q) {ci i : Nat} {fl : List (Option Nat)} (hlay : layL[i]? = some (.inl (ci, fl))) (hci : (vwCl[ci]?).map (fun r => r.1) = some q.1.cls) (hc : Cv K d q [rf K i, v1] M Q0) (hW8 : (rest.map fun v => v.category).sum ≤ 8) (hd : decode cc pc = .ok (.invokevirtual idx, 3)) (k9 : ∀ (N : Mem), Q0 N → G K x nL (pc + 3) lv rest N) : G K x nL pc lv (v1 :: rf K i :: rest) M := G_callVv C (As := [v1]) ok lk hlay hci hc rfl rfl hW8 hd k9
theorem G_cVw1 (C : Cok K x own cc nL (d + 1) Rp) {q : Mt} {idx : Nat} {N : Mem} {v1 : Value} {rest : List Value} (ok : mOK q 1) (lk : lkV own idx q) {ci i : Nat} {fl : List (Option Nat)} (hlay : layL[i]? = some (.inl (ci, fl))) (hci : (vwCl[ci]?).map (fun r => r.1) = some q.1.cls) (hc : Rv K d q [rf K i, v1] M N) (hW8 : (rest.map fun v => v.category).sum ≤ 8) (hd : decode cc pc = .ok (.invokevirtual idx, 3)) (k9 : G K x nL (pc + 3) lv rest N) : G K x nL pc lv (v1 :: rf K i :: rest) M := G_callVv C (As := [v1]) ok lk hlay hci hc rfl rfl hW8 hd (fun N' h => by subst h; exact k9)
theorem G_cVi2 (C : Cok K x own cc nL (d + 1) Rp) {q : Mt} {idx : Nat} {Q0 : Int32 → Mem → Prop} {v1 v2 : Value} {rest : List Value} (ok : mOK q 2) (lk : lkV own idx q) {ci i : Nat} {fl : List (Option Nat)} (hlay : layL[i]? = some (.inl (ci, fl))) (hci : (vwCl[ci]?).map (fun r => r.1) = some q.1.cls) (hc : Ci K d q [rf K i, v1, v2] M Q0) (hW8 : (rest.map fun v => v.category).sum ≤ 8) (hd : decode cc pc = .ok (.invokevirtual idx, 3)) (k9 : ∀ (r : Int32) (N : Mem), Q0 r N → G K x nL (pc + 3) lv (.int r :: rest) N) : G K x nL pc lv (v2 :: v1 :: rf K i :: rest) M := G_callVi C (As := [v1, v2]) ok lk hlay hci hc rfl rfl hW8 hd k9
theorem G_cVr2 (C : Cok K x own cc nL (d + 1) Rp) {q : Mt} {idx : Nat} {r : Int32} {N : Mem} {v1 v2 : Value} {rest : List Value} (ok : mOK q 2) (lk : lkV own idx q) {ci i : Nat} {fl : List (Option Nat)} (hlay : layL[i]? = some (.inl (ci, fl))) (hci : (vwCl[ci]?).map (fun r => r.1) = some q.1.cls) (hc : Ri K d q [rf K i, v1, v2] M r N) (hW8 : (rest.map fun v => v.category).sum ≤ 8) (hd : decode cc pc = .ok (.invokevirtual idx, 3)) (k9 : G K x nL (pc + 3) lv (.int r :: rest) N) : G K x nL pc lv (v2 :: v1 :: rf K i :: rest) M := G_callVi C (As := [v1, v2]) ok lk hlay hci hc rfl rfl hW8 hd (fun r' N' h => by obtain ⟨rfl, rfl⟩ := h; exact k9)
theorem G_cVv2 (C : Cok K x own cc nL (d + 1) Rp) {q : Mt} {idx : Nat} {Q0 : Mem → Prop} {v1 v2 : Value} {rest : List Value} (ok : mOK q 2) (lk : lkV own idx q) {ci i : Nat} {fl : List (Option Nat)} (hlay : layL[i]? = some (.inl (ci, fl))) (hci : (vwCl[ci]?).map (fun r => r.1) = some q.1.cls) (hc : Cv K d q [rf K i, v1, v2] M Q0) (hW8 : (rest.map fun v => v.category).sum ≤ 8) (hd : decode cc pc = .ok (.invokevirtual idx, 3)) (k9 : ∀ (N : Mem), Q0 N → G K x nL (pc + 3) lv rest N) : G K x nL pc lv (v2 :: v1 :: rf K i :: rest) M := G_callVv C (As := [v1, v2]) ok lk hlay hci hc rfl rfl hW8 hd k9
theorem G_cVw2 (C : Cok K x own cc nL (d + 1) Rp) {q : Mt} {idx : Nat} {N : Mem} {v1 v2 : Value} {rest : List Value} (ok : mOK q 2) (lk : lkV own idx q) {ci i : Nat} {fl : List (Option Nat)} (hlay : layL[i]? = some (.inl (ci, fl))) (hci : (vwCl[ci]?).map (fun r => r.1) = some q.1.cls) (hc : Rv K d q [rf K i, v1, v2] M N) (hW8 : (rest.map fun v => v.category).sum ≤ 8) (hd : decode cc pc = .ok (.invokevirtual idx, 3)) (k9 : G K x nL (pc + 3) lv rest N) : G K x nL pc lv (v2 :: v1 :: rf K i :: rest) M := G_callVv C (As := [v1, v2]) ok lk hlay hci hc rfl rfl hW8 hd (fun N' h => by subst h; exact k9)
theorem G_cVi3 (C : Cok K x own cc nL (d + 1) Rp) {q : Mt} {idx : Nat} {Q0 : Int32 → Mem → Prop} {v1 v2 v3 : Value} {rest : List Value} (ok : mOK q 3) (lk : lkV own idx q) {ci i : Nat} {fl : List (Option Nat)} (hlay : layL[i]? = some (.inl (ci, fl))) (hci : (vwCl[ci]?).map (fun r => r.1) = some q.1.cls) (hc : Ci K d q [rf K i, v1, v2, v3] M Q0) (hW8 : (rest.map fun v => v.category).sum ≤ 8) (hd : decode cc pc = .ok (.invokevirtual idx, 3)) (k9 : ∀ (r : Int32) (N : Mem), Q0 r N → G K x nL (pc + 3) lv (.int r :: rest) N) : G K x nL pc lv (v3 :: v2 :: v1 :: rf K i :: rest) M := G_callVi C (As := [v1, v2, v3]) ok lk hlay hci hc rfl rfl hW8 hd k9
theorem G_cVr3 (C : Cok K x own cc nL (d + 1) Rp) {q : Mt} {idx : Nat} {r : Int32} {N : Mem} {v1 v2 v3 : Value} {rest : List Value} (ok : mOK q 3) (lk : lkV own idx q) {ci i : Nat} {fl : List (Option Nat)} (hlay : layL[i]? = some (.inl (ci, fl))) (hci : (vwCl[ci]?).map (fun r => r.1) = some q.1.cls) (hc : Ri K d q [rf K i, v1, v2, v3] M r N) (hW8 : (rest.map fun v => v.category).sum ≤ 8) (hd : decode cc pc = .ok (.invokevirtual idx, 3)) (k9 : G K x nL (pc + 3) lv (.int r :: rest) N) : G K x nL pc lv (v3 :: v2 :: v1 :: rf K i :: rest) M := G_callVi C (As := [v1, v2, v3]) ok lk hlay hci hc rfl rfl hW8 hd (fun r' N' h => by obtain ⟨rfl, rfl⟩ := h; exact k9)
theorem G_cVv3 (C : Cok K x own cc nL (d + 1) Rp) {q : Mt} {idx : Nat} {Q0 : Mem → Prop} {v1 v2 v3 : Value} {rest : List Value} (ok : mOK q 3) (lk : lkV own idx q) {ci i : Nat} {fl : List (Option Nat)} (hlay : layL[i]? = some (.inl (ci, fl))) (hci : (vwCl[ci]?).map (fun r => r.1) = some q.1.cls) (hc : Cv K d q [rf K i, v1, v2, v3] M Q0) (hW8 : (rest.map fun v => v.category).sum ≤ 8) (hd : decode cc pc = .ok (.invokevirtual idx, 3)) (k9 : ∀ (N : Mem), Q0 N → G K x nL (pc + 3) lv rest N) : G K x nL pc lv (v3 :: v2 :: v1 :: rf K i :: rest) M := G_callVv C (As := [v1, v2, v3]) ok lk hlay hci hc rfl rfl hW8 hd k9
theorem G_cVw3 (C : Cok K x own cc nL (d + 1) Rp) {q : Mt} {idx : Nat} {N : Mem} {v1 v2 v3 : Value} {rest : List Value} (ok : mOK q 3) (lk : lkV own idx q) {ci i : Nat} {fl : List (Option Nat)} (hlay : layL[i]? = some (.inl (ci, fl))) (hci : (vwCl[ci]?).map (fun r => r.1) = some q.1.cls) (hc : Rv K d q [rf K i, v1, v2, v3] M N) (hW8 : (rest.map fun v => v.category).sum ≤ 8) (hd : decode cc pc = .ok (.invokevirtual idx, 3)) (k9 : G K x nL (pc + 3) lv rest N) : G K x nL pc lv (v3 :: v2 :: v1 :: rf K i :: rest) M := G_callVv C (As := [v1, v2, v3]) ok lk hlay hci hc rfl rfl hW8 hd (fun N' h => by subst h; exact k9)
theorem G_cVi4 (C : Cok K x own cc nL (d + 1) Rp) {q : Mt} {idx : Nat} {Q0 : Int32 → Mem → Prop} {v1 v2 v3 v4 : Value} {rest : List Value} (ok : mOK q 4) (lk : lkV own idx q) {ci i : Nat} {fl : List (Option Nat)} (hlay : layL[i]? = some (.inl (ci, fl))) (hci : (vwCl[ci]?).map (fun r => r.1) = some q.1.cls) (hc : Ci K d q [rf K i, v1, v2, v3, v4] M Q0) (hW8 : (rest.map fun v => v.category).sum ≤ 8) (hd : decode cc pc = .ok (.invokevirtual idx, 3)) (k9 : ∀ (r : Int32) (N : Mem), Q0 r N → G K x nL (pc + 3) lv (.int r :: rest) N) : G K x nL pc lv (v4 :: v3 :: v2 :: v1 :: rf K i :: rest) M := G_callVi C (As := [v1, v2, v3, v4]) ok lk hlay hci hc rfl rfl hW8 hd k9
theorem G_cVr4 (C : Cok K x own cc nL (d + 1) Rp) {q : Mt} {idx : Nat} {r : Int32} {N : Mem} {v1 v2 v3 v4 : Value} {rest : List Value} (ok : mOK q 4) (lk : lkV own idx q) {ci i : Nat} {fl : List (Option Nat)} (hlay : layL[i]? = some (.inl (ci, fl))) (hci : (vwCl[ci]?).map (fun r => r.1) = some q.1.cls) (hc : Ri K d q [rf K i, v1, v2, v3, v4] M r N) (hW8 : (rest.map fun v => v.category).sum ≤ 8) (hd : decode cc pc = .ok (.invokevirtual idx, 3)) (k9 : G K x nL (pc + 3) lv (.int r :: rest) N) : G K x nL pc lv (v4 :: v3 :: v2 :: v1 :: rf K i :: rest) M := G_callVi C (As := [v1, v2, v3, v4]) ok lk hlay hci hc rfl rfl hW8 hd (fun r' N' h => by obtain ⟨rfl, rfl⟩ := h; exact k9)
theorem G_cVv4 (C : Cok K x own cc nL (d + 1) Rp) {q : Mt} {idx : Nat} {Q0 : Mem → Prop} {v1 v2 v3 v4 : Value} {rest : List Value} (ok : mOK q 4) (lk : lkV own idx q) {ci i : Nat} {fl : List (Option Nat)} (hlay : layL[i]? = some (.inl (ci, fl))) (hci : (vwCl[ci]?).map (fun r => r.1) = some q.1.cls) (hc : Cv K d q [rf K i, v1, v2, v3, v4] M Q0) (hW8 : (rest.map fun v => v.category).sum ≤ 8) (hd : decode cc pc = .ok (.invokevirtual idx, 3)) (k9 : ∀ (N : Mem), Q0 N → G K x nL (pc + 3) lv rest N) : G K x nL pc lv (v4 :: v3 :: v2 :: v1 :: rf K i :: rest) M := G_callVv C (As := [v1, v2, v3, v4]) ok lk hlay hci hc rfl rfl hW8 hd k9
theorem G_cVw4 (C : Cok K x own cc nL (d + 1) Rp) {q : Mt} {idx : Nat} {N : Mem} {v1 v2 v3 v4 : Value} {rest : List Value} (ok : mOK q 4) (lk : lkV own idx q) {ci i : Nat} {fl : List (Option Nat)} (hlay : layL[i]? = some (.inl (ci, fl))) (hci : (vwCl[ci]?).map (fun r => r.1) = some q.1.cls) (hc : Rv K d q [rf K i, v1, v2, v3, v4] M N) (hW8 : (rest.map fun v => v.category).sum ≤ 8) (hd : decode cc pc = .ok (.invokevirtual idx, 3)) (k9 : G K x nL (pc + 3) lv rest N) : G K x nL pc lv (v4 :: v3 :: v2 :: v1 :: rf K i :: rest) M := G_callVv C (As := [v1, v2, v3, v4]) ok lk hlay hci hc rfl rfl hW8 hd (fun N' h => by subst h; exact k9)
theorem G_cVi5 (C : Cok K x own cc nL (d + 1) Rp) {q : Mt} {idx : Nat} {Q0 : Int32 → Mem → Prop} {v1 v2 v3 v4 v5 : Value} {rest : List Value} (ok : mOK q 5) (lk : lkV own idx q) {ci i : Nat} {fl : List (Option Nat)} (hlay : layL[i]? = some (.inl (ci, fl))) (hci : (vwCl[ci]?).map (fun r => r.1) = some q.1.cls) (hc : Ci K d q [rf K i, v1, v2, v3, v4, v5] M Q0) (hW8 : (rest.map fun v => v.category).sum ≤ 8) (hd : decode cc pc = .ok (.invokevirtual idx, 3)) (k9 : ∀ (r : Int32) (N : Mem), Q0 r N → G K x nL (pc + 3) lv (.int r :: rest) N) : G K x nL pc lv (v5 :: v4 :: v3 :: v2 :: v1 :: rf K i :: rest) M := G_callVi C (As := [v1, v2, v3, v4, v5]) ok lk hlay hci hc rfl rfl hW8 hd k9
theorem G_cVr5 (C : Cok K x own cc nL (d + 1) Rp) {q : Mt} {idx : Nat} {r : Int32} {N : Mem} {v1 v2 v3 v4 v5 : Value} {rest : List Value} (ok : mOK q 5) (lk : lkV own idx q) {ci i : Nat} {fl : List (Option Nat)} (hlay : layL[i]? = some (.inl (ci, fl))) (hci : (vwCl[ci]?).map (fun r => r.1) = some q.1.cls) (hc : Ri K d q [rf K i, v1, v2, v3, v4, v5] M r N) (hW8 : (rest.map fun v => v.category).sum ≤ 8) (hd : decode cc pc = .ok (.invokevirtual idx, 3)) (k9 : G K x nL (pc + 3) lv (.int r :: rest) N) : G K x nL pc lv (v5 :: v4 :: v3 :: v2 :: v1 :: rf K i :: rest) M := G_callVi C (As := [v1, v2, v3, v4, v5]) ok lk hlay hci hc rfl rfl hW8 hd (fun r' N' h => by obtain ⟨rfl, rfl⟩ := h; exact k9)
theorem G_cVv5 (C : Cok K x own cc nL (d + 1) Rp) {q : Mt} {idx : Nat} {Q0 : Mem → Prop} {v1 v2 v3 v4 v5 : Value} {rest : List Value} (ok : mOK q 5) (lk : lkV own idx q) {ci i : Nat} {fl : List (Option Nat)} (hlay : layL[i]? = some (.inl (ci, fl))) (hci : (vwCl[ci]?).map (fun r => r.1) = some q.1.cls) (hc : Cv K d q [rf K i, v1, v2, v3, v4, v5] M Q0) (hW8 : (rest.map fun v => v.category).sum ≤ 8) (hd : decode cc pc = .ok (.invokevirtual idx, 3)) (k9 : ∀ (N : Mem), Q0 N → G K x nL (pc + 3) lv rest N) : G K x nL pc lv (v5 :: v4 :: v3 :: v2 :: v1 :: rf K i :: rest) M := G_callVv C (As := [v1, v2, v3, v4, v5]) ok lk hlay hci hc rfl rfl hW8 hd k9
theorem G_cVw5 (C : Cok K x own cc nL (d + 1) Rp) {q : Mt} {idx : Nat} {N : Mem} {v1 v2 v3 v4 v5 : Value} {rest : List Value} (ok : mOK q 5) (lk : lkV own idx q) {ci i : Nat} {fl : List (Option Nat)} (hlay : layL[i]? = some (.inl (ci, fl))) (hci : (vwCl[ci]?).map (fun r => r.1) = some q.1.cls) (hc : Rv K d q [rf K i, v1, v2, v3, v4, v5] M N) (hW8 : (rest.map fun v => v.category).sum ≤ 8) (hd : decode cc pc = .ok (.invokevirtual idx, 3)) (k9 : G K x nL (pc + 3) lv rest N) : G K x nL pc lv (v5 :: v4 :: v3 :: v2 :: v1 :: rf K i :: rest) M := G_callVv C (As := [v1, v2, v3, v4, v5]) ok lk hlay hci hc rfl rfl hW8 hd (fun N' h => by subst h; exact k9)
theorem G_cUi0 (C : Cok K x own cc nL (d + 1) Rp) {q : Mt} {idx : Nat} {Q0 : Int32 → Mem → Prop} {rest : List Value} (ok : mOK q 0) (lk : lkV own idx q) {i : Nat} (hi : i < 6) (hcs : q.1.cls = "java/lang/String") (hc : Ci K d q [sf K i] M Q0) (hW8 : (rest.map fun v => v.category).sum ≤ 8) (hd : decode cc pc = .ok (.invokevirtual idx, 3)) (k9 : ∀ (r : Int32) (N : Mem), Q0 r N → G K x nL (pc + 3) lv (.int r :: rest) N) : G K x nL pc lv (sf K i :: rest) M := G_callUi C (As := []) ok lk hi hcs hc rfl rfl hW8 hd k9
theorem G_cUr0 (C : Cok K x own cc nL (d + 1) Rp) {q : Mt} {idx : Nat} {r : Int32} {N : Mem} {rest : List Value} (ok : mOK q 0) (lk : lkV own idx q) {i : Nat} (hi : i < 6) (hcs : q.1.cls = "java/lang/String") (hc : Ri K d q [sf K i] M r N) (hW8 : (rest.map fun v => v.category).sum ≤ 8) (hd : decode cc pc = .ok (.invokevirtual idx, 3)) (k9 : G K x nL (pc + 3) lv (.int r :: rest) N) : G K x nL pc lv (sf K i :: rest) M := G_callUi C (As := []) ok lk hi hcs hc rfl rfl hW8 hd (fun r' N' h => by obtain ⟨rfl, rfl⟩ := h; exact k9)
theorem G_cUv0 (C : Cok K x own cc nL (d + 1) Rp) {q : Mt} {idx : Nat} {Q0 : Mem → Prop} {rest : List Value} (ok : mOK q 0) (lk : lkV own idx q) {i : Nat} (hi : i < 6) (hcs : q.1.cls = "java/lang/String") (hc : Cv K d q [sf K i] M Q0) (hW8 : (rest.map fun v => v.category).sum ≤ 8) (hd : decode cc pc = .ok (.invokevirtual idx, 3)) (k9 : ∀ (N : Mem), Q0 N → G K x nL (pc + 3) lv rest N) : G K x nL pc lv (sf K i :: rest) M := G_callUv C (As := []) ok lk hi hcs hc rfl rfl hW8 hd k9
theorem G_cUw0 (C : Cok K x own cc nL (d + 1) Rp) {q : Mt} {idx : Nat} {N : Mem} {rest : List Value} (ok : mOK q 0) (lk : lkV own idx q) {i : Nat} (hi : i < 6) (hcs : q.1.cls = "java/lang/String") (hc : Rv K d q [sf K i] M N) (hW8 : (rest.map fun v => v.category).sum ≤ 8) (hd : decode cc pc = .ok (.invokevirtual idx, 3)) (k9 : G K x nL (pc + 3) lv rest N) : G K x nL pc lv (sf K i :: rest) M := G_callUv C (As := []) ok lk hi hcs hc rfl rfl hW8 hd (fun N' h => by subst h; exact k9)
theorem G_cUi1 (C : Cok K x own cc nL (d + 1) Rp) {q : Mt} {idx : Nat} {Q0 : Int32 → Mem → Prop} {v1 : Value} {rest : List Value} (ok : mOK q 1) (lk : lkV own idx q) {i : Nat} (hi : i < 6) (hcs : q.1.cls = "java/lang/String") (hc : Ci K d q [sf K i, v1] M Q0) (hW8 : (rest.map fun v => v.category).sum ≤ 8) (hd : decode cc pc = .ok (.invokevirtual idx, 3)) (k9 : ∀ (r : Int32) (N : Mem), Q0 r N → G K x nL (pc + 3) lv (.int r :: rest) N) : G K x nL pc lv (v1 :: sf K i :: rest) M := G_callUi C (As := [v1]) ok lk hi hcs hc rfl rfl hW8 hd k9
theorem G_cUr1 (C : Cok K x own cc nL (d + 1) Rp) {q : Mt} {idx : Nat} {r : Int32} {N : Mem} {v1 : Value} {rest : List Value} (ok : mOK q 1) (lk : lkV own idx q) {i : Nat} (hi : i < 6) (hcs : q.1.cls = "java/lang/String") (hc : Ri K d q [sf K i, v1] M r N) (hW8 : (rest.map fun v => v.category).sum ≤ 8) (hd : decode cc pc = .ok (.invokevirtual idx, 3)) (k9 : G K x nL (pc + 3) lv (.int r :: rest) N) : G K x nL pc lv (v1 :: sf K i :: rest) M := G_callUi C (As := [v1]) ok lk hi hcs hc rfl rfl hW8 hd (fun r' N' h => by obtain ⟨rfl, rfl⟩ := h; exact k9)
theorem G_cUv1 (C : Cok K x own cc nL (d + 1) Rp) {q : Mt} {idx : Nat} {Q0 : Mem → Prop} {v1 : Value} {rest : List Value} (ok : mOK q 1) (lk : lkV own idx q) {i : Nat} (hi : i < 6) (hcs : q.1.cls = "java/lang/String") (hc : Cv K d q [sf K i, v1] M Q0) (hW8 : (rest.map fun v => v.category).sum ≤ 8) (hd : decode cc pc = .ok (.invokevirtual idx, 3)) (k9 : ∀ (N : Mem), Q0 N → G K x nL (pc + 3) lv rest N) : G K x nL pc lv (v1 :: sf K i :: rest) M := G_callUv C (As := [v1]) ok lk hi hcs hc rfl rfl hW8 hd k9
theorem G_cUw1 (C : Cok K x own cc nL (d + 1) Rp) {q : Mt} {idx : Nat} {N : Mem} {v1 : Value} {rest : List Value} (ok : mOK q 1) (lk : lkV own idx q) {i : Nat} (hi : i < 6) (hcs : q.1.cls = "java/lang/String") (hc : Rv K d q [sf K i, v1] M N) (hW8 : (rest.map fun v => v.category).sum ≤ 8) (hd : decode cc pc = .ok (.invokevirtual idx, 3)) (k9 : G K x nL (pc + 3) lv rest N) : G K x nL pc lv (v1 :: sf K i :: rest) M := G_callUv C (As := [v1]) ok lk hi hcs hc rfl rfl hW8 hd (fun N' h => by subst h; exact k9)
theorem G_cSi1 (C : Cok K x own cc nL (d + 1) Rp) {q : Mt} {idx : Nat} {Q0 : Int32 → Mem → Prop} {v1 : Value} {rest : List Value} (ok : mOK q 1) (lk : lkS own idx q) (hc : Ci K d q [v1] M Q0) (hW8 : (rest.map fun v => v.category).sum ≤ 8) (hd : decode cc pc = .ok (.invokestatic idx, 3)) (k9 : ∀ (r : Int32) (N : Mem), Q0 r N → G K x nL (pc + 3) lv (.int r :: rest) N) : G K x nL pc lv (v1 :: rest) M := G_callSi C (As := [v1]) ok lk hc rfl rfl hW8 hd k9
theorem G_cSr1 (C : Cok K x own cc nL (d + 1) Rp) {q : Mt} {idx : Nat} {r : Int32} {N : Mem} {v1 : Value} {rest : List Value} (ok : mOK q 1) (lk : lkS own idx q) (hc : Ri K d q [v1] M r N) (hW8 : (rest.map fun v => v.category).sum ≤ 8) (hd : decode cc pc = .ok (.invokestatic idx, 3)) (k9 : G K x nL (pc + 3) lv (.int r :: rest) N) : G K x nL pc lv (v1 :: rest) M := G_callSi C (As := [v1]) ok lk hc rfl rfl hW8 hd (fun r' N' h => by obtain ⟨rfl, rfl⟩ := h; exact k9)
theorem G_cSv1 (C : Cok K x own cc nL (d + 1) Rp) {q : Mt} {idx : Nat} {Q0 : Mem → Prop} {v1 : Value} {rest : List Value} (ok : mOK q 1) (lk : lkS own idx q) (hc : Cv K d q [v1] M Q0) (hW8 : (rest.map fun v => v.category).sum ≤ 8) (hd : decode cc pc = .ok (.invokestatic idx, 3)) (k9 : ∀ (N : Mem), Q0 N → G K x nL (pc + 3) lv rest N) : G K x nL pc lv (v1 :: rest) M := G_callSv C (As := [v1]) ok lk hc rfl rfl hW8 hd k9
theorem G_cSw1 (C : Cok K x own cc nL (d + 1) Rp) {q : Mt} {idx : Nat} {N : Mem} {v1 : Value} {rest : List Value} (ok : mOK q 1) (lk : lkS own idx q) (hc : Rv K d q [v1] M N) (hW8 : (rest.map fun v => v.category).sum ≤ 8) (hd : decode cc pc = .ok (.invokestatic idx, 3)) (k9 : G K x nL (pc + 3) lv rest N) : G K x nL pc lv (v1 :: rest) M := G_callSv C (As := [v1]) ok lk hc rfl rfl hW8 hd (fun N' h => by subst h; exact k9)
theorem G_cSi2 (C : Cok K x own cc nL (d + 1) Rp) {q : Mt} {idx : Nat} {Q0 : Int32 → Mem → Prop} {v1 v2 : Value} {rest : List Value} (ok : mOK q 2) (lk : lkS own idx q) (hc : Ci K d q [v1, v2] M Q0) (hW8 : (rest.map fun v => v.category).sum ≤ 8) (hd : decode cc pc = .ok (.invokestatic idx, 3)) (k9 : ∀ (r : Int32) (N : Mem), Q0 r N → G K x nL (pc + 3) lv (.int r :: rest) N) : G K x nL pc lv (v2 :: v1 :: rest) M := G_callSi C (As := [v1, v2]) ok lk hc rfl rfl hW8 hd k9
theorem G_cSr2 (C : Cok K x own cc nL (d + 1) Rp) {q : Mt} {idx : Nat} {r : Int32} {N : Mem} {v1 v2 : Value} {rest : List Value} (ok : mOK q 2) (lk : lkS own idx q) (hc : Ri K d q [v1, v2] M r N) (hW8 : (rest.map fun v => v.category).sum ≤ 8) (hd : decode cc pc = .ok (.invokestatic idx, 3)) (k9 : G K x nL (pc + 3) lv (.int r :: rest) N) : G K x nL pc lv (v2 :: v1 :: rest) M := G_callSi C (As := [v1, v2]) ok lk hc rfl rfl hW8 hd (fun r' N' h => by obtain ⟨rfl, rfl⟩ := h; exact k9)
theorem G_cSv2 (C : Cok K x own cc nL (d + 1) Rp) {q : Mt} {idx : Nat} {Q0 : Mem → Prop} {v1 v2 : Value} {rest : List Value} (ok : mOK q 2) (lk : lkS own idx q) (hc : Cv K d q [v1, v2] M Q0) (hW8 : (rest.map fun v => v.category).sum ≤ 8) (hd : decode cc pc = .ok (.invokestatic idx, 3)) (k9 : ∀ (N : Mem), Q0 N → G K x nL (pc + 3) lv rest N) : G K x nL pc lv (v2 :: v1 :: rest) M := G_callSv C (As := [v1, v2]) ok lk hc rfl rfl hW8 hd k9
theorem G_cSw2 (C : Cok K x own cc nL (d + 1) Rp) {q : Mt} {idx : Nat} {N : Mem} {v1 v2 : Value} {rest : List Value} (ok : mOK q 2) (lk : lkS own idx q) (hc : Rv K d q [v1, v2] M N) (hW8 : (rest.map fun v => v.category).sum ≤ 8) (hd : decode cc pc = .ok (.invokestatic idx, 3)) (k9 : G K x nL (pc + 3) lv rest N) : G K x nL pc lv (v2 :: v1 :: rest) M := G_callSv C (As := [v1, v2]) ok lk hc rfl rfl hW8 hd (fun N' h => by subst h; exact k9)
theorem G_cSi3 (C : Cok K x own cc nL (d + 1) Rp) {q : Mt} {idx : Nat} {Q0 : Int32 → Mem → Prop} {v1 v2 v3 : Value} {rest : List Value} (ok : mOK q 3) (lk : lkS own idx q) (hc : Ci K d q [v1, v2, v3] M Q0) (hW8 : (rest.map fun v => v.category).sum ≤ 8) (hd : decode cc pc = .ok (.invokestatic idx, 3)) (k9 : ∀ (r : Int32) (N : Mem), Q0 r N → G K x nL (pc + 3) lv (.int r :: rest) N) : G K x nL pc lv (v3 :: v2 :: v1 :: rest) M := G_callSi C (As := [v1, v2, v3]) ok lk hc rfl rfl hW8 hd k9
theorem G_cSr3 (C : Cok K x own cc nL (d + 1) Rp) {q : Mt} {idx : Nat} {r : Int32} {N : Mem} {v1 v2 v3 : Value} {rest : List Value} (ok : mOK q 3) (lk : lkS own idx q) (hc : Ri K d q [v1, v2, v3] M r N) (hW8 : (rest.map fun v => v.category).sum ≤ 8) (hd : decode cc pc = .ok (.invokestatic idx, 3)) (k9 : G K x nL (pc + 3) lv (.int r :: rest) N) : G K x nL pc lv (v3 :: v2 :: v1 :: rest) M := G_callSi C (As := [v1, v2, v3]) ok lk hc rfl rfl hW8 hd (fun r' N' h => by obtain ⟨rfl, rfl⟩ := h; exact k9)
theorem G_cSv3 (C : Cok K x own cc nL (d + 1) Rp) {q : Mt} {idx : Nat} {Q0 : Mem → Prop} {v1 v2 v3 : Value} {rest : List Value} (ok : mOK q 3) (lk : lkS own idx q) (hc : Cv K d q [v1, v2, v3] M Q0) (hW8 : (rest.map fun v => v.category).sum ≤ 8) (hd : decode cc pc = .ok (.invokestatic idx, 3)) (k9 : ∀ (N : Mem), Q0 N → G K x nL (pc + 3) lv rest N) : G K x nL pc lv (v3 :: v2 :: v1 :: rest) M := G_callSv C (As := [v1, v2, v3]) ok lk hc rfl rfl hW8 hd k9
theorem G_cSw3 (C : Cok K x own cc nL (d + 1) Rp) {q : Mt} {idx : Nat} {N : Mem} {v1 v2 v3 : Value} {rest : List Value} (ok : mOK q 3) (lk : lkS own idx q) (hc : Rv K d q [v1, v2, v3] M N) (hW8 : (rest.map fun v => v.category).sum ≤ 8) (hd : decode cc pc = .ok (.invokestatic idx, 3)) (k9 : G K x nL (pc + 3) lv rest N) : G K x nL pc lv (v3 :: v2 :: v1 :: rest) M := G_callSv C (As := [v1, v2, v3]) ok lk hc rfl rfl hW8 hd (fun N' h => by subst h; exact k9)
theorem G_cSi4 (C : Cok K x own cc nL (d + 1) Rp) {q : Mt} {idx : Nat} {Q0 : Int32 → Mem → Prop} {v1 v2 v3 v4 : Value} {rest : List Value} (ok : mOK q 4) (lk : lkS own idx q) (hc : Ci K d q [v1, v2, v3, v4] M Q0) (hW8 : (rest.map fun v => v.category).sum ≤ 8) (hd : decode cc pc = .ok (.invokestatic idx, 3)) (k9 : ∀ (r : Int32) (N : Mem), Q0 r N → G K x nL (pc + 3) lv (.int r :: rest) N) : G K x nL pc lv (v4 :: v3 :: v2 :: v1 :: rest) M := G_callSi C (As := [v1, v2, v3, v4]) ok lk hc rfl rfl hW8 hd k9
theorem G_cSr4 (C : Cok K x own cc nL (d + 1) Rp) {q : Mt} {idx : Nat} {r : Int32} {N : Mem} {v1 v2 v3 v4 : Value} {rest : List Value} (ok : mOK q 4) (lk : lkS own idx q) (hc : Ri K d q [v1, v2, v3, v4] M r N) (hW8 : (rest.map fun v => v.category).sum ≤ 8) (hd : decode cc pc = .ok (.invokestatic idx, 3)) (k9 : G K x nL (pc + 3) lv (.int r :: rest) N) : G K x nL pc lv (v4 :: v3 :: v2 :: v1 :: rest) M := G_callSi C (As := [v1, v2, v3, v4]) ok lk hc rfl rfl hW8 hd (fun r' N' h => by obtain ⟨rfl, rfl⟩ := h; exact k9)
theorem G_cSv4 (C : Cok K x own cc nL (d + 1) Rp) {q : Mt} {idx : Nat} {Q0 : Mem → Prop} {v1 v2 v3 v4 : Value} {rest : List Value} (ok : mOK q 4) (lk : lkS own idx q) (hc : Cv K d q [v1, v2, v3, v4] M Q0) (hW8 : (rest.map fun v => v.category).sum ≤ 8) (hd : decode cc pc = .ok (.invokestatic idx, 3)) (k9 : ∀ (N : Mem), Q0 N → G K x nL (pc + 3) lv rest N) : G K x nL pc lv (v4 :: v3 :: v2 :: v1 :: rest) M := G_callSv C (As := [v1, v2, v3, v4]) ok lk hc rfl rfl hW8 hd k9
theorem G_cSw4 (C : Cok K x own cc nL (d + 1) Rp) {q : Mt} {idx : Nat} {N : Mem} {v1 v2 v3 v4 : Value} {rest : List Value} (ok : mOK q 4) (lk : lkS own idx q) (hc : Rv K d q [v1, v2, v3, v4] M N) (hW8 : (rest.map fun v => v.category).sum ≤ 8) (hd : decode cc pc = .ok (.invokestatic idx, 3)) (k9 : G K x nL (pc + 3) lv rest N) : G K x nL pc lv (v4 :: v3 :: v2 :: v1 :: rest) M := G_callSv C (As := [v1, v2, v3, v4]) ok lk hc rfl rfl hW8 hd (fun N' h => by subst h; exact k9)
theorem G_cSi5 (C : Cok K x own cc nL (d + 1) Rp) {q : Mt} {idx : Nat} {Q0 : Int32 → Mem → Prop} {v1 v2 v3 v4 v5 : Value} {rest : List Value} (ok : mOK q 5) (lk : lkS own idx q) (hc : Ci K d q [v1, v2, v3, v4, v5] M Q0) (hW8 : (rest.map fun v => v.category).sum ≤ 8) (hd : decode cc pc = .ok (.invokestatic idx, 3)) (k9 : ∀ (r : Int32) (N : Mem), Q0 r N → G K x nL (pc + 3) lv (.int r :: rest) N) : G K x nL pc lv (v5 :: v4 :: v3 :: v2 :: v1 :: rest) M := G_callSi C (As := [v1, v2, v3, v4, v5]) ok lk hc rfl rfl hW8 hd k9
theorem G_cSr5 (C : Cok K x own cc nL (d + 1) Rp) {q : Mt} {idx : Nat} {r : Int32} {N : Mem} {v1 v2 v3 v4 v5 : Value} {rest : List Value} (ok : mOK q 5) (lk : lkS own idx q) (hc : Ri K d q [v1, v2, v3, v4, v5] M r N) (hW8 : (rest.map fun v => v.category).sum ≤ 8) (hd : decode cc pc = .ok (.invokestatic idx, 3)) (k9 : G K x nL (pc + 3) lv (.int r :: rest) N) : G K x nL pc lv (v5 :: v4 :: v3 :: v2 :: v1 :: rest) M := G_callSi C (As := [v1, v2, v3, v4, v5]) ok lk hc rfl rfl hW8 hd (fun r' N' h => by obtain ⟨rfl, rfl⟩ := h; exact k9)
theorem G_cSv5 (C : Cok K x own cc nL (d + 1) Rp) {q : Mt} {idx : Nat} {Q0 : Mem → Prop} {v1 v2 v3 v4 v5 : Value} {rest : List Value} (ok : mOK q 5) (lk : lkS own idx q) (hc : Cv K d q [v1, v2, v3, v4, v5] M Q0) (hW8 : (rest.map fun v => v.category).sum ≤ 8) (hd : decode cc pc = .ok (.invokestatic idx, 3)) (k9 : ∀ (N : Mem), Q0 N → G K x nL (pc + 3) lv rest N) : G K x nL pc lv (v5 :: v4 :: v3 :: v2 :: v1 :: rest) M := G_callSv C (As := [v1, v2, v3, v4, v5]) ok lk hc rfl rfl hW8 hd k9
theorem G_cSw5 (C : Cok K x own cc nL (d + 1) Rp) {q : Mt} {idx : Nat} {N : Mem} {v1 v2 v3 v4 v5 : Value} {rest : List Value} (ok : mOK q 5) (lk : lkS own idx q) (hc : Rv K d q [v1, v2, v3, v4, v5] M N) (hW8 : (rest.map fun v => v.category).sum ≤ 8) (hd : decode cc pc = .ok (.invokestatic idx, 3)) (k9 : G K x nL (pc + 3) lv rest N) : G K x nL pc lv (v5 :: v4 :: v3 :: v2 :: v1 :: rest) M := G_callSv C (As := [v1, v2, v3, v4, v5]) ok lk hc rfl rfl hW8 hd (fun N' h => by subst h; exact k9)
theorem G_cNi1 (C : Cok K x own cc nL (d + 1) Rp) {q : Mt} {idx : Nat} {Q0 : Int32 → Mem → Prop} {v1 : Value} {rest : List Value} (ok : mOK q 1) (lk : lkN own idx q) (hc : Ci K d q [v1] M Q0) (hW8 : (rest.map fun v => v.category).sum ≤ 8) (hd : decode cc pc = .ok (.invokestatic idx, 3)) (k9 : ∀ (r : Int32) (N : Mem), Q0 r N → G K x nL (pc + 3) lv (.int r :: rest) N) : G K x nL pc lv (v1 :: rest) M := G_callNi C (As := [v1]) ok lk hc rfl rfl hW8 hd k9
theorem G_cNr1 (C : Cok K x own cc nL (d + 1) Rp) {q : Mt} {idx : Nat} {r : Int32} {N : Mem} {v1 : Value} {rest : List Value} (ok : mOK q 1) (lk : lkN own idx q) (hc : Ri K d q [v1] M r N) (hW8 : (rest.map fun v => v.category).sum ≤ 8) (hd : decode cc pc = .ok (.invokestatic idx, 3)) (k9 : G K x nL (pc + 3) lv (.int r :: rest) N) : G K x nL pc lv (v1 :: rest) M := G_callNi C (As := [v1]) ok lk hc rfl rfl hW8 hd (fun r' N' h => by obtain ⟨rfl, rfl⟩ := h; exact k9)
theorem G_cNv1 (C : Cok K x own cc nL (d + 1) Rp) {q : Mt} {idx : Nat} {Q0 : Mem → Prop} {v1 : Value} {rest : List Value} (ok : mOK q 1) (lk : lkN own idx q) (hc : Cv K d q [v1] M Q0) (hW8 : (rest.map fun v => v.category).sum ≤ 8) (hd : decode cc pc = .ok (.invokestatic idx, 3)) (k9 : ∀ (N : Mem), Q0 N → G K x nL (pc + 3) lv rest N) : G K x nL pc lv (v1 :: rest) M := G_callNv C (As := [v1]) ok lk hc rfl rfl hW8 hd k9
theorem G_cNw1 (C : Cok K x own cc nL (d + 1) Rp) {q : Mt} {idx : Nat} {N : Mem} {v1 : Value} {rest : List Value} (ok : mOK q 1) (lk : lkN own idx q) (hc : Rv K d q [v1] M N) (hW8 : (rest.map fun v => v.category).sum ≤ 8) (hd : decode cc pc = .ok (.invokestatic idx, 3)) (k9 : G K x nL (pc + 3) lv rest N) : G K x nL pc lv (v1 :: rest) M := G_callNv C (As := [v1]) ok lk hc rfl rfl hW8 hd (fun N' h => by subst h; exact k9)
theorem G_cNi2 (C : Cok K x own cc nL (d + 1) Rp) {q : Mt} {idx : Nat} {Q0 : Int32 → Mem → Prop} {v1 v2 : Value} {rest : List Value} (ok : mOK q 2) (lk : lkN own idx q) (hc : Ci K d q [v1, v2] M Q0) (hW8 : (rest.map fun v => v.category).sum ≤ 8) (hd : decode cc pc = .ok (.invokestatic idx, 3)) (k9 : ∀ (r : Int32) (N : Mem), Q0 r N → G K x nL (pc + 3) lv (.int r :: rest) N) : G K x nL pc lv (v2 :: v1 :: rest) M := G_callNi C (As := [v1, v2]) ok lk hc rfl rfl hW8 hd k9
theorem G_cNr2 (C : Cok K x own cc nL (d + 1) Rp) {q : Mt} {idx : Nat} {r : Int32} {N : Mem} {v1 v2 : Value} {rest : List Value} (ok : mOK q 2) (lk : lkN own idx q) (hc : Ri K d q [v1, v2] M r N) (hW8 : (rest.map fun v => v.category).sum ≤ 8) (hd : decode cc pc = .ok (.invokestatic idx, 3)) (k9 : G K x nL (pc + 3) lv (.int r :: rest) N) : G K x nL pc lv (v2 :: v1 :: rest) M := G_callNi C (As := [v1, v2]) ok lk hc rfl rfl hW8 hd (fun r' N' h => by obtain ⟨rfl, rfl⟩ := h; exact k9)
theorem G_cNv2 (C : Cok K x own cc nL (d + 1) Rp) {q : Mt} {idx : Nat} {Q0 : Mem → Prop} {v1 v2 : Value} {rest : List Value} (ok : mOK q 2) (lk : lkN own idx q) (hc : Cv K d q [v1, v2] M Q0) (hW8 : (rest.map fun v => v.category).sum ≤ 8) (hd : decode cc pc = .ok (.invokestatic idx, 3)) (k9 : ∀ (N : Mem), Q0 N → G K x nL (pc + 3) lv rest N) : G K x nL pc lv (v2 :: v1 :: rest) M := G_callNv C (As := [v1, v2]) ok lk hc rfl rfl hW8 hd k9
theorem G_cNw2 (C : Cok K x own cc nL (d + 1) Rp) {q : Mt} {idx : Nat} {N : Mem} {v1 v2 : Value} {rest : List Value} (ok : mOK q 2) (lk : lkN own idx q) (hc : Rv K d q [v1, v2] M N) (hW8 : (rest.map fun v => v.category).sum ≤ 8) (hd : decode cc pc = .ok (.invokestatic idx, 3)) (k9 : G K x nL (pc + 3) lv rest N) : G K x nL pc lv (v2 :: v1 :: rest) M := G_callNv C (As := [v1, v2]) ok lk hc rfl rfl hW8 hd (fun N' h => by subst h; exact k9)
theorem G_cNi3 (C : Cok K x own cc nL (d + 1) Rp) {q : Mt} {idx : Nat} {Q0 : Int32 → Mem → Prop} {v1 v2 v3 : Value} {rest : List Value} (ok : mOK q 3) (lk : lkN own idx q) (hc : Ci K d q [v1, v2, v3] M Q0) (hW8 : (rest.map fun v => v.category).sum ≤ 8) (hd : decode cc pc = .ok (.invokestatic idx, 3)) (k9 : ∀ (r : Int32) (N : Mem), Q0 r N → G K x nL (pc + 3) lv (.int r :: rest) N) : G K x nL pc lv (v3 :: v2 :: v1 :: rest) M := G_callNi C (As := [v1, v2, v3]) ok lk hc rfl rfl hW8 hd k9
theorem G_cNr3 (C : Cok K x own cc nL (d + 1) Rp) {q : Mt} {idx : Nat} {r : Int32} {N : Mem} {v1 v2 v3 : Value} {rest : List Value} (ok : mOK q 3) (lk : lkN own idx q) (hc : Ri K d q [v1, v2, v3] M r N) (hW8 : (rest.map fun v => v.category).sum ≤ 8) (hd : decode cc pc = .ok (.invokestatic idx, 3)) (k9 : G K x nL (pc + 3) lv (.int r :: rest) N) : G K x nL pc lv (v3 :: v2 :: v1 :: rest) M := G_callNi C (As := [v1, v2, v3]) ok lk hc rfl rfl hW8 hd (fun r' N' h => by obtain ⟨rfl, rfl⟩ := h; exact k9)
theorem G_cNv3 (C : Cok K x own cc nL (d + 1) Rp) {q : Mt} {idx : Nat} {Q0 : Mem → Prop} {v1 v2 v3 : Value} {rest : List Value} (ok : mOK q 3) (lk : lkN own idx q) (hc : Cv K d q [v1, v2, v3] M Q0) (hW8 : (rest.map fun v => v.category).sum ≤ 8) (hd : decode cc pc = .ok (.invokestatic idx, 3)) (k9 : ∀ (N : Mem), Q0 N → G K x nL (pc + 3) lv rest N) : G K x nL pc lv (v3 :: v2 :: v1 :: rest) M := G_callNv C (As := [v1, v2, v3]) ok lk hc rfl rfl hW8 hd k9
theorem G_cNw3 (C : Cok K x own cc nL (d + 1) Rp) {q : Mt} {idx : Nat} {N : Mem} {v1 v2 v3 : Value} {rest : List Value} (ok : mOK q 3) (lk : lkN own idx q) (hc : Rv K d q [v1, v2, v3] M N) (hW8 : (rest.map fun v => v.category).sum ≤ 8) (hd : decode cc pc = .ok (.invokestatic idx, 3)) (k9 : G K x nL (pc + 3) lv rest N) : G K x nL pc lv (v3 :: v2 :: v1 :: rest) M := G_callNv C (As := [v1, v2, v3]) ok lk hc rfl rfl hW8 hd (fun N' h => by subst h; exact k9)
theorem G_cNi4 (C : Cok K x own cc nL (d + 1) Rp) {q : Mt} {idx : Nat} {Q0 : Int32 → Mem → Prop} {v1 v2 v3 v4 : Value} {rest : List Value} (ok : mOK q 4) (lk : lkN own idx q) (hc : Ci K d q [v1, v2, v3, v4] M Q0) (hW8 : (rest.map fun v => v.category).sum ≤ 8) (hd : decode cc pc = .ok (.invokestatic idx, 3)) (k9 : ∀ (r : Int32) (N : Mem), Q0 r N → G K x nL (pc + 3) lv (.int r :: rest) N) : G K x nL pc lv (v4 :: v3 :: v2 :: v1 :: rest) M := G_callNi C (As := [v1, v2, v3, v4]) ok lk hc rfl rfl hW8 hd k9
theorem G_cNr4 (C : Cok K x own cc nL (d + 1) Rp) {q : Mt} {idx : Nat} {r : Int32} {N : Mem} {v1 v2 v3 v4 : Value} {rest : List Value} (ok : mOK q 4) (lk : lkN own idx q) (hc : Ri K d q [v1, v2, v3, v4] M r N) (hW8 : (rest.map fun v => v.category).sum ≤ 8) (hd : decode cc pc = .ok (.invokestatic idx, 3)) (k9 : G K x nL (pc + 3) lv (.int r :: rest) N) : G K x nL pc lv (v4 :: v3 :: v2 :: v1 :: rest) M := G_callNi C (As := [v1, v2, v3, v4]) ok lk hc rfl rfl hW8 hd (fun r' N' h => by obtain ⟨rfl, rfl⟩ := h; exact k9)
theorem G_cNv4 (C : Cok K x own cc nL (d + 1) Rp) {q : Mt} {idx : Nat} {Q0 : Mem → Prop} {v1 v2 v3 v4 : Value} {rest : List Value} (ok : mOK q 4) (lk : lkN own idx q) (hc : Cv K d q [v1, v2, v3, v4] M Q0) (hW8 : (rest.map fun v => v.category).sum ≤ 8) (hd : decode cc pc = .ok (.invokestatic idx, 3)) (k9 : ∀ (N : Mem), Q0 N → G K x nL (pc + 3) lv rest N) : G K x nL pc lv (v4 :: v3 :: v2 :: v1 :: rest) M := G_callNv C (As := [v1, v2, v3, v4]) ok lk hc rfl rfl hW8 hd k9
theorem G_cNw4 (C : Cok K x own cc nL (d + 1) Rp) {q : Mt} {idx : Nat} {N : Mem} {v1 v2 v3 v4 : Value} {rest : List Value} (ok : mOK q 4) (lk : lkN own idx q) (hc : Rv K d q [v1, v2, v3, v4] M N) (hW8 : (rest.map fun v => v.category).sum ≤ 8) (hd : decode cc pc = .ok (.invokestatic idx, 3)) (k9 : G K x nL (pc + 3) lv rest N) : G K x nL pc lv (v4 :: v3 :: v2 :: v1 :: rest) M := G_callNv C (As := [v1, v2, v3, v4]) ok lk hc rfl rfl hW8 hd (fun N' h => by subst h; exact k9)
theorem G_cNi5 (C : Cok K x own cc nL (d + 1) Rp) {q : Mt} {idx : Nat} {Q0 : Int32 → Mem → Prop} {v1 v2 v3 v4 v5 : Value} {rest : List Value} (ok : mOK q 5) (lk : lkN own idx q) (hc : Ci K d q [v1, v2, v3, v4, v5] M Q0) (hW8 : (rest.map fun v => v.category).sum ≤ 8) (hd : decode cc pc = .ok (.invokestatic idx, 3)) (k9 : ∀ (r : Int32) (N : Mem), Q0 r N → G K x nL (pc + 3) lv (.int r :: rest) N) : G K x nL pc lv (v5 :: v4 :: v3 :: v2 :: v1 :: rest) M := G_callNi C (As := [v1, v2, v3, v4, v5]) ok lk hc rfl rfl hW8 hd k9
theorem G_cNr5 (C : Cok K x own cc nL (d + 1) Rp) {q : Mt} {idx : Nat} {r : Int32} {N : Mem} {v1 v2 v3 v4 v5 : Value} {rest : List Value} (ok : mOK q 5) (lk : lkN own idx q) (hc : Ri K d q [v1, v2, v3, v4, v5] M r N) (hW8 : (rest.map fun v => v.category).sum ≤ 8) (hd : decode cc pc = .ok (.invokestatic idx, 3)) (k9 : G K x nL (pc + 3) lv (.int r :: rest) N) : G K x nL pc lv (v5 :: v4 :: v3 :: v2 :: v1 :: rest) M := G_callNi C (As := [v1, v2, v3, v4, v5]) ok lk hc rfl rfl hW8 hd (fun r' N' h => by obtain ⟨rfl, rfl⟩ := h; exact k9)
theorem G_cNv5 (C : Cok K x own cc nL (d + 1) Rp) {q : Mt} {idx : Nat} {Q0 : Mem → Prop} {v1 v2 v3 v4 v5 : Value} {rest : List Value} (ok : mOK q 5) (lk : lkN own idx q) (hc : Cv K d q [v1, v2, v3, v4, v5] M Q0) (hW8 : (rest.map fun v => v.category).sum ≤ 8) (hd : decode cc pc = .ok (.invokestatic idx, 3)) (k9 : ∀ (N : Mem), Q0 N → G K x nL (pc + 3) lv rest N) : G K x nL pc lv (v5 :: v4 :: v3 :: v2 :: v1 :: rest) M := G_callNv C (As := [v1, v2, v3, v4, v5]) ok lk hc rfl rfl hW8 hd k9
theorem G_cNw5 (C : Cok K x own cc nL (d + 1) Rp) {q : Mt} {idx : Nat} {N : Mem} {v1 v2 v3 v4 v5 : Value} {rest : List Value} (ok : mOK q 5) (lk : lkN own idx q) (hc : Rv K d q [v1, v2, v3, v4, v5] M N) (hW8 : (rest.map fun v => v.category).sum ≤ 8) (hd : decode cc pc = .ok (.invokestatic idx, 3)) (k9 : G K x nL (pc + 3) lv rest N) : G K x nL pc lv (v5 :: v4 :: v3 :: v2 :: v1 :: rest) M := G_callNv C (As := [v1, v2, v3, v4, v5]) ok lk hc rfl rfl hW8 hd (fun N' h => by subst h; exact k9)
theorem G_mmax (C : Cok K x own cc nL (d + 1) Rp) {idx : Nat} {a b : Int32} {rest : List Value} (lk : Cond.methodLink own idx Lib.Math.max.name ∈ gtbl) (hst : Cond.static Lib.Math.max.name ∈ gtbl) (hin : Cond.initialized "java/lang/Math" ∈ gtbl) (hco : Cond.code Lib.Math.max.name Lib.Math.max.code 2 (some .int) ∈ gtbl) (hW8 : (rest.map fun v => v.category).sum ≤ 8) (hd : decode cc pc = .ok (.invokestatic idx, 3)) (k9 : G K x nL (pc + 3) lv (.int (if a < b then b else a) :: rest) M) : G K x nL pc lv (.int b :: .int a :: rest) M := by
  obtain ⟨p, e, R, s, m, args, below, meth, c, cells, slots, Q, A⟩ := x
  obtain ⟨hx, hb, hml, hown, hts, hK, hA, hE, hd1, hd2, hd3, hd4, hrI, hrV⟩ := C
  intro H locs ls hP hD hS hl
  exact va_mmax hx hb (by rw [hml, hl.1]) hown (hts _ lk) (hts _ hst) (hts _ hin) (hts _ hco) (by omega) (by omega) hd3 hd4 hd (k9 H locs ls hP hD hS hl)
theorem G_mmin (C : Cok K x own cc nL (d + 1) Rp) {idx : Nat} {a b : Int32} {rest : List Value} (lk : Cond.methodLink own idx Lib.Math.min.name ∈ gtbl) (hst : Cond.static Lib.Math.min.name ∈ gtbl) (hin : Cond.initialized "java/lang/Math" ∈ gtbl) (hco : Cond.code Lib.Math.min.name Lib.Math.min.code 2 (some .int) ∈ gtbl) (hW8 : (rest.map fun v => v.category).sum ≤ 8) (hd : decode cc pc = .ok (.invokestatic idx, 3)) (k9 : G K x nL (pc + 3) lv (.int (if b < a then b else a) :: rest) M) : G K x nL pc lv (.int b :: .int a :: rest) M := by
  obtain ⟨p, e, R, s, m, args, below, meth, c, cells, slots, Q, A⟩ := x
  obtain ⟨hx, hb, hml, hown, hts, hK, hA, hE, hd1, hd2, hd3, hd4, hrI, hrV⟩ := C
  intro H locs ls hP hD hS hl
  exact va_mmin hx hb (by rw [hml, hl.1]) hown (hts _ lk) (hts _ hst) (hts _ hin) (hts _ hco) (by omega) (by omega) hd3 hd4 hd (k9 H locs ls hP hD hS hl)
end GR3
end
section
abbrev mX0_init : Mt := (yX0_init, cX0_init, 1, none)
abbrev mX0_payOldestFirst : Mt := (yX0_payOldestFirst, cX0_payOldestFirst, 4, none)
abbrev mX0_dueUpTo : Mt := (yX0_dueUpTo, cX0_dueUpTo, 4, (some .int))
abbrev mX0_leftInAll : Mt := (yX0_leftInAll, cX0_leftInAll, 3, (some .int))
abbrev mX0_firstLeft : Mt := (yX0_firstLeft, cX0_firstLeft, 2, (some .int))
abbrev mX0_interestUpTo : Mt := (yX0_interestUpTo, cX0_interestUpTo, 5, (some .int))
abbrev mX1_init : Mt := (yX1_init, cX1_init, 1, none)
abbrev mX1_add : Mt := (yX1_add, cX1_add, 4, (some .int))
abbrev mX1_coinsIn : Mt := (yX1_coinsIn, cX1_coinsIn, 5, (some .int))
abbrev mX1_paysUpTo : Mt := (yX1_paysUpTo, cX1_paysUpTo, 4, (some .int))
abbrev mX1_lineWithCoin : Mt := (yX1_lineWithCoin, cX1_lineWithCoin, 6, (some .int))
abbrev mX1_isPay : Mt := (yX1_isPay, cX1_isPay, 2, (some .boolean))
abbrev mX2_init : Mt := (yX2_init, cX2_init, 1, none)
abbrev mX2_mayHold : Mt := (yX2_mayHold, cX2_mayHold, 2, (some .boolean))
abbrev mX2_add : Mt := (yX2_add, cX2_add, 5, (some .int))
abbrev mX2_has : Mt := (yX2_has, cX2_has, 2, (some .boolean))
abbrev mX2_isOfKind : Mt := (yX2_isOfKind, cX2_isOfKind, 4, (some .boolean))
abbrev mX2_notTakenBack : Mt := (yX2_notTakenBack, cX2_notTakenBack, 3, (some .int))
abbrev mX2_incomeAt : Mt := (yX2_incomeAt, cX2_incomeAt, 4, (some .int))
abbrev mX2_childrenAt : Mt := (yX2_childrenAt, cX2_childrenAt, 5, (some .int))
abbrev mX2_othersAt : Mt := (yX2_othersAt, cX2_othersAt, 4, (some .int))
abbrev mX2_latest : Mt := (yX2_latest, cX2_latest, 6, (some .int))
abbrev mX2_counts : Mt := (yX2_counts, cX2_counts, 4, (some .boolean))
abbrev mX3_init : Mt := (yX3_init, cX3_init, 1, none)
abbrev mX3_incomeLess : Mt := (yX3_incomeLess, cX3_incomeLess, 3, (some .int))
abbrev mX3_forChildren : Mt := (yX3_forChildren, cX3_forChildren, 5, (some .int))
abbrev mX3_withNights : Mt := (yX3_withNights, cX3_withNights, 4, (some .int))
abbrev mX4_init : Mt := (yX4_init, cX4_init, 2, none)
abbrev mX4_numberAt : Mt := (yX4_numberAt, cX4_numberAt, 4, (some .int))
abbrev mX5_init : Mt := (yX5_init, cX5_init, 1, none)
abbrev mX5_lesser : Mt := (yX5_lesser, cX5_lesser, 2, (some .int))
abbrev mX5_greater : Mt := (yX5_greater, cX5_greater, 2, (some .int))
abbrev mX5_areUnlike : Mt := (yX5_areUnlike, cX5_areUnlike, 2, (some .boolean))
abbrev mX5_unlikeWeeks : Mt := (yX5_unlikeWeeks, cX5_unlikeWeeks, 4, (some .int))
abbrev mX5_atEnd : Mt := (yX5_atEnd, cX5_atEnd, 5, (some .int))
abbrev mX6_init : Mt := (yX6_init, cX6_init, 2, none)
abbrev mX6_readInto : Mt := (yX6_readInto, cX6_readInto, 2, (some .int))
abbrev mX6_step : Mt := (yX6_step, cX6_step, 1, none)
abbrev mX6_skip : Mt := (yX6_skip, cX6_skip, 2, (some .boolean))
abbrev mX6_need : Mt := (yX6_need, cX6_need, 2, none)
abbrev mX6_option : Mt := (yX6_option, cX6_option, 5, (some .int))
abbrev mX6_number : Mt := (yX6_number, cX6_number, 4, (some .int))
abbrev mX6_isAt : Mt := (yX6_isAt, cX6_isAt, 3, (some .boolean))
abbrev mX6_digits : Mt := (yX6_digits, cX6_digits, 4, (some .int))
abbrev mX7_init : Mt := (yX7_init, cX7_init, 1, none)
abbrev mX7_makeAnew : Mt := (yX7_makeAnew, cX7_makeAnew, 2, none)
abbrev mX7_isMissing : Mt := (yX7_isMissing, cX7_isMissing, 1, (some .boolean))
abbrev mX7_hasRun : Mt := (yX7_hasRun, cX7_hasRun, 3, (some .boolean))
abbrev mX7_toldFor : Mt := (yX7_toldFor, cX7_toldFor, 2, (some .int))
abbrev mX8_init : Mt := (yX8_init, cX8_init, 1, none)
abbrev mX8_put : Mt := (yX8_put, cX8_put, 3, none)
abbrev mX9_init : Mt := (yX9_init, cX9_init, 1, none)
abbrev mX9_change : Mt := (yX9_change, cX9_change, 4, (some .int))
abbrev mX9_isOf : Mt := (yX9_isOf, cX9_isOf, 3, (some .int))
abbrev mX9_takeBack : Mt := (yX9_takeBack, cX9_takeBack, 2, (some .int))
abbrev mX9_told : Mt := (yX9_told, cX9_told, 3, (some .int))
abbrev mX9_known : Mt := (yX9_known, cX9_known, 4, (some .int))
abbrev mX9_school : Mt := (yX9_school, cX9_school, 4, (some .int))
abbrev mX9_nights : Mt := (yX9_nights, cX9_nights, 3, (some .int))
abbrev mX9_feed : Mt := (yX9_feed, cX9_feed, 4, (some .int))
abbrev mX9_trim : Mt := (yX9_trim, cX9_trim, 2, (some .int))
abbrev mX9_law : Mt := (yX9_law, cX9_law, 3, (some .int))
abbrev mX9_addLaw : Mt := (yX9_addLaw, cX9_addLaw, 4, (some .int))
abbrev mX9_inForce : Mt := (yX9_inForce, cX9_inForce, 2, (some .int))
abbrev mX9_sum : Mt := (yX9_sum, cX9_sum, 4, (some .int))
abbrev mX9_due : Mt := (yX9_due, cX9_due, 4, (some .int))
abbrev mX9_edge : Mt := (yX9_edge, cX9_edge, 3, (some .int))
abbrev mX9_sumOf : Mt := (yX9_sumOf, cX9_sumOf, 8, (some .int))
abbrev mX9_dueOf : Mt := (yX9_dueOf, cX9_dueOf, 8, (some .int))
abbrev mX9_line : Mt := (yX9_line, cX9_line, 4, (some .int))
abbrev mX9_marks : Mt := (yX9_marks, cX9_marks, 3, (some .int))
abbrev mX9_paid : Mt := (yX9_paid, cX9_paid, 3, (some .int))
abbrev mX9_owed : Mt := (yX9_owed, cX9_owed, 3, (some .int))
abbrev mX9_over : Mt := (yX9_over, cX9_over, 3, (some .int))
abbrev mX9_left : Mt := (yX9_left, cX9_left, 4, (some .int))
abbrev mX9_oldest : Mt := (yX9_oldest, cX9_oldest, 3, (some .int))
abbrev mX9_payer : Mt := (yX9_payer, cX9_payer, 3, (some .int))
abbrev mX9_interest : Mt := (yX9_interest, cX9_interest, 5, (some .int))
abbrev mX9_forgive : Mt := (yX9_forgive, cX9_forgive, 4, (some .int))
abbrev mX9_rate : Mt := (yX9_rate, cX9_rate, 3, (some .int))
abbrev mX9_weeks : Mt := (yX9_weeks, cX9_weeks, 2, (some .int))
abbrev mX9_settle : Mt := (yX9_settle, cX9_settle, 4, none)
abbrev mX9_sheet : Mt := (yX9_sheet, cX9_sheet, 3, (some .int))
abbrev mX9_mark : Mt := (yX9_mark, cX9_mark, 6, (some .int))
abbrev mX9_copy : Mt := (yX9_copy, cX9_copy, 8, (some .int))
abbrev mX9_lose : Mt := (yX9_lose, cX9_lose, 4, (some .int))
abbrev mX9_count : Mt := (yX9_count, cX9_count, 2, (some .int))
abbrev mX9_forgivenWeeks : Mt := (yX9_forgivenWeeks, cX9_forgivenWeeks, 3, (some .int))
abbrev mX9_isBelow : Mt := (yX9_isBelow, cX9_isBelow, 2, (some .boolean))
abbrev mX9_isWeek : Mt := (yX9_isWeek, cX9_isWeek, 1, (some .boolean))
abbrev mX9_areNights : Mt := (yX9_areNights, cX9_areNights, 1, (some .boolean))
abbrev mX9_isPast : Mt := (yX9_isPast, cX9_isPast, 2, (some .boolean))
abbrev mX10_init : Mt := (yX10_init, cX10_init, 2, none)
abbrev mX10_isIn : Mt := (yX10_isIn, cX10_isIn, 3, (some .boolean))
abbrev mX10_isWeek : Mt := (yX10_isWeek, cX10_isWeek, 1, (some .boolean))
abbrev mX10_isPast : Mt := (yX10_isPast, cX10_isPast, 2, (some .boolean))
abbrev mX10_isValue : Mt := (yX10_isValue, cX10_isValue, 2, (some .boolean))
abbrev mX10_change : Mt := (yX10_change, cX10_change, 4, (some .int))
abbrev mX10_isChange : Mt := (yX10_isChange, cX10_isChange, 2, (some .boolean))
abbrev mX10_isOf : Mt := (yX10_isOf, cX10_isOf, 3, (some .int))
abbrev mX10_takeBack : Mt := (yX10_takeBack, cX10_takeBack, 2, (some .int))
abbrev mX10_told : Mt := (yX10_told, cX10_told, 3, (some .int))
abbrev mX10_holds : Mt := (yX10_holds, cX10_holds, 4, (some .boolean))
abbrev mX10_latest : Mt := (yX10_latest, cX10_latest, 6, (some .int))
abbrev mX10_income : Mt := (yX10_income, cX10_income, 4, (some .int))
abbrev mX10_children : Mt := (yX10_children, cX10_children, 5, (some .int))
abbrev mX10_others : Mt := (yX10_others, cX10_others, 4, (some .int))
abbrev mX10_known : Mt := (yX10_known, cX10_known, 4, (some .int))
abbrev mX10_school : Mt := (yX10_school, cX10_school, 4, (some .int))
abbrev mX10_diary : Mt := (yX10_diary, cX10_diary, 4, (some .int))
abbrev mX10_end : Mt := (yX10_end, cX10_end, 6, (some .int))
abbrev mX10_nights : Mt := (yX10_nights, cX10_nights, 5, (some .int))
abbrev mX10_four : Mt := (yX10_four, cX10_four, 3, none)
abbrev mX10_feed : Mt := (yX10_feed, cX10_feed, 4, (some .int))
abbrev mX10_trim : Mt := (yX10_trim, cX10_trim, 2, (some .int))
abbrev mX10_next : Mt := (yX10_next, cX10_next, 1, none)
abbrev mX10_here : Mt := (yX10_here, cX10_here, 1, (some .int))
abbrev mX10_isWord : Mt := (yX10_isWord, cX10_isWord, 7, (some .boolean))
abbrev mX10_number : Mt := (yX10_number, cX10_number, 3, (some .int))
abbrev mX10_isNumber : Mt := (yX10_isNumber, cX10_isNumber, 3, (some .boolean))
abbrev mX10_isTake : Mt := (yX10_isTake, cX10_isTake, 1, (some .boolean))
abbrev mX10_readOver : Mt := (yX10_readOver, cX10_readOver, 2, (some .boolean))
abbrev mX10_readLaw : Mt := (yX10_readLaw, cX10_readLaw, 2, (some .boolean))
abbrev mX10_keepAside : Mt := (yX10_keepAside, cX10_keepAside, 2, none)
abbrev mX10_putBack : Mt := (yX10_putBack, cX10_putBack, 2, none)
abbrev mX10_law : Mt := (yX10_law, cX10_law, 5, (some .int))
abbrev mX10_lawOf : Mt := (yX10_lawOf, cX10_lawOf, 4, (some .int))
abbrev mX10_inForce : Mt := (yX10_inForce, cX10_inForce, 3, (some .int))
abbrev mX10_sumOf : Mt := (yX10_sumOf, cX10_sumOf, 9, (some .int))
abbrev mX10_sum : Mt := (yX10_sum, cX10_sum, 4, (some .int))
abbrev mX10_dueOf : Mt := (yX10_dueOf, cX10_dueOf, 6, (some .int))
abbrev mX10_isSide : Mt := (yX10_isSide, cX10_isSide, 1, (some .boolean))
abbrev mX10_due : Mt := (yX10_due, cX10_due, 4, (some .int))
abbrev mX10_edge : Mt := (yX10_edge, cX10_edge, 3, (some .int))
abbrev mX10_line : Mt := (yX10_line, cX10_line, 4, (some .int))
abbrev mX10_marks : Mt := (yX10_marks, cX10_marks, 3, (some .int))
abbrev mX10_isPay : Mt := (yX10_isPay, cX10_isPay, 2, (some .boolean))
abbrev mX10_paid : Mt := (yX10_paid, cX10_paid, 5, (some .int))
abbrev mX10_paysUpTo : Mt := (yX10_paysUpTo, cX10_paysUpTo, 4, (some .int))
abbrev mX10_findDues : Mt := (yX10_findDues, cX10_findDues, 5, none)
abbrev mX10_leftBy : Mt := (yX10_leftBy, cX10_leftBy, 4, (some .int))
abbrev mX10_isAsked : Mt := (yX10_isAsked, cX10_isAsked, 3, (some .boolean))
abbrev mX10_owed : Mt := (yX10_owed, cX10_owed, 4, (some .int))
abbrev mX10_over : Mt := (yX10_over, cX10_over, 4, (some .int))
abbrev mX10_left : Mt := (yX10_left, cX10_left, 4, (some .int))
abbrev mX10_oldest : Mt := (yX10_oldest, cX10_oldest, 5, (some .int))
abbrev mX10_payer : Mt := (yX10_payer, cX10_payer, 6, (some .int))
abbrev mX10_interest : Mt := (yX10_interest, cX10_interest, 7, (some .int))
abbrev mX10_forgive : Mt := (yX10_forgive, cX10_forgive, 4, (some .int))
abbrev mX10_rate : Mt := (yX10_rate, cX10_rate, 3, (some .int))
abbrev mX10_weeks : Mt := (yX10_weeks, cX10_weeks, 2, (some .int))
abbrev mX10_isSheet : Mt := (yX10_isSheet, cX10_isSheet, 1, (some .boolean))
abbrev mX10_sheet : Mt := (yX10_sheet, cX10_sheet, 4, (some .int))
abbrev mX10_mark : Mt := (yX10_mark, cX10_mark, 5, (some .int))
abbrev mX10_copy : Mt := (yX10_copy, cX10_copy, 7, (some .int))
abbrev mX10_lose : Mt := (yX10_lose, cX10_lose, 3, (some .int))
abbrev mX10_count : Mt := (yX10_count, cX10_count, 4, (some .int))
abbrev mJ9_max_7cf53 : Mt := (yJ9_max_7cf53, cJ9_max_7cf53, 2, (some .int))
abbrev mJ9_min_7cf53 : Mt := (yJ9_min_7cf53, cJ9_min_7cf53, 2, (some .int))
abbrev mJ0_length_8abf5 : Mt := (yJ0_length_8abf5, cJ0_length_8abf5, 1, (some .int))
abbrev mJ0_charAt_5068e : Mt := (yJ0_charAt_5068e, cJ0_charAt_5068e, 2, (some .char))
abbrev mJ0_coder_7d493 : Mt := (yJ0_coder_7d493, cJ0_coder_7d493, 1, (some .byte))
abbrev mJ0_isLatin1_aae02 : Mt := (yJ0_isLatin1_aae02, cJ0_isLatin1_aae02, 1, (some .boolean))
abbrev mJ0_checkIndex_df160 : Mt := (yJ0_checkIndex_df160, cJ0_checkIndex_df160, 2, none)
abbrev mJ1_charAt_3b067 : Mt := (yJ1_charAt_3b067, cJ1_charAt_3b067, 2, (some .char))
abbrev mJ2_getChar_3b067 : Mt := (yJ2_getChar_3b067, cJ2_getChar_3b067, 2, (some .char))
abbrev mJ2_length_9d52b : Mt := (yJ2_length_9d52b, cJ2_length_9d52b, 1, (some .int))
abbrev mJ2_charAt_3b067 : Mt := (yJ2_charAt_3b067, cJ2_charAt_3b067, 2, (some .char))
abbrev mJ2_checkIndex_2214a : Mt := (yJ2_checkIndex_2214a, cJ2_checkIndex_2214a, 2, none)
abbrev mJ7_fill_53178 : Mt := (yJ7_fill_53178, cJ7_fill_53178, 4, none)
abbrev mJ7_fill_031fb : Mt := (yJ7_fill_031fb, cJ7_fill_031fb, 4, none)
abbrev mJ3_checkIndex_8e157 : Mt := (yJ3_checkIndex_8e157, cJ3_checkIndex_8e157, 3, (some .int))
theorem wi_L : Cond.initialized RL ∈ gtbl := gt_mem 45 (by decide +kernel) rfl
theorem wi_X9 : Cond.initialized RX9 ∈ gtbl := gt_mem 46 (by decide +kernel) rfl
theorem wi_X2 : Cond.initialized RX2 ∈ gtbl := gt_mem 47 (by decide +kernel) rfl
theorem wi_X8 : Cond.initialized RX8 ∈ gtbl := gt_mem 48 (by decide +kernel) rfl
theorem wi_X6 : Cond.initialized RX6 ∈ gtbl := gt_mem 49 (by decide +kernel) rfl
theorem wi_X4 : Cond.initialized RX4 ∈ gtbl := gt_mem 50 (by decide +kernel) rfl
theorem wi_X3 : Cond.initialized RX3 ∈ gtbl := gt_mem 51 (by decide +kernel) rfl
theorem wi_X5 : Cond.initialized RX5 ∈ gtbl := gt_mem 52 (by decide +kernel) rfl
theorem wi_X7 : Cond.initialized RX7 ∈ gtbl := gt_mem 53 (by decide +kernel) rfl
theorem wi_J7 : Cond.initialized RJ7 ∈ gtbl := gt_mem 54 (by decide +kernel) rfl
theorem wi_X1 : Cond.initialized RX1 ∈ gtbl := gt_mem 55 (by decide +kernel) rfl
theorem wi_X0 : Cond.initialized RX0 ∈ gtbl := gt_mem 56 (by decide +kernel) rfl
theorem wi_X10 : Cond.initialized RX10 ∈ gtbl := gt_mem 57 (by decide +kernel) rfl
theorem wi_J9 : Cond.initialized RJ9 ∈ gtbl := gt_mem 58 (by decide +kernel) rfl
theorem wi_J0 : Cond.initialized RJ0 ∈ gtbl := gt_mem 59 (by decide +kernel) rfl
theorem wi_J1 : Cond.initialized RJ1 ∈ gtbl := gt_mem 60 (by decide +kernel) rfl
theorem wi_J3 : Cond.initialized RJ3 ∈ gtbl := gt_mem 61 (by decide +kernel) rfl
theorem wi_J2 : Cond.initialized RJ2 ∈ gtbl := gt_mem 62 (by decide +kernel) rfl
theorem wi_J10 : Cond.initialized RJ10 ∈ gtbl := gt_mem 63 (by decide +kernel) rfl
theorem ok_J7_fill_53178 : mOK mJ7_fill_53178 2 := ⟨gt_mem 220 (by decide +kernel) rfl, wi_J7, by decide +kernel, by decide⟩
theorem ok_X9_change : mOK mX9_change 3 := ⟨gt_mem 312 (by decide +kernel) rfl, wi_X9, by decide +kernel, by decide⟩
theorem ok_X2_mayHold : mOK mX2_mayHold 2 := ⟨gt_mem 315 (by decide +kernel) rfl, wi_X2, by decide +kernel, by decide⟩
theorem ok_X9_isWeek : mOK mX9_isWeek 1 := ⟨gt_mem 319 (by decide +kernel) rfl, wi_X9, by decide +kernel, by decide⟩
theorem ok_X9_isBelow : mOK mX9_isBelow 2 := ⟨gt_mem 322 (by decide +kernel) rfl, wi_X9, by decide +kernel, by decide⟩
theorem ok_X2_add : mOK mX2_add 4 := ⟨gt_mem 328 (by decide +kernel) rfl, wi_X2, by decide +kernel, by decide⟩
theorem ok_X9_isOf : mOK mX9_isOf 2 := ⟨gt_mem 333 (by decide +kernel) rfl, wi_X9, by decide +kernel, by decide⟩
theorem ok_X2_has : mOK mX2_has 1 := ⟨gt_mem 337 (by decide +kernel) rfl, wi_X2, by decide +kernel, by decide⟩
theorem ok_X2_isOfKind : mOK mX2_isOfKind 2 := ⟨gt_mem 342 (by decide +kernel) rfl, wi_X2, by decide +kernel, by decide⟩
theorem ok_X9_takeBack : mOK mX9_takeBack 1 := ⟨gt_mem 346 (by decide +kernel) rfl, wi_X9, by decide +kernel, by decide⟩
theorem ok_X9_told : mOK mX9_told 2 := ⟨gt_mem 352 (by decide +kernel) rfl, wi_X9, by decide +kernel, by decide⟩
theorem ok_X9_known : mOK mX9_known 3 := ⟨gt_mem 356 (by decide +kernel) rfl, wi_X9, by decide +kernel, by decide⟩
theorem ok_X9_isPast : mOK mX9_isPast 1 := ⟨gt_mem 360 (by decide +kernel) rfl, wi_X9, by decide +kernel, by decide⟩
theorem ok_X2_incomeAt : mOK mX2_incomeAt 2 := ⟨gt_mem 364 (by decide +kernel) rfl, wi_X2, by decide +kernel, by decide⟩
theorem ok_X2_latest : mOK mX2_latest 3 := ⟨gt_mem 368 (by decide +kernel) rfl, wi_X2, by decide +kernel, by decide⟩
theorem ok_X2_counts : mOK mX2_counts 3 := ⟨gt_mem 372 (by decide +kernel) rfl, wi_X2, by decide +kernel, by decide⟩
theorem ok_X2_childrenAt : mOK mX2_childrenAt 2 := ⟨gt_mem 376 (by decide +kernel) rfl, wi_X2, by decide +kernel, by decide⟩
theorem ok_J9_min_7cf53 : mOK mJ9_min_7cf53 2 := ⟨gt_mem 379 (by decide +kernel) rfl, wi_J9, by decide +kernel, by decide⟩
theorem ok_J9_max_7cf53 : mOK mJ9_max_7cf53 2 := ⟨gt_mem 382 (by decide +kernel) rfl, wi_J9, by decide +kernel, by decide⟩
theorem ok_X2_othersAt : mOK mX2_othersAt 2 := ⟨gt_mem 386 (by decide +kernel) rfl, wi_X2, by decide +kernel, by decide⟩
theorem ok_X9_school : mOK mX9_school 2 := ⟨gt_mem 390 (by decide +kernel) rfl, wi_X9, by decide +kernel, by decide⟩
theorem ok_X9_areNights : mOK mX9_areNights 1 := ⟨gt_mem 393 (by decide +kernel) rfl, wi_X9, by decide +kernel, by decide⟩
theorem ok_X9_nights : mOK mX9_nights 2 := ⟨gt_mem 397 (by decide +kernel) rfl, wi_X9, by decide +kernel, by decide⟩
theorem ok_X5_lesser : mOK mX5_lesser 1 := ⟨gt_mem 401 (by decide +kernel) rfl, wi_X5, by decide +kernel, by decide⟩
theorem ok_X5_atEnd : mOK mX5_atEnd 2 := ⟨gt_mem 405 (by decide +kernel) rfl, wi_X5, by decide +kernel, by decide⟩
theorem ok_X7_toldFor : mOK mX7_toldFor 1 := ⟨gt_mem 409 (by decide +kernel) rfl, wi_X7, by decide +kernel, by decide⟩
theorem ok_X5_greater : mOK mX5_greater 1 := ⟨gt_mem 418 (by decide +kernel) rfl, wi_X5, by decide +kernel, by decide⟩
theorem ok_X5_areUnlike : mOK mX5_areUnlike 1 := ⟨gt_mem 422 (by decide +kernel) rfl, wi_X5, by decide +kernel, by decide⟩
theorem ok_X9_feed : mOK mX9_feed 3 := ⟨gt_mem 428 (by decide +kernel) rfl, wi_X9, by decide +kernel, by decide⟩
theorem ok_X8_put : mOK mX8_put 1 := ⟨gt_mem 432 (by decide +kernel) rfl, wi_X8, by decide +kernel, by decide⟩
theorem ok_X9_trim : mOK mX9_trim 1 := ⟨gt_mem 436 (by decide +kernel) rfl, wi_X9, by decide +kernel, by decide⟩
theorem ok_X9_law : mOK mX9_law 1 := ⟨gt_mem 440 (by decide +kernel) rfl, wi_X9, by decide +kernel, by decide⟩
theorem ok_X9_addLaw : mOK mX9_addLaw 1 := ⟨gt_mem 444 (by decide +kernel) rfl, wi_X9, by decide +kernel, by decide⟩
theorem ok_X6_readInto : mOK mX6_readInto 1 := ⟨gt_mem 448 (by decide +kernel) rfl, wi_X6, by decide +kernel, by decide⟩
theorem ok_X6_step : mOK mX6_step 0 := ⟨gt_mem 453 (by decide +kernel) rfl, wi_X6, by decide +kernel, by decide⟩
theorem ok_X6_need : mOK mX6_need 1 := ⟨gt_mem 458 (by decide +kernel) rfl, wi_X6, by decide +kernel, by decide⟩
theorem ok_X6_skip : mOK mX6_skip 1 := ⟨gt_mem 462 (by decide +kernel) rfl, wi_X6, by decide +kernel, by decide⟩
theorem ok_X6_isAt : mOK mX6_isAt 1 := ⟨gt_mem 466 (by decide +kernel) rfl, wi_X6, by decide +kernel, by decide⟩
theorem ok_J0_length_8abf5 : mOK mJ0_length_8abf5 0 := ⟨gt_mem 470 (by decide +kernel) rfl, wi_J0, by decide +kernel, by decide⟩
theorem ok_J0_coder_7d493 : mOK mJ0_coder_7d493 0 := ⟨gt_mem 474 (by decide +kernel) rfl, wi_J0, by decide +kernel, by decide⟩
theorem ok_J0_charAt_5068e : mOK mJ0_charAt_5068e 1 := ⟨gt_mem 480 (by decide +kernel) rfl, wi_J0, by decide +kernel, by decide⟩
theorem ok_J0_isLatin1_aae02 : mOK mJ0_isLatin1_aae02 0 := ⟨gt_mem 484 (by decide +kernel) rfl, wi_J0, by decide +kernel, by decide⟩
theorem ok_J1_charAt_3b067 : mOK mJ1_charAt_3b067 2 := ⟨gt_mem 487 (by decide +kernel) rfl, wi_J1, by decide +kernel, by decide⟩
theorem ok_J0_checkIndex_df160 : mOK mJ0_checkIndex_df160 2 := ⟨gt_mem 490 (by decide +kernel) rfl, wi_J0, by decide +kernel, by decide⟩
theorem ok_J3_checkIndex_8e157 : mOK mJ3_checkIndex_8e157 3 := ⟨gt_mem 495 (by decide +kernel) rfl, wi_J3, by decide +kernel, by decide⟩
theorem ok_J2_charAt_3b067 : mOK mJ2_charAt_3b067 2 := ⟨gt_mem 498 (by decide +kernel) rfl, wi_J2, by decide +kernel, by decide⟩
theorem ok_J2_checkIndex_2214a : mOK mJ2_checkIndex_2214a 2 := ⟨gt_mem 501 (by decide +kernel) rfl, wi_J2, by decide +kernel, by decide⟩
theorem ok_J2_length_9d52b : mOK mJ2_length_9d52b 1 := ⟨gt_mem 504 (by decide +kernel) rfl, wi_J2, by decide +kernel, by decide⟩
theorem ok_J2_getChar_3b067 : mOK mJ2_getChar_3b067 2 := ⟨gt_mem 508 (by decide +kernel) rfl, wi_J2, by decide +kernel, by decide⟩
theorem ok_X6_number : mOK mX6_number 2 := ⟨gt_mem 518 (by decide +kernel) rfl, wi_X6, by decide +kernel, by decide⟩
theorem ok_X6_digits : mOK mX6_digits 0 := ⟨gt_mem 522 (by decide +kernel) rfl, wi_X6, by decide +kernel, by decide⟩
theorem ok_X6_option : mOK mX6_option 4 := ⟨gt_mem 533 (by decide +kernel) rfl, wi_X6, by decide +kernel, by decide⟩
theorem ok_X9_inForce : mOK mX9_inForce 1 := ⟨gt_mem 541 (by decide +kernel) rfl, wi_X9, by decide +kernel, by decide⟩
theorem ok_X4_numberAt : mOK mX4_numberAt 1 := ⟨gt_mem 545 (by decide +kernel) rfl, wi_X4, by decide +kernel, by decide⟩
theorem ok_X9_sum : mOK mX9_sum 3 := ⟨gt_mem 550 (by decide +kernel) rfl, wi_X9, by decide +kernel, by decide⟩
theorem ok_X9_sumOf : mOK mX9_sumOf 3 := ⟨gt_mem 554 (by decide +kernel) rfl, wi_X9, by decide +kernel, by decide⟩
theorem ok_X3_incomeLess : mOK mX3_incomeLess 2 := ⟨gt_mem 558 (by decide +kernel) rfl, wi_X3, by decide +kernel, by decide⟩
theorem ok_X3_forChildren : mOK mX3_forChildren 2 := ⟨gt_mem 563 (by decide +kernel) rfl, wi_X3, by decide +kernel, by decide⟩
theorem ok_X3_withNights : mOK mX3_withNights 2 := ⟨gt_mem 571 (by decide +kernel) rfl, wi_X3, by decide +kernel, by decide⟩
theorem ok_X9_due : mOK mX9_due 3 := ⟨gt_mem 575 (by decide +kernel) rfl, wi_X9, by decide +kernel, by decide⟩
theorem ok_X9_dueOf : mOK mX9_dueOf 3 := ⟨gt_mem 579 (by decide +kernel) rfl, wi_X9, by decide +kernel, by decide⟩
theorem ok_X9_edge : mOK mX9_edge 2 := ⟨gt_mem 585 (by decide +kernel) rfl, wi_X9, by decide +kernel, by decide⟩
theorem ok_X9_line : mOK mX9_line 3 := ⟨gt_mem 589 (by decide +kernel) rfl, wi_X9, by decide +kernel, by decide⟩
theorem ok_X1_add : mOK mX1_add 3 := ⟨gt_mem 594 (by decide +kernel) rfl, wi_X1, by decide +kernel, by decide⟩
theorem ok_X9_marks : mOK mX9_marks 1 := ⟨gt_mem 598 (by decide +kernel) rfl, wi_X9, by decide +kernel, by decide⟩
theorem ok_X9_paid : mOK mX9_paid 2 := ⟨gt_mem 602 (by decide +kernel) rfl, wi_X9, by decide +kernel, by decide⟩
theorem ok_X1_coinsIn : mOK mX1_coinsIn 2 := ⟨gt_mem 606 (by decide +kernel) rfl, wi_X1, by decide +kernel, by decide⟩
theorem ok_X1_isPay : mOK mX1_isPay 1 := ⟨gt_mem 610 (by decide +kernel) rfl, wi_X1, by decide +kernel, by decide⟩
theorem ok_X9_owed : mOK mX9_owed 2 := ⟨gt_mem 614 (by decide +kernel) rfl, wi_X9, by decide +kernel, by decide⟩
theorem ok_X9_settle : mOK mX9_settle 2 := ⟨gt_mem 618 (by decide +kernel) rfl, wi_X9, by decide +kernel, by decide⟩
theorem ok_X1_paysUpTo : mOK mX1_paysUpTo 1 := ⟨gt_mem 622 (by decide +kernel) rfl, wi_X1, by decide +kernel, by decide⟩
theorem ok_X0_payOldestFirst : mOK mX0_payOldestFirst 1 := ⟨gt_mem 626 (by decide +kernel) rfl, wi_X0, by decide +kernel, by decide⟩
theorem ok_X0_leftInAll : mOK mX0_leftInAll 0 := ⟨gt_mem 631 (by decide +kernel) rfl, wi_X0, by decide +kernel, by decide⟩
theorem ok_X9_over : mOK mX9_over 2 := ⟨gt_mem 635 (by decide +kernel) rfl, wi_X9, by decide +kernel, by decide⟩
theorem ok_X9_left : mOK mX9_left 3 := ⟨gt_mem 639 (by decide +kernel) rfl, wi_X9, by decide +kernel, by decide⟩
theorem ok_X9_oldest : mOK mX9_oldest 2 := ⟨gt_mem 643 (by decide +kernel) rfl, wi_X9, by decide +kernel, by decide⟩
theorem ok_X0_firstLeft : mOK mX0_firstLeft 0 := ⟨gt_mem 647 (by decide +kernel) rfl, wi_X0, by decide +kernel, by decide⟩
theorem ok_X9_payer : mOK mX9_payer 2 := ⟨gt_mem 652 (by decide +kernel) rfl, wi_X9, by decide +kernel, by decide⟩
theorem ok_X0_dueUpTo : mOK mX0_dueUpTo 1 := ⟨gt_mem 656 (by decide +kernel) rfl, wi_X0, by decide +kernel, by decide⟩
theorem ok_X1_lineWithCoin : mOK mX1_lineWithCoin 2 := ⟨gt_mem 660 (by decide +kernel) rfl, wi_X1, by decide +kernel, by decide⟩
theorem ok_X9_interest : mOK mX9_interest 2 := ⟨gt_mem 665 (by decide +kernel) rfl, wi_X9, by decide +kernel, by decide⟩
theorem ok_X0_interestUpTo : mOK mX0_interestUpTo 2 := ⟨gt_mem 669 (by decide +kernel) rfl, wi_X0, by decide +kernel, by decide⟩
theorem ok_X9_forgive : mOK mX9_forgive 2 := ⟨gt_mem 673 (by decide +kernel) rfl, wi_X9, by decide +kernel, by decide⟩
theorem ok_X9_rate : mOK mX9_rate 1 := ⟨gt_mem 677 (by decide +kernel) rfl, wi_X9, by decide +kernel, by decide⟩
theorem ok_X9_weeks : mOK mX9_weeks 1 := ⟨gt_mem 681 (by decide +kernel) rfl, wi_X9, by decide +kernel, by decide⟩
theorem ok_X9_sheet : mOK mX9_sheet 2 := ⟨gt_mem 685 (by decide +kernel) rfl, wi_X9, by decide +kernel, by decide⟩
theorem ok_X7_makeAnew : mOK mX7_makeAnew 1 := ⟨gt_mem 690 (by decide +kernel) rfl, wi_X7, by decide +kernel, by decide⟩
theorem ok_J7_fill_031fb : mOK mJ7_fill_031fb 2 := ⟨gt_mem 693 (by decide +kernel) rfl, wi_J7, by decide +kernel, by decide⟩
theorem ok_X9_mark : mOK mX9_mark 3 := ⟨gt_mem 697 (by decide +kernel) rfl, wi_X9, by decide +kernel, by decide⟩
theorem ok_X7_isMissing : mOK mX7_isMissing 0 := ⟨gt_mem 701 (by decide +kernel) rfl, wi_X7, by decide +kernel, by decide⟩
theorem ok_X9_copy : mOK mX9_copy 5 := ⟨gt_mem 707 (by decide +kernel) rfl, wi_X9, by decide +kernel, by decide⟩
theorem ok_X7_hasRun : mOK mX7_hasRun 2 := ⟨gt_mem 711 (by decide +kernel) rfl, wi_X7, by decide +kernel, by decide⟩
theorem ok_X9_lose : mOK mX9_lose 1 := ⟨gt_mem 718 (by decide +kernel) rfl, wi_X9, by decide +kernel, by decide⟩
theorem ok_X9_count : mOK mX9_count 1 := ⟨gt_mem 722 (by decide +kernel) rfl, wi_X9, by decide +kernel, by decide⟩
theorem ok_X2_notTakenBack : mOK mX2_notTakenBack 0 := ⟨gt_mem 726 (by decide +kernel) rfl, wi_X2, by decide +kernel, by decide⟩
theorem ok_X9_forgivenWeeks : mOK mX9_forgivenWeeks 0 := ⟨gt_mem 730 (by decide +kernel) rfl, wi_X9, by decide +kernel, by decide⟩
theorem ok_X5_unlikeWeeks : mOK mX5_unlikeWeeks 1 := ⟨gt_mem 734 (by decide +kernel) rfl, wi_X5, by decide +kernel, by decide⟩
theorem ok_X10_change : mOK mX10_change 3 := ⟨gt_mem 854 (by decide +kernel) rfl, wi_X10, by decide +kernel, by decide⟩
theorem ok_X10_isValue : mOK mX10_isValue 2 := ⟨gt_mem 857 (by decide +kernel) rfl, wi_X10, by decide +kernel, by decide⟩
theorem ok_X10_isIn : mOK mX10_isIn 3 := ⟨gt_mem 860 (by decide +kernel) rfl, wi_X10, by decide +kernel, by decide⟩
theorem ok_X10_isWeek : mOK mX10_isWeek 1 := ⟨gt_mem 864 (by decide +kernel) rfl, wi_X10, by decide +kernel, by decide⟩
theorem ok_X10_isOf : mOK mX10_isOf 2 := ⟨gt_mem 870 (by decide +kernel) rfl, wi_X10, by decide +kernel, by decide⟩
theorem ok_X10_isChange : mOK mX10_isChange 1 := ⟨gt_mem 874 (by decide +kernel) rfl, wi_X10, by decide +kernel, by decide⟩
theorem ok_X10_takeBack : mOK mX10_takeBack 1 := ⟨gt_mem 878 (by decide +kernel) rfl, wi_X10, by decide +kernel, by decide⟩
theorem ok_X10_told : mOK mX10_told 2 := ⟨gt_mem 883 (by decide +kernel) rfl, wi_X10, by decide +kernel, by decide⟩
theorem ok_X10_known : mOK mX10_known 3 := ⟨gt_mem 888 (by decide +kernel) rfl, wi_X10, by decide +kernel, by decide⟩
theorem ok_X10_isPast : mOK mX10_isPast 1 := ⟨gt_mem 892 (by decide +kernel) rfl, wi_X10, by decide +kernel, by decide⟩
theorem ok_X10_income : mOK mX10_income 2 := ⟨gt_mem 896 (by decide +kernel) rfl, wi_X10, by decide +kernel, by decide⟩
theorem ok_X10_latest : mOK mX10_latest 3 := ⟨gt_mem 900 (by decide +kernel) rfl, wi_X10, by decide +kernel, by decide⟩
theorem ok_X10_holds : mOK mX10_holds 3 := ⟨gt_mem 904 (by decide +kernel) rfl, wi_X10, by decide +kernel, by decide⟩
theorem ok_X10_children : mOK mX10_children 2 := ⟨gt_mem 908 (by decide +kernel) rfl, wi_X10, by decide +kernel, by decide⟩
theorem ok_X10_others : mOK mX10_others 2 := ⟨gt_mem 912 (by decide +kernel) rfl, wi_X10, by decide +kernel, by decide⟩
theorem ok_X10_school : mOK mX10_school 2 := ⟨gt_mem 916 (by decide +kernel) rfl, wi_X10, by decide +kernel, by decide⟩
theorem ok_X10_nights : mOK mX10_nights 2 := ⟨gt_mem 920 (by decide +kernel) rfl, wi_X10, by decide +kernel, by decide⟩
theorem ok_X10_end : mOK mX10_end 2 := ⟨gt_mem 924 (by decide +kernel) rfl, wi_X10, by decide +kernel, by decide⟩
theorem ok_X10_diary : mOK mX10_diary 2 := ⟨gt_mem 928 (by decide +kernel) rfl, wi_X10, by decide +kernel, by decide⟩
theorem ok_X10_feed : mOK mX10_feed 3 := ⟨gt_mem 932 (by decide +kernel) rfl, wi_X10, by decide +kernel, by decide⟩
theorem ok_X10_four : mOK mX10_four 1 := ⟨gt_mem 936 (by decide +kernel) rfl, wi_X10, by decide +kernel, by decide⟩
theorem ok_X10_trim : mOK mX10_trim 1 := ⟨gt_mem 940 (by decide +kernel) rfl, wi_X10, by decide +kernel, by decide⟩
theorem ok_X10_law : mOK mX10_law 1 := ⟨gt_mem 944 (by decide +kernel) rfl, wi_X10, by decide +kernel, by decide⟩
theorem ok_X10_keepAside : mOK mX10_keepAside 1 := ⟨gt_mem 948 (by decide +kernel) rfl, wi_X10, by decide +kernel, by decide⟩
theorem ok_X10_readLaw : mOK mX10_readLaw 1 := ⟨gt_mem 952 (by decide +kernel) rfl, wi_X10, by decide +kernel, by decide⟩
theorem ok_X10_next : mOK mX10_next 0 := ⟨gt_mem 956 (by decide +kernel) rfl, wi_X10, by decide +kernel, by decide⟩
theorem ok_X10_isTake : mOK mX10_isTake 0 := ⟨gt_mem 960 (by decide +kernel) rfl, wi_X10, by decide +kernel, by decide⟩
theorem ok_X10_isWord : mOK mX10_isWord 5 := ⟨gt_mem 964 (by decide +kernel) rfl, wi_X10, by decide +kernel, by decide⟩
theorem ok_X10_isNumber : mOK mX10_isNumber 2 := ⟨gt_mem 968 (by decide +kernel) rfl, wi_X10, by decide +kernel, by decide⟩
theorem ok_X10_number : mOK mX10_number 0 := ⟨gt_mem 972 (by decide +kernel) rfl, wi_X10, by decide +kernel, by decide⟩
theorem ok_X10_readOver : mOK mX10_readOver 1 := ⟨gt_mem 977 (by decide +kernel) rfl, wi_X10, by decide +kernel, by decide⟩
theorem ok_X10_here : mOK mX10_here 0 := ⟨gt_mem 981 (by decide +kernel) rfl, wi_X10, by decide +kernel, by decide⟩
theorem ok_X10_putBack : mOK mX10_putBack 1 := ⟨gt_mem 985 (by decide +kernel) rfl, wi_X10, by decide +kernel, by decide⟩
theorem ok_X10_inForce : mOK mX10_inForce 1 := ⟨gt_mem 989 (by decide +kernel) rfl, wi_X10, by decide +kernel, by decide⟩
theorem ok_X10_lawOf : mOK mX10_lawOf 1 := ⟨gt_mem 993 (by decide +kernel) rfl, wi_X10, by decide +kernel, by decide⟩
theorem ok_X10_sum : mOK mX10_sum 3 := ⟨gt_mem 997 (by decide +kernel) rfl, wi_X10, by decide +kernel, by decide⟩
theorem ok_X10_sumOf : mOK mX10_sumOf 3 := ⟨gt_mem 1001 (by decide +kernel) rfl, wi_X10, by decide +kernel, by decide⟩
theorem ok_X10_due : mOK mX10_due 3 := ⟨gt_mem 1005 (by decide +kernel) rfl, wi_X10, by decide +kernel, by decide⟩
theorem ok_X10_isSide : mOK mX10_isSide 1 := ⟨gt_mem 1008 (by decide +kernel) rfl, wi_X10, by decide +kernel, by decide⟩
theorem ok_X10_dueOf : mOK mX10_dueOf 3 := ⟨gt_mem 1012 (by decide +kernel) rfl, wi_X10, by decide +kernel, by decide⟩
theorem ok_X10_edge : mOK mX10_edge 2 := ⟨gt_mem 1016 (by decide +kernel) rfl, wi_X10, by decide +kernel, by decide⟩
theorem ok_X10_line : mOK mX10_line 3 := ⟨gt_mem 1020 (by decide +kernel) rfl, wi_X10, by decide +kernel, by decide⟩
theorem ok_X10_marks : mOK mX10_marks 1 := ⟨gt_mem 1024 (by decide +kernel) rfl, wi_X10, by decide +kernel, by decide⟩
theorem ok_X10_paid : mOK mX10_paid 2 := ⟨gt_mem 1028 (by decide +kernel) rfl, wi_X10, by decide +kernel, by decide⟩
theorem ok_X10_isPay : mOK mX10_isPay 1 := ⟨gt_mem 1032 (by decide +kernel) rfl, wi_X10, by decide +kernel, by decide⟩
theorem ok_X10_owed : mOK mX10_owed 2 := ⟨gt_mem 1036 (by decide +kernel) rfl, wi_X10, by decide +kernel, by decide⟩
theorem ok_X10_isAsked : mOK mX10_isAsked 2 := ⟨gt_mem 1040 (by decide +kernel) rfl, wi_X10, by decide +kernel, by decide⟩
theorem ok_X10_findDues : mOK mX10_findDues 2 := ⟨gt_mem 1044 (by decide +kernel) rfl, wi_X10, by decide +kernel, by decide⟩
theorem ok_X10_paysUpTo : mOK mX10_paysUpTo 1 := ⟨gt_mem 1048 (by decide +kernel) rfl, wi_X10, by decide +kernel, by decide⟩
theorem ok_X10_over : mOK mX10_over 2 := ⟨gt_mem 1052 (by decide +kernel) rfl, wi_X10, by decide +kernel, by decide⟩
theorem ok_X10_left : mOK mX10_left 3 := ⟨gt_mem 1056 (by decide +kernel) rfl, wi_X10, by decide +kernel, by decide⟩
theorem ok_X10_leftBy : mOK mX10_leftBy 2 := ⟨gt_mem 1060 (by decide +kernel) rfl, wi_X10, by decide +kernel, by decide⟩
theorem ok_X10_oldest : mOK mX10_oldest 2 := ⟨gt_mem 1064 (by decide +kernel) rfl, wi_X10, by decide +kernel, by decide⟩
theorem ok_X10_payer : mOK mX10_payer 2 := ⟨gt_mem 1068 (by decide +kernel) rfl, wi_X10, by decide +kernel, by decide⟩
theorem ok_X10_interest : mOK mX10_interest 2 := ⟨gt_mem 1072 (by decide +kernel) rfl, wi_X10, by decide +kernel, by decide⟩
theorem ok_X10_forgive : mOK mX10_forgive 2 := ⟨gt_mem 1076 (by decide +kernel) rfl, wi_X10, by decide +kernel, by decide⟩
theorem ok_X10_rate : mOK mX10_rate 1 := ⟨gt_mem 1080 (by decide +kernel) rfl, wi_X10, by decide +kernel, by decide⟩
theorem ok_X10_weeks : mOK mX10_weeks 1 := ⟨gt_mem 1084 (by decide +kernel) rfl, wi_X10, by decide +kernel, by decide⟩
theorem ok_X10_sheet : mOK mX10_sheet 2 := ⟨gt_mem 1088 (by decide +kernel) rfl, wi_X10, by decide +kernel, by decide⟩
theorem ok_X10_isSheet : mOK mX10_isSheet 1 := ⟨gt_mem 1091 (by decide +kernel) rfl, wi_X10, by decide +kernel, by decide⟩
theorem ok_X10_mark : mOK mX10_mark 3 := ⟨gt_mem 1096 (by decide +kernel) rfl, wi_X10, by decide +kernel, by decide⟩
theorem ok_X10_copy : mOK mX10_copy 5 := ⟨gt_mem 1102 (by decide +kernel) rfl, wi_X10, by decide +kernel, by decide⟩
theorem ok_X10_lose : mOK mX10_lose 1 := ⟨gt_mem 1106 (by decide +kernel) rfl, wi_X10, by decide +kernel, by decide⟩
theorem ok_X10_count : mOK mX10_count 1 := ⟨gt_mem 1110 (by decide +kernel) rfl, wi_X10, by decide +kernel, by decide⟩
theorem wn_X9_init : Cond.instanceMethod mX9_init.1 ∈ gtbl := gt_mem 67 (by decide +kernel) rfl
theorem wn_X2_init : Cond.instanceMethod mX2_init.1 ∈ gtbl := gt_mem 75 (by decide +kernel) rfl
theorem wn_X8_init : Cond.instanceMethod mX8_init.1 ∈ gtbl := gt_mem 107 (by decide +kernel) rfl
theorem wn_X6_init : Cond.instanceMethod mX6_init.1 ∈ gtbl := gt_mem 124 (by decide +kernel) rfl
theorem wn_X4_init : Cond.instanceMethod mX4_init.1 ∈ gtbl := gt_mem 143 (by decide +kernel) rfl
theorem wn_X3_init : Cond.instanceMethod mX3_init.1 ∈ gtbl := gt_mem 150 (by decide +kernel) rfl
theorem wn_X5_init : Cond.instanceMethod mX5_init.1 ∈ gtbl := gt_mem 198 (by decide +kernel) rfl
theorem wn_X7_init : Cond.instanceMethod mX7_init.1 ∈ gtbl := gt_mem 205 (by decide +kernel) rfl
theorem wt_J7_fill_53178 : Cond.static mJ7_fill_53178.1 ∈ gtbl := gt_mem 219 (by decide +kernel) rfl
theorem wn_X1_init : Cond.instanceMethod mX1_init.1 ∈ gtbl := gt_mem 233 (by decide +kernel) rfl
theorem wn_X0_init : Cond.instanceMethod mX0_init.1 ∈ gtbl := gt_mem 257 (by decide +kernel) rfl
theorem wn_X9_change : Cond.instanceMethod mX9_change.1 ∈ gtbl := gt_mem 310 (by decide +kernel) rfl
theorem wc_X9_change : Cond.selects mX9_change.1.cls mX9_change.1 mX9_change.1 ∈ gtbl := gt_mem 311 (by decide +kernel) rfl
theorem wt_X2_mayHold : Cond.static mX2_mayHold.1 ∈ gtbl := gt_mem 314 (by decide +kernel) rfl
theorem wt_X9_isWeek : Cond.static mX9_isWeek.1 ∈ gtbl := gt_mem 318 (by decide +kernel) rfl
theorem wt_X9_isBelow : Cond.static mX9_isBelow.1 ∈ gtbl := gt_mem 321 (by decide +kernel) rfl
theorem wn_X2_add : Cond.instanceMethod mX2_add.1 ∈ gtbl := gt_mem 326 (by decide +kernel) rfl
theorem wc_X2_add : Cond.selects mX2_add.1.cls mX2_add.1 mX2_add.1 ∈ gtbl := gt_mem 327 (by decide +kernel) rfl
theorem wn_X9_isOf : Cond.instanceMethod mX9_isOf.1 ∈ gtbl := gt_mem 331 (by decide +kernel) rfl
theorem wc_X9_isOf : Cond.selects mX9_isOf.1.cls mX9_isOf.1 mX9_isOf.1 ∈ gtbl := gt_mem 332 (by decide +kernel) rfl
theorem wn_X2_has : Cond.instanceMethod mX2_has.1 ∈ gtbl := gt_mem 335 (by decide +kernel) rfl
theorem wc_X2_has : Cond.selects mX2_has.1.cls mX2_has.1 mX2_has.1 ∈ gtbl := gt_mem 336 (by decide +kernel) rfl
theorem wn_X2_isOfKind : Cond.instanceMethod mX2_isOfKind.1 ∈ gtbl := gt_mem 340 (by decide +kernel) rfl
theorem wc_X2_isOfKind : Cond.selects mX2_isOfKind.1.cls mX2_isOfKind.1 mX2_isOfKind.1 ∈ gtbl := gt_mem 341 (by decide +kernel) rfl
theorem wn_X9_takeBack : Cond.instanceMethod mX9_takeBack.1 ∈ gtbl := gt_mem 344 (by decide +kernel) rfl
theorem wc_X9_takeBack : Cond.selects mX9_takeBack.1.cls mX9_takeBack.1 mX9_takeBack.1 ∈ gtbl := gt_mem 345 (by decide +kernel) rfl
theorem wn_X9_told : Cond.instanceMethod mX9_told.1 ∈ gtbl := gt_mem 350 (by decide +kernel) rfl
theorem wc_X9_told : Cond.selects mX9_told.1.cls mX9_told.1 mX9_told.1 ∈ gtbl := gt_mem 351 (by decide +kernel) rfl
theorem wn_X9_known : Cond.instanceMethod mX9_known.1 ∈ gtbl := gt_mem 354 (by decide +kernel) rfl
theorem wc_X9_known : Cond.selects mX9_known.1.cls mX9_known.1 mX9_known.1 ∈ gtbl := gt_mem 355 (by decide +kernel) rfl
theorem wn_X9_isPast : Cond.instanceMethod mX9_isPast.1 ∈ gtbl := gt_mem 359 (by decide +kernel) rfl
theorem wn_X2_incomeAt : Cond.instanceMethod mX2_incomeAt.1 ∈ gtbl := gt_mem 362 (by decide +kernel) rfl
theorem wc_X2_incomeAt : Cond.selects mX2_incomeAt.1.cls mX2_incomeAt.1 mX2_incomeAt.1 ∈ gtbl := gt_mem 363 (by decide +kernel) rfl
theorem wn_X2_latest : Cond.instanceMethod mX2_latest.1 ∈ gtbl := gt_mem 367 (by decide +kernel) rfl
theorem wn_X2_counts : Cond.instanceMethod mX2_counts.1 ∈ gtbl := gt_mem 371 (by decide +kernel) rfl
theorem wn_X2_childrenAt : Cond.instanceMethod mX2_childrenAt.1 ∈ gtbl := gt_mem 374 (by decide +kernel) rfl
theorem wc_X2_childrenAt : Cond.selects mX2_childrenAt.1.cls mX2_childrenAt.1 mX2_childrenAt.1 ∈ gtbl := gt_mem 375 (by decide +kernel) rfl
theorem wt_J9_min_7cf53 : Cond.static mJ9_min_7cf53.1 ∈ gtbl := gt_mem 378 (by decide +kernel) rfl
theorem wt_J9_max_7cf53 : Cond.static mJ9_max_7cf53.1 ∈ gtbl := gt_mem 381 (by decide +kernel) rfl
theorem wn_X2_othersAt : Cond.instanceMethod mX2_othersAt.1 ∈ gtbl := gt_mem 384 (by decide +kernel) rfl
theorem wc_X2_othersAt : Cond.selects mX2_othersAt.1.cls mX2_othersAt.1 mX2_othersAt.1 ∈ gtbl := gt_mem 385 (by decide +kernel) rfl
theorem wn_X9_school : Cond.instanceMethod mX9_school.1 ∈ gtbl := gt_mem 388 (by decide +kernel) rfl
theorem wc_X9_school : Cond.selects mX9_school.1.cls mX9_school.1 mX9_school.1 ∈ gtbl := gt_mem 389 (by decide +kernel) rfl
theorem wt_X9_areNights : Cond.static mX9_areNights.1 ∈ gtbl := gt_mem 392 (by decide +kernel) rfl
theorem wn_X9_nights : Cond.instanceMethod mX9_nights.1 ∈ gtbl := gt_mem 395 (by decide +kernel) rfl
theorem wc_X9_nights : Cond.selects mX9_nights.1.cls mX9_nights.1 mX9_nights.1 ∈ gtbl := gt_mem 396 (by decide +kernel) rfl
theorem wn_X5_lesser : Cond.instanceMethod mX5_lesser.1 ∈ gtbl := gt_mem 399 (by decide +kernel) rfl
theorem wc_X5_lesser : Cond.selects mX5_lesser.1.cls mX5_lesser.1 mX5_lesser.1 ∈ gtbl := gt_mem 400 (by decide +kernel) rfl
theorem wn_X5_atEnd : Cond.instanceMethod mX5_atEnd.1 ∈ gtbl := gt_mem 404 (by decide +kernel) rfl
theorem wn_X7_toldFor : Cond.instanceMethod mX7_toldFor.1 ∈ gtbl := gt_mem 407 (by decide +kernel) rfl
theorem wc_X7_toldFor : Cond.selects mX7_toldFor.1.cls mX7_toldFor.1 mX7_toldFor.1 ∈ gtbl := gt_mem 408 (by decide +kernel) rfl
theorem wn_X5_greater : Cond.instanceMethod mX5_greater.1 ∈ gtbl := gt_mem 416 (by decide +kernel) rfl
theorem wc_X5_greater : Cond.selects mX5_greater.1.cls mX5_greater.1 mX5_greater.1 ∈ gtbl := gt_mem 417 (by decide +kernel) rfl
theorem wn_X5_areUnlike : Cond.instanceMethod mX5_areUnlike.1 ∈ gtbl := gt_mem 420 (by decide +kernel) rfl
theorem wc_X5_areUnlike : Cond.selects mX5_areUnlike.1.cls mX5_areUnlike.1 mX5_areUnlike.1 ∈ gtbl := gt_mem 421 (by decide +kernel) rfl
theorem wn_X9_feed : Cond.instanceMethod mX9_feed.1 ∈ gtbl := gt_mem 426 (by decide +kernel) rfl
theorem wc_X9_feed : Cond.selects mX9_feed.1.cls mX9_feed.1 mX9_feed.1 ∈ gtbl := gt_mem 427 (by decide +kernel) rfl
theorem wn_X8_put : Cond.instanceMethod mX8_put.1 ∈ gtbl := gt_mem 430 (by decide +kernel) rfl
theorem wc_X8_put : Cond.selects mX8_put.1.cls mX8_put.1 mX8_put.1 ∈ gtbl := gt_mem 431 (by decide +kernel) rfl
theorem wn_X9_trim : Cond.instanceMethod mX9_trim.1 ∈ gtbl := gt_mem 434 (by decide +kernel) rfl
theorem wc_X9_trim : Cond.selects mX9_trim.1.cls mX9_trim.1 mX9_trim.1 ∈ gtbl := gt_mem 435 (by decide +kernel) rfl
theorem wn_X9_law : Cond.instanceMethod mX9_law.1 ∈ gtbl := gt_mem 438 (by decide +kernel) rfl
theorem wc_X9_law : Cond.selects mX9_law.1.cls mX9_law.1 mX9_law.1 ∈ gtbl := gt_mem 439 (by decide +kernel) rfl
theorem wn_X9_addLaw : Cond.instanceMethod mX9_addLaw.1 ∈ gtbl := gt_mem 443 (by decide +kernel) rfl
theorem wn_X6_readInto : Cond.instanceMethod mX6_readInto.1 ∈ gtbl := gt_mem 446 (by decide +kernel) rfl
theorem wc_X6_readInto : Cond.selects mX6_readInto.1.cls mX6_readInto.1 mX6_readInto.1 ∈ gtbl := gt_mem 447 (by decide +kernel) rfl
theorem wn_X6_step : Cond.instanceMethod mX6_step.1 ∈ gtbl := gt_mem 452 (by decide +kernel) rfl
theorem wn_X6_need : Cond.instanceMethod mX6_need.1 ∈ gtbl := gt_mem 457 (by decide +kernel) rfl
theorem wn_X6_skip : Cond.instanceMethod mX6_skip.1 ∈ gtbl := gt_mem 461 (by decide +kernel) rfl
theorem wn_X6_isAt : Cond.instanceMethod mX6_isAt.1 ∈ gtbl := gt_mem 465 (by decide +kernel) rfl
theorem wn_J0_length_8abf5 : Cond.instanceMethod mJ0_length_8abf5.1 ∈ gtbl := gt_mem 468 (by decide +kernel) rfl
theorem wc_J0_length_8abf5 : Cond.selects mJ0_length_8abf5.1.cls mJ0_length_8abf5.1 mJ0_length_8abf5.1 ∈ gtbl := gt_mem 469 (by decide +kernel) rfl
theorem wn_J0_coder_7d493 : Cond.instanceMethod mJ0_coder_7d493.1 ∈ gtbl := gt_mem 472 (by decide +kernel) rfl
theorem wc_J0_coder_7d493 : Cond.selects mJ0_coder_7d493.1.cls mJ0_coder_7d493.1 mJ0_coder_7d493.1 ∈ gtbl := gt_mem 473 (by decide +kernel) rfl
theorem wn_J0_charAt_5068e : Cond.instanceMethod mJ0_charAt_5068e.1 ∈ gtbl := gt_mem 478 (by decide +kernel) rfl
theorem wc_J0_charAt_5068e : Cond.selects mJ0_charAt_5068e.1.cls mJ0_charAt_5068e.1 mJ0_charAt_5068e.1 ∈ gtbl := gt_mem 479 (by decide +kernel) rfl
theorem wn_J0_isLatin1_aae02 : Cond.instanceMethod mJ0_isLatin1_aae02.1 ∈ gtbl := gt_mem 482 (by decide +kernel) rfl
theorem wc_J0_isLatin1_aae02 : Cond.selects mJ0_isLatin1_aae02.1.cls mJ0_isLatin1_aae02.1 mJ0_isLatin1_aae02.1 ∈ gtbl := gt_mem 483 (by decide +kernel) rfl
theorem wt_J1_charAt_3b067 : Cond.static mJ1_charAt_3b067.1 ∈ gtbl := gt_mem 486 (by decide +kernel) rfl
theorem wt_J0_checkIndex_df160 : Cond.static mJ0_checkIndex_df160.1 ∈ gtbl := gt_mem 489 (by decide +kernel) rfl
theorem wt_J3_checkIndex_8e157 : Cond.static mJ3_checkIndex_8e157.1 ∈ gtbl := gt_mem 494 (by decide +kernel) rfl
theorem wt_J2_charAt_3b067 : Cond.static mJ2_charAt_3b067.1 ∈ gtbl := gt_mem 497 (by decide +kernel) rfl
theorem wt_J2_checkIndex_2214a : Cond.static mJ2_checkIndex_2214a.1 ∈ gtbl := gt_mem 500 (by decide +kernel) rfl
theorem wt_J2_length_9d52b : Cond.static mJ2_length_9d52b.1 ∈ gtbl := gt_mem 503 (by decide +kernel) rfl
theorem wt_J2_getChar_3b067 : Cond.static mJ2_getChar_3b067.1 ∈ gtbl := gt_mem 507 (by decide +kernel) rfl
theorem wn_X6_number : Cond.instanceMethod mX6_number.1 ∈ gtbl := gt_mem 517 (by decide +kernel) rfl
theorem wn_X6_digits : Cond.instanceMethod mX6_digits.1 ∈ gtbl := gt_mem 521 (by decide +kernel) rfl
theorem wn_X6_option : Cond.instanceMethod mX6_option.1 ∈ gtbl := gt_mem 532 (by decide +kernel) rfl
theorem wn_X9_inForce : Cond.instanceMethod mX9_inForce.1 ∈ gtbl := gt_mem 539 (by decide +kernel) rfl
theorem wc_X9_inForce : Cond.selects mX9_inForce.1.cls mX9_inForce.1 mX9_inForce.1 ∈ gtbl := gt_mem 540 (by decide +kernel) rfl
theorem wn_X4_numberAt : Cond.instanceMethod mX4_numberAt.1 ∈ gtbl := gt_mem 543 (by decide +kernel) rfl
theorem wc_X4_numberAt : Cond.selects mX4_numberAt.1.cls mX4_numberAt.1 mX4_numberAt.1 ∈ gtbl := gt_mem 544 (by decide +kernel) rfl
theorem wn_X9_sum : Cond.instanceMethod mX9_sum.1 ∈ gtbl := gt_mem 548 (by decide +kernel) rfl
theorem wc_X9_sum : Cond.selects mX9_sum.1.cls mX9_sum.1 mX9_sum.1 ∈ gtbl := gt_mem 549 (by decide +kernel) rfl
theorem wn_X9_sumOf : Cond.instanceMethod mX9_sumOf.1 ∈ gtbl := gt_mem 553 (by decide +kernel) rfl
theorem wn_X3_incomeLess : Cond.instanceMethod mX3_incomeLess.1 ∈ gtbl := gt_mem 556 (by decide +kernel) rfl
theorem wc_X3_incomeLess : Cond.selects mX3_incomeLess.1.cls mX3_incomeLess.1 mX3_incomeLess.1 ∈ gtbl := gt_mem 557 (by decide +kernel) rfl
theorem wn_X3_forChildren : Cond.instanceMethod mX3_forChildren.1 ∈ gtbl := gt_mem 561 (by decide +kernel) rfl
theorem wc_X3_forChildren : Cond.selects mX3_forChildren.1.cls mX3_forChildren.1 mX3_forChildren.1 ∈ gtbl := gt_mem 562 (by decide +kernel) rfl
theorem wn_X3_withNights : Cond.instanceMethod mX3_withNights.1 ∈ gtbl := gt_mem 569 (by decide +kernel) rfl
theorem wc_X3_withNights : Cond.selects mX3_withNights.1.cls mX3_withNights.1 mX3_withNights.1 ∈ gtbl := gt_mem 570 (by decide +kernel) rfl
theorem wn_X9_due : Cond.instanceMethod mX9_due.1 ∈ gtbl := gt_mem 573 (by decide +kernel) rfl
theorem wc_X9_due : Cond.selects mX9_due.1.cls mX9_due.1 mX9_due.1 ∈ gtbl := gt_mem 574 (by decide +kernel) rfl
theorem wn_X9_dueOf : Cond.instanceMethod mX9_dueOf.1 ∈ gtbl := gt_mem 578 (by decide +kernel) rfl
theorem wn_X9_edge : Cond.instanceMethod mX9_edge.1 ∈ gtbl := gt_mem 583 (by decide +kernel) rfl
theorem wc_X9_edge : Cond.selects mX9_edge.1.cls mX9_edge.1 mX9_edge.1 ∈ gtbl := gt_mem 584 (by decide +kernel) rfl
theorem wn_X9_line : Cond.instanceMethod mX9_line.1 ∈ gtbl := gt_mem 587 (by decide +kernel) rfl
theorem wc_X9_line : Cond.selects mX9_line.1.cls mX9_line.1 mX9_line.1 ∈ gtbl := gt_mem 588 (by decide +kernel) rfl
theorem wn_X1_add : Cond.instanceMethod mX1_add.1 ∈ gtbl := gt_mem 592 (by decide +kernel) rfl
theorem wc_X1_add : Cond.selects mX1_add.1.cls mX1_add.1 mX1_add.1 ∈ gtbl := gt_mem 593 (by decide +kernel) rfl
theorem wn_X9_marks : Cond.instanceMethod mX9_marks.1 ∈ gtbl := gt_mem 596 (by decide +kernel) rfl
theorem wc_X9_marks : Cond.selects mX9_marks.1.cls mX9_marks.1 mX9_marks.1 ∈ gtbl := gt_mem 597 (by decide +kernel) rfl
theorem wn_X9_paid : Cond.instanceMethod mX9_paid.1 ∈ gtbl := gt_mem 600 (by decide +kernel) rfl
theorem wc_X9_paid : Cond.selects mX9_paid.1.cls mX9_paid.1 mX9_paid.1 ∈ gtbl := gt_mem 601 (by decide +kernel) rfl
theorem wn_X1_coinsIn : Cond.instanceMethod mX1_coinsIn.1 ∈ gtbl := gt_mem 604 (by decide +kernel) rfl
theorem wc_X1_coinsIn : Cond.selects mX1_coinsIn.1.cls mX1_coinsIn.1 mX1_coinsIn.1 ∈ gtbl := gt_mem 605 (by decide +kernel) rfl
theorem wn_X1_isPay : Cond.instanceMethod mX1_isPay.1 ∈ gtbl := gt_mem 609 (by decide +kernel) rfl
theorem wn_X9_owed : Cond.instanceMethod mX9_owed.1 ∈ gtbl := gt_mem 612 (by decide +kernel) rfl
theorem wc_X9_owed : Cond.selects mX9_owed.1.cls mX9_owed.1 mX9_owed.1 ∈ gtbl := gt_mem 613 (by decide +kernel) rfl
theorem wn_X9_settle : Cond.instanceMethod mX9_settle.1 ∈ gtbl := gt_mem 617 (by decide +kernel) rfl
theorem wn_X1_paysUpTo : Cond.instanceMethod mX1_paysUpTo.1 ∈ gtbl := gt_mem 620 (by decide +kernel) rfl
theorem wc_X1_paysUpTo : Cond.selects mX1_paysUpTo.1.cls mX1_paysUpTo.1 mX1_paysUpTo.1 ∈ gtbl := gt_mem 621 (by decide +kernel) rfl
theorem wn_X0_payOldestFirst : Cond.instanceMethod mX0_payOldestFirst.1 ∈ gtbl := gt_mem 624 (by decide +kernel) rfl
theorem wc_X0_payOldestFirst : Cond.selects mX0_payOldestFirst.1.cls mX0_payOldestFirst.1 mX0_payOldestFirst.1 ∈ gtbl := gt_mem 625 (by decide +kernel) rfl
theorem wn_X0_leftInAll : Cond.instanceMethod mX0_leftInAll.1 ∈ gtbl := gt_mem 629 (by decide +kernel) rfl
theorem wc_X0_leftInAll : Cond.selects mX0_leftInAll.1.cls mX0_leftInAll.1 mX0_leftInAll.1 ∈ gtbl := gt_mem 630 (by decide +kernel) rfl
theorem wn_X9_over : Cond.instanceMethod mX9_over.1 ∈ gtbl := gt_mem 633 (by decide +kernel) rfl
theorem wc_X9_over : Cond.selects mX9_over.1.cls mX9_over.1 mX9_over.1 ∈ gtbl := gt_mem 634 (by decide +kernel) rfl
theorem wn_X9_left : Cond.instanceMethod mX9_left.1 ∈ gtbl := gt_mem 637 (by decide +kernel) rfl
theorem wc_X9_left : Cond.selects mX9_left.1.cls mX9_left.1 mX9_left.1 ∈ gtbl := gt_mem 638 (by decide +kernel) rfl
theorem wn_X9_oldest : Cond.instanceMethod mX9_oldest.1 ∈ gtbl := gt_mem 641 (by decide +kernel) rfl
theorem wc_X9_oldest : Cond.selects mX9_oldest.1.cls mX9_oldest.1 mX9_oldest.1 ∈ gtbl := gt_mem 642 (by decide +kernel) rfl
theorem wn_X0_firstLeft : Cond.instanceMethod mX0_firstLeft.1 ∈ gtbl := gt_mem 645 (by decide +kernel) rfl
theorem wc_X0_firstLeft : Cond.selects mX0_firstLeft.1.cls mX0_firstLeft.1 mX0_firstLeft.1 ∈ gtbl := gt_mem 646 (by decide +kernel) rfl
theorem wn_X9_payer : Cond.instanceMethod mX9_payer.1 ∈ gtbl := gt_mem 650 (by decide +kernel) rfl
theorem wc_X9_payer : Cond.selects mX9_payer.1.cls mX9_payer.1 mX9_payer.1 ∈ gtbl := gt_mem 651 (by decide +kernel) rfl
theorem wn_X0_dueUpTo : Cond.instanceMethod mX0_dueUpTo.1 ∈ gtbl := gt_mem 654 (by decide +kernel) rfl
theorem wc_X0_dueUpTo : Cond.selects mX0_dueUpTo.1.cls mX0_dueUpTo.1 mX0_dueUpTo.1 ∈ gtbl := gt_mem 655 (by decide +kernel) rfl
theorem wn_X1_lineWithCoin : Cond.instanceMethod mX1_lineWithCoin.1 ∈ gtbl := gt_mem 658 (by decide +kernel) rfl
theorem wc_X1_lineWithCoin : Cond.selects mX1_lineWithCoin.1.cls mX1_lineWithCoin.1 mX1_lineWithCoin.1 ∈ gtbl := gt_mem 659 (by decide +kernel) rfl
theorem wn_X9_interest : Cond.instanceMethod mX9_interest.1 ∈ gtbl := gt_mem 663 (by decide +kernel) rfl
theorem wc_X9_interest : Cond.selects mX9_interest.1.cls mX9_interest.1 mX9_interest.1 ∈ gtbl := gt_mem 664 (by decide +kernel) rfl
theorem wn_X0_interestUpTo : Cond.instanceMethod mX0_interestUpTo.1 ∈ gtbl := gt_mem 667 (by decide +kernel) rfl
theorem wc_X0_interestUpTo : Cond.selects mX0_interestUpTo.1.cls mX0_interestUpTo.1 mX0_interestUpTo.1 ∈ gtbl := gt_mem 668 (by decide +kernel) rfl
theorem wn_X9_forgive : Cond.instanceMethod mX9_forgive.1 ∈ gtbl := gt_mem 671 (by decide +kernel) rfl
theorem wc_X9_forgive : Cond.selects mX9_forgive.1.cls mX9_forgive.1 mX9_forgive.1 ∈ gtbl := gt_mem 672 (by decide +kernel) rfl
theorem wn_X9_rate : Cond.instanceMethod mX9_rate.1 ∈ gtbl := gt_mem 675 (by decide +kernel) rfl
theorem wc_X9_rate : Cond.selects mX9_rate.1.cls mX9_rate.1 mX9_rate.1 ∈ gtbl := gt_mem 676 (by decide +kernel) rfl
theorem wn_X9_weeks : Cond.instanceMethod mX9_weeks.1 ∈ gtbl := gt_mem 679 (by decide +kernel) rfl
theorem wc_X9_weeks : Cond.selects mX9_weeks.1.cls mX9_weeks.1 mX9_weeks.1 ∈ gtbl := gt_mem 680 (by decide +kernel) rfl
theorem wn_X9_sheet : Cond.instanceMethod mX9_sheet.1 ∈ gtbl := gt_mem 683 (by decide +kernel) rfl
theorem wc_X9_sheet : Cond.selects mX9_sheet.1.cls mX9_sheet.1 mX9_sheet.1 ∈ gtbl := gt_mem 684 (by decide +kernel) rfl
theorem wn_X7_makeAnew : Cond.instanceMethod mX7_makeAnew.1 ∈ gtbl := gt_mem 688 (by decide +kernel) rfl
theorem wc_X7_makeAnew : Cond.selects mX7_makeAnew.1.cls mX7_makeAnew.1 mX7_makeAnew.1 ∈ gtbl := gt_mem 689 (by decide +kernel) rfl
theorem wt_J7_fill_031fb : Cond.static mJ7_fill_031fb.1 ∈ gtbl := gt_mem 692 (by decide +kernel) rfl
theorem wn_X9_mark : Cond.instanceMethod mX9_mark.1 ∈ gtbl := gt_mem 695 (by decide +kernel) rfl
theorem wc_X9_mark : Cond.selects mX9_mark.1.cls mX9_mark.1 mX9_mark.1 ∈ gtbl := gt_mem 696 (by decide +kernel) rfl
theorem wn_X7_isMissing : Cond.instanceMethod mX7_isMissing.1 ∈ gtbl := gt_mem 699 (by decide +kernel) rfl
theorem wc_X7_isMissing : Cond.selects mX7_isMissing.1.cls mX7_isMissing.1 mX7_isMissing.1 ∈ gtbl := gt_mem 700 (by decide +kernel) rfl
theorem wn_X9_copy : Cond.instanceMethod mX9_copy.1 ∈ gtbl := gt_mem 705 (by decide +kernel) rfl
theorem wc_X9_copy : Cond.selects mX9_copy.1.cls mX9_copy.1 mX9_copy.1 ∈ gtbl := gt_mem 706 (by decide +kernel) rfl
theorem wn_X7_hasRun : Cond.instanceMethod mX7_hasRun.1 ∈ gtbl := gt_mem 709 (by decide +kernel) rfl
theorem wc_X7_hasRun : Cond.selects mX7_hasRun.1.cls mX7_hasRun.1 mX7_hasRun.1 ∈ gtbl := gt_mem 710 (by decide +kernel) rfl
theorem wn_X9_lose : Cond.instanceMethod mX9_lose.1 ∈ gtbl := gt_mem 716 (by decide +kernel) rfl
theorem wc_X9_lose : Cond.selects mX9_lose.1.cls mX9_lose.1 mX9_lose.1 ∈ gtbl := gt_mem 717 (by decide +kernel) rfl
theorem wn_X9_count : Cond.instanceMethod mX9_count.1 ∈ gtbl := gt_mem 720 (by decide +kernel) rfl
theorem wc_X9_count : Cond.selects mX9_count.1.cls mX9_count.1 mX9_count.1 ∈ gtbl := gt_mem 721 (by decide +kernel) rfl
theorem wn_X2_notTakenBack : Cond.instanceMethod mX2_notTakenBack.1 ∈ gtbl := gt_mem 724 (by decide +kernel) rfl
theorem wc_X2_notTakenBack : Cond.selects mX2_notTakenBack.1.cls mX2_notTakenBack.1 mX2_notTakenBack.1 ∈ gtbl := gt_mem 725 (by decide +kernel) rfl
theorem wn_X9_forgivenWeeks : Cond.instanceMethod mX9_forgivenWeeks.1 ∈ gtbl := gt_mem 729 (by decide +kernel) rfl
theorem wn_X5_unlikeWeeks : Cond.instanceMethod mX5_unlikeWeeks.1 ∈ gtbl := gt_mem 732 (by decide +kernel) rfl
theorem wc_X5_unlikeWeeks : Cond.selects mX5_unlikeWeeks.1.cls mX5_unlikeWeeks.1 mX5_unlikeWeeks.1 ∈ gtbl := gt_mem 733 (by decide +kernel) rfl
theorem wn_X10_init : Cond.instanceMethod mX10_init.1 ∈ gtbl := gt_mem 739 (by decide +kernel) rfl
theorem wn_X10_change : Cond.instanceMethod mX10_change.1 ∈ gtbl := gt_mem 852 (by decide +kernel) rfl
theorem wc_X10_change : Cond.selects mX10_change.1.cls mX10_change.1 mX10_change.1 ∈ gtbl := gt_mem 853 (by decide +kernel) rfl
theorem wt_X10_isValue : Cond.static mX10_isValue.1 ∈ gtbl := gt_mem 856 (by decide +kernel) rfl
theorem wt_X10_isIn : Cond.static mX10_isIn.1 ∈ gtbl := gt_mem 859 (by decide +kernel) rfl
theorem wt_X10_isWeek : Cond.static mX10_isWeek.1 ∈ gtbl := gt_mem 863 (by decide +kernel) rfl
theorem wn_X10_isOf : Cond.instanceMethod mX10_isOf.1 ∈ gtbl := gt_mem 868 (by decide +kernel) rfl
theorem wc_X10_isOf : Cond.selects mX10_isOf.1.cls mX10_isOf.1 mX10_isOf.1 ∈ gtbl := gt_mem 869 (by decide +kernel) rfl
theorem wn_X10_isChange : Cond.instanceMethod mX10_isChange.1 ∈ gtbl := gt_mem 873 (by decide +kernel) rfl
theorem wn_X10_takeBack : Cond.instanceMethod mX10_takeBack.1 ∈ gtbl := gt_mem 876 (by decide +kernel) rfl
theorem wc_X10_takeBack : Cond.selects mX10_takeBack.1.cls mX10_takeBack.1 mX10_takeBack.1 ∈ gtbl := gt_mem 877 (by decide +kernel) rfl
theorem wn_X10_told : Cond.instanceMethod mX10_told.1 ∈ gtbl := gt_mem 881 (by decide +kernel) rfl
theorem wc_X10_told : Cond.selects mX10_told.1.cls mX10_told.1 mX10_told.1 ∈ gtbl := gt_mem 882 (by decide +kernel) rfl
theorem wn_X10_known : Cond.instanceMethod mX10_known.1 ∈ gtbl := gt_mem 886 (by decide +kernel) rfl
theorem wc_X10_known : Cond.selects mX10_known.1.cls mX10_known.1 mX10_known.1 ∈ gtbl := gt_mem 887 (by decide +kernel) rfl
theorem wn_X10_isPast : Cond.instanceMethod mX10_isPast.1 ∈ gtbl := gt_mem 891 (by decide +kernel) rfl
theorem wn_X10_income : Cond.instanceMethod mX10_income.1 ∈ gtbl := gt_mem 895 (by decide +kernel) rfl
theorem wn_X10_latest : Cond.instanceMethod mX10_latest.1 ∈ gtbl := gt_mem 899 (by decide +kernel) rfl
theorem wn_X10_holds : Cond.instanceMethod mX10_holds.1 ∈ gtbl := gt_mem 903 (by decide +kernel) rfl
theorem wn_X10_children : Cond.instanceMethod mX10_children.1 ∈ gtbl := gt_mem 907 (by decide +kernel) rfl
theorem wn_X10_others : Cond.instanceMethod mX10_others.1 ∈ gtbl := gt_mem 911 (by decide +kernel) rfl
theorem wn_X10_school : Cond.instanceMethod mX10_school.1 ∈ gtbl := gt_mem 914 (by decide +kernel) rfl
theorem wc_X10_school : Cond.selects mX10_school.1.cls mX10_school.1 mX10_school.1 ∈ gtbl := gt_mem 915 (by decide +kernel) rfl
theorem wn_X10_nights : Cond.instanceMethod mX10_nights.1 ∈ gtbl := gt_mem 918 (by decide +kernel) rfl
theorem wc_X10_nights : Cond.selects mX10_nights.1.cls mX10_nights.1 mX10_nights.1 ∈ gtbl := gt_mem 919 (by decide +kernel) rfl
theorem wn_X10_end : Cond.instanceMethod mX10_end.1 ∈ gtbl := gt_mem 923 (by decide +kernel) rfl
theorem wn_X10_diary : Cond.instanceMethod mX10_diary.1 ∈ gtbl := gt_mem 927 (by decide +kernel) rfl
theorem wn_X10_feed : Cond.instanceMethod mX10_feed.1 ∈ gtbl := gt_mem 930 (by decide +kernel) rfl
theorem wc_X10_feed : Cond.selects mX10_feed.1.cls mX10_feed.1 mX10_feed.1 ∈ gtbl := gt_mem 931 (by decide +kernel) rfl
theorem wn_X10_four : Cond.instanceMethod mX10_four.1 ∈ gtbl := gt_mem 935 (by decide +kernel) rfl
theorem wn_X10_trim : Cond.instanceMethod mX10_trim.1 ∈ gtbl := gt_mem 938 (by decide +kernel) rfl
theorem wc_X10_trim : Cond.selects mX10_trim.1.cls mX10_trim.1 mX10_trim.1 ∈ gtbl := gt_mem 939 (by decide +kernel) rfl
theorem wn_X10_law : Cond.instanceMethod mX10_law.1 ∈ gtbl := gt_mem 942 (by decide +kernel) rfl
theorem wc_X10_law : Cond.selects mX10_law.1.cls mX10_law.1 mX10_law.1 ∈ gtbl := gt_mem 943 (by decide +kernel) rfl
theorem wn_X10_keepAside : Cond.instanceMethod mX10_keepAside.1 ∈ gtbl := gt_mem 947 (by decide +kernel) rfl
theorem wn_X10_readLaw : Cond.instanceMethod mX10_readLaw.1 ∈ gtbl := gt_mem 951 (by decide +kernel) rfl
theorem wn_X10_next : Cond.instanceMethod mX10_next.1 ∈ gtbl := gt_mem 955 (by decide +kernel) rfl
theorem wn_X10_isTake : Cond.instanceMethod mX10_isTake.1 ∈ gtbl := gt_mem 959 (by decide +kernel) rfl
theorem wn_X10_isWord : Cond.instanceMethod mX10_isWord.1 ∈ gtbl := gt_mem 963 (by decide +kernel) rfl
theorem wn_X10_isNumber : Cond.instanceMethod mX10_isNumber.1 ∈ gtbl := gt_mem 967 (by decide +kernel) rfl
theorem wn_X10_number : Cond.instanceMethod mX10_number.1 ∈ gtbl := gt_mem 971 (by decide +kernel) rfl
theorem wn_X10_readOver : Cond.instanceMethod mX10_readOver.1 ∈ gtbl := gt_mem 976 (by decide +kernel) rfl
theorem wn_X10_here : Cond.instanceMethod mX10_here.1 ∈ gtbl := gt_mem 980 (by decide +kernel) rfl
theorem wn_X10_putBack : Cond.instanceMethod mX10_putBack.1 ∈ gtbl := gt_mem 984 (by decide +kernel) rfl
theorem wn_X10_inForce : Cond.instanceMethod mX10_inForce.1 ∈ gtbl := gt_mem 987 (by decide +kernel) rfl
theorem wc_X10_inForce : Cond.selects mX10_inForce.1.cls mX10_inForce.1 mX10_inForce.1 ∈ gtbl := gt_mem 988 (by decide +kernel) rfl
theorem wn_X10_lawOf : Cond.instanceMethod mX10_lawOf.1 ∈ gtbl := gt_mem 992 (by decide +kernel) rfl
theorem wn_X10_sum : Cond.instanceMethod mX10_sum.1 ∈ gtbl := gt_mem 995 (by decide +kernel) rfl
theorem wc_X10_sum : Cond.selects mX10_sum.1.cls mX10_sum.1 mX10_sum.1 ∈ gtbl := gt_mem 996 (by decide +kernel) rfl
theorem wn_X10_sumOf : Cond.instanceMethod mX10_sumOf.1 ∈ gtbl := gt_mem 1000 (by decide +kernel) rfl
theorem wn_X10_due : Cond.instanceMethod mX10_due.1 ∈ gtbl := gt_mem 1003 (by decide +kernel) rfl
theorem wc_X10_due : Cond.selects mX10_due.1.cls mX10_due.1 mX10_due.1 ∈ gtbl := gt_mem 1004 (by decide +kernel) rfl
theorem wt_X10_isSide : Cond.static mX10_isSide.1 ∈ gtbl := gt_mem 1007 (by decide +kernel) rfl
theorem wn_X10_dueOf : Cond.instanceMethod mX10_dueOf.1 ∈ gtbl := gt_mem 1011 (by decide +kernel) rfl
theorem wn_X10_edge : Cond.instanceMethod mX10_edge.1 ∈ gtbl := gt_mem 1014 (by decide +kernel) rfl
theorem wc_X10_edge : Cond.selects mX10_edge.1.cls mX10_edge.1 mX10_edge.1 ∈ gtbl := gt_mem 1015 (by decide +kernel) rfl
theorem wn_X10_line : Cond.instanceMethod mX10_line.1 ∈ gtbl := gt_mem 1018 (by decide +kernel) rfl
theorem wc_X10_line : Cond.selects mX10_line.1.cls mX10_line.1 mX10_line.1 ∈ gtbl := gt_mem 1019 (by decide +kernel) rfl
theorem wn_X10_marks : Cond.instanceMethod mX10_marks.1 ∈ gtbl := gt_mem 1022 (by decide +kernel) rfl
theorem wc_X10_marks : Cond.selects mX10_marks.1.cls mX10_marks.1 mX10_marks.1 ∈ gtbl := gt_mem 1023 (by decide +kernel) rfl
theorem wn_X10_paid : Cond.instanceMethod mX10_paid.1 ∈ gtbl := gt_mem 1026 (by decide +kernel) rfl
theorem wc_X10_paid : Cond.selects mX10_paid.1.cls mX10_paid.1 mX10_paid.1 ∈ gtbl := gt_mem 1027 (by decide +kernel) rfl
theorem wn_X10_isPay : Cond.instanceMethod mX10_isPay.1 ∈ gtbl := gt_mem 1031 (by decide +kernel) rfl
theorem wn_X10_owed : Cond.instanceMethod mX10_owed.1 ∈ gtbl := gt_mem 1034 (by decide +kernel) rfl
theorem wc_X10_owed : Cond.selects mX10_owed.1.cls mX10_owed.1 mX10_owed.1 ∈ gtbl := gt_mem 1035 (by decide +kernel) rfl
theorem wn_X10_isAsked : Cond.instanceMethod mX10_isAsked.1 ∈ gtbl := gt_mem 1039 (by decide +kernel) rfl
theorem wn_X10_findDues : Cond.instanceMethod mX10_findDues.1 ∈ gtbl := gt_mem 1043 (by decide +kernel) rfl
theorem wn_X10_paysUpTo : Cond.instanceMethod mX10_paysUpTo.1 ∈ gtbl := gt_mem 1047 (by decide +kernel) rfl
theorem wn_X10_over : Cond.instanceMethod mX10_over.1 ∈ gtbl := gt_mem 1050 (by decide +kernel) rfl
theorem wc_X10_over : Cond.selects mX10_over.1.cls mX10_over.1 mX10_over.1 ∈ gtbl := gt_mem 1051 (by decide +kernel) rfl
theorem wn_X10_left : Cond.instanceMethod mX10_left.1 ∈ gtbl := gt_mem 1054 (by decide +kernel) rfl
theorem wc_X10_left : Cond.selects mX10_left.1.cls mX10_left.1 mX10_left.1 ∈ gtbl := gt_mem 1055 (by decide +kernel) rfl
theorem wn_X10_leftBy : Cond.instanceMethod mX10_leftBy.1 ∈ gtbl := gt_mem 1059 (by decide +kernel) rfl
theorem wn_X10_oldest : Cond.instanceMethod mX10_oldest.1 ∈ gtbl := gt_mem 1062 (by decide +kernel) rfl
theorem wc_X10_oldest : Cond.selects mX10_oldest.1.cls mX10_oldest.1 mX10_oldest.1 ∈ gtbl := gt_mem 1063 (by decide +kernel) rfl
theorem wn_X10_payer : Cond.instanceMethod mX10_payer.1 ∈ gtbl := gt_mem 1066 (by decide +kernel) rfl
theorem wc_X10_payer : Cond.selects mX10_payer.1.cls mX10_payer.1 mX10_payer.1 ∈ gtbl := gt_mem 1067 (by decide +kernel) rfl
theorem wn_X10_interest : Cond.instanceMethod mX10_interest.1 ∈ gtbl := gt_mem 1070 (by decide +kernel) rfl
theorem wc_X10_interest : Cond.selects mX10_interest.1.cls mX10_interest.1 mX10_interest.1 ∈ gtbl := gt_mem 1071 (by decide +kernel) rfl
theorem wn_X10_forgive : Cond.instanceMethod mX10_forgive.1 ∈ gtbl := gt_mem 1074 (by decide +kernel) rfl
theorem wc_X10_forgive : Cond.selects mX10_forgive.1.cls mX10_forgive.1 mX10_forgive.1 ∈ gtbl := gt_mem 1075 (by decide +kernel) rfl
theorem wn_X10_rate : Cond.instanceMethod mX10_rate.1 ∈ gtbl := gt_mem 1078 (by decide +kernel) rfl
theorem wc_X10_rate : Cond.selects mX10_rate.1.cls mX10_rate.1 mX10_rate.1 ∈ gtbl := gt_mem 1079 (by decide +kernel) rfl
theorem wn_X10_weeks : Cond.instanceMethod mX10_weeks.1 ∈ gtbl := gt_mem 1082 (by decide +kernel) rfl
theorem wc_X10_weeks : Cond.selects mX10_weeks.1.cls mX10_weeks.1 mX10_weeks.1 ∈ gtbl := gt_mem 1083 (by decide +kernel) rfl
theorem wn_X10_sheet : Cond.instanceMethod mX10_sheet.1 ∈ gtbl := gt_mem 1086 (by decide +kernel) rfl
theorem wc_X10_sheet : Cond.selects mX10_sheet.1.cls mX10_sheet.1 mX10_sheet.1 ∈ gtbl := gt_mem 1087 (by decide +kernel) rfl
theorem wt_X10_isSheet : Cond.static mX10_isSheet.1 ∈ gtbl := gt_mem 1090 (by decide +kernel) rfl
theorem wn_X10_mark : Cond.instanceMethod mX10_mark.1 ∈ gtbl := gt_mem 1094 (by decide +kernel) rfl
theorem wc_X10_mark : Cond.selects mX10_mark.1.cls mX10_mark.1 mX10_mark.1 ∈ gtbl := gt_mem 1095 (by decide +kernel) rfl
theorem wn_X10_copy : Cond.instanceMethod mX10_copy.1 ∈ gtbl := gt_mem 1100 (by decide +kernel) rfl
theorem wc_X10_copy : Cond.selects mX10_copy.1.cls mX10_copy.1 mX10_copy.1 ∈ gtbl := gt_mem 1101 (by decide +kernel) rfl
theorem wn_X10_lose : Cond.instanceMethod mX10_lose.1 ∈ gtbl := gt_mem 1104 (by decide +kernel) rfl
theorem wc_X10_lose : Cond.selects mX10_lose.1.cls mX10_lose.1 mX10_lose.1 ∈ gtbl := gt_mem 1105 (by decide +kernel) rfl
theorem wn_X10_count : Cond.instanceMethod mX10_count.1 ∈ gtbl := gt_mem 1108 (by decide +kernel) rfl
theorem wc_X10_count : Cond.selects mX10_count.1.cls mX10_count.1 mX10_count.1 ∈ gtbl := gt_mem 1109 (by decide +kernel) rfl
theorem wc_X9_isPast : Cond.selects mX9_isPast.1.cls mX9_isPast.1 mX9_isPast.1 ∈ gtbl := gt_mem 0 (by decide +kernel) rfl
theorem wc_X2_latest : Cond.selects mX2_latest.1.cls mX2_latest.1 mX2_latest.1 ∈ gtbl := gt_mem 1 (by decide +kernel) rfl
theorem wc_X2_counts : Cond.selects mX2_counts.1.cls mX2_counts.1 mX2_counts.1 ∈ gtbl := gt_mem 2 (by decide +kernel) rfl
theorem wc_X5_atEnd : Cond.selects mX5_atEnd.1.cls mX5_atEnd.1 mX5_atEnd.1 ∈ gtbl := gt_mem 3 (by decide +kernel) rfl
theorem wc_X9_addLaw : Cond.selects mX9_addLaw.1.cls mX9_addLaw.1 mX9_addLaw.1 ∈ gtbl := gt_mem 4 (by decide +kernel) rfl
theorem wc_X6_step : Cond.selects mX6_step.1.cls mX6_step.1 mX6_step.1 ∈ gtbl := gt_mem 5 (by decide +kernel) rfl
theorem wc_X6_need : Cond.selects mX6_need.1.cls mX6_need.1 mX6_need.1 ∈ gtbl := gt_mem 6 (by decide +kernel) rfl
theorem wc_X6_skip : Cond.selects mX6_skip.1.cls mX6_skip.1 mX6_skip.1 ∈ gtbl := gt_mem 7 (by decide +kernel) rfl
theorem wc_X6_isAt : Cond.selects mX6_isAt.1.cls mX6_isAt.1 mX6_isAt.1 ∈ gtbl := gt_mem 8 (by decide +kernel) rfl
theorem wc_X6_number : Cond.selects mX6_number.1.cls mX6_number.1 mX6_number.1 ∈ gtbl := gt_mem 9 (by decide +kernel) rfl
theorem wc_X6_digits : Cond.selects mX6_digits.1.cls mX6_digits.1 mX6_digits.1 ∈ gtbl := gt_mem 10 (by decide +kernel) rfl
theorem wc_X6_option : Cond.selects mX6_option.1.cls mX6_option.1 mX6_option.1 ∈ gtbl := gt_mem 11 (by decide +kernel) rfl
theorem wc_X9_sumOf : Cond.selects mX9_sumOf.1.cls mX9_sumOf.1 mX9_sumOf.1 ∈ gtbl := gt_mem 12 (by decide +kernel) rfl
theorem wc_X9_dueOf : Cond.selects mX9_dueOf.1.cls mX9_dueOf.1 mX9_dueOf.1 ∈ gtbl := gt_mem 13 (by decide +kernel) rfl
theorem wc_X1_isPay : Cond.selects mX1_isPay.1.cls mX1_isPay.1 mX1_isPay.1 ∈ gtbl := gt_mem 14 (by decide +kernel) rfl
theorem wc_X9_settle : Cond.selects mX9_settle.1.cls mX9_settle.1 mX9_settle.1 ∈ gtbl := gt_mem 15 (by decide +kernel) rfl
theorem wc_X9_forgivenWeeks : Cond.selects mX9_forgivenWeeks.1.cls mX9_forgivenWeeks.1 mX9_forgivenWeeks.1 ∈ gtbl := gt_mem 16 (by decide +kernel) rfl
theorem wc_X10_isChange : Cond.selects mX10_isChange.1.cls mX10_isChange.1 mX10_isChange.1 ∈ gtbl := gt_mem 17 (by decide +kernel) rfl
theorem wc_X10_isPast : Cond.selects mX10_isPast.1.cls mX10_isPast.1 mX10_isPast.1 ∈ gtbl := gt_mem 18 (by decide +kernel) rfl
theorem wc_X10_income : Cond.selects mX10_income.1.cls mX10_income.1 mX10_income.1 ∈ gtbl := gt_mem 19 (by decide +kernel) rfl
theorem wc_X10_latest : Cond.selects mX10_latest.1.cls mX10_latest.1 mX10_latest.1 ∈ gtbl := gt_mem 20 (by decide +kernel) rfl
theorem wc_X10_holds : Cond.selects mX10_holds.1.cls mX10_holds.1 mX10_holds.1 ∈ gtbl := gt_mem 21 (by decide +kernel) rfl
theorem wc_X10_children : Cond.selects mX10_children.1.cls mX10_children.1 mX10_children.1 ∈ gtbl := gt_mem 22 (by decide +kernel) rfl
theorem wc_X10_others : Cond.selects mX10_others.1.cls mX10_others.1 mX10_others.1 ∈ gtbl := gt_mem 23 (by decide +kernel) rfl
theorem wc_X10_end : Cond.selects mX10_end.1.cls mX10_end.1 mX10_end.1 ∈ gtbl := gt_mem 24 (by decide +kernel) rfl
theorem wc_X10_diary : Cond.selects mX10_diary.1.cls mX10_diary.1 mX10_diary.1 ∈ gtbl := gt_mem 25 (by decide +kernel) rfl
theorem wc_X10_four : Cond.selects mX10_four.1.cls mX10_four.1 mX10_four.1 ∈ gtbl := gt_mem 26 (by decide +kernel) rfl
theorem wc_X10_keepAside : Cond.selects mX10_keepAside.1.cls mX10_keepAside.1 mX10_keepAside.1 ∈ gtbl := gt_mem 27 (by decide +kernel) rfl
theorem wc_X10_readLaw : Cond.selects mX10_readLaw.1.cls mX10_readLaw.1 mX10_readLaw.1 ∈ gtbl := gt_mem 28 (by decide +kernel) rfl
theorem wc_X10_next : Cond.selects mX10_next.1.cls mX10_next.1 mX10_next.1 ∈ gtbl := gt_mem 29 (by decide +kernel) rfl
theorem wc_X10_isTake : Cond.selects mX10_isTake.1.cls mX10_isTake.1 mX10_isTake.1 ∈ gtbl := gt_mem 30 (by decide +kernel) rfl
theorem wc_X10_isWord : Cond.selects mX10_isWord.1.cls mX10_isWord.1 mX10_isWord.1 ∈ gtbl := gt_mem 31 (by decide +kernel) rfl
theorem wc_X10_isNumber : Cond.selects mX10_isNumber.1.cls mX10_isNumber.1 mX10_isNumber.1 ∈ gtbl := gt_mem 32 (by decide +kernel) rfl
theorem wc_X10_number : Cond.selects mX10_number.1.cls mX10_number.1 mX10_number.1 ∈ gtbl := gt_mem 33 (by decide +kernel) rfl
theorem wc_X10_readOver : Cond.selects mX10_readOver.1.cls mX10_readOver.1 mX10_readOver.1 ∈ gtbl := gt_mem 34 (by decide +kernel) rfl
theorem wc_X10_here : Cond.selects mX10_here.1.cls mX10_here.1 mX10_here.1 ∈ gtbl := gt_mem 35 (by decide +kernel) rfl
theorem wc_X10_putBack : Cond.selects mX10_putBack.1.cls mX10_putBack.1 mX10_putBack.1 ∈ gtbl := gt_mem 36 (by decide +kernel) rfl
theorem wc_X10_lawOf : Cond.selects mX10_lawOf.1.cls mX10_lawOf.1 mX10_lawOf.1 ∈ gtbl := gt_mem 37 (by decide +kernel) rfl
theorem wc_X10_sumOf : Cond.selects mX10_sumOf.1.cls mX10_sumOf.1 mX10_sumOf.1 ∈ gtbl := gt_mem 38 (by decide +kernel) rfl
theorem wc_X10_dueOf : Cond.selects mX10_dueOf.1.cls mX10_dueOf.1 mX10_dueOf.1 ∈ gtbl := gt_mem 39 (by decide +kernel) rfl
theorem wc_X10_isPay : Cond.selects mX10_isPay.1.cls mX10_isPay.1 mX10_isPay.1 ∈ gtbl := gt_mem 40 (by decide +kernel) rfl
theorem wc_X10_isAsked : Cond.selects mX10_isAsked.1.cls mX10_isAsked.1 mX10_isAsked.1 ∈ gtbl := gt_mem 41 (by decide +kernel) rfl
theorem wc_X10_findDues : Cond.selects mX10_findDues.1.cls mX10_findDues.1 mX10_findDues.1 ∈ gtbl := gt_mem 42 (by decide +kernel) rfl
theorem wc_X10_paysUpTo : Cond.selects mX10_paysUpTo.1.cls mX10_paysUpTo.1 mX10_paysUpTo.1 ∈ gtbl := gt_mem 43 (by decide +kernel) rfl
theorem wc_X10_leftBy : Cond.selects mX10_leftBy.1.cls mX10_leftBy.1 mX10_leftBy.1 ∈ gtbl := gt_mem 44 (by decide +kernel) rfl
theorem kc_X5_22 : Cond.constant RX5 22 (-2000000005) ∈ gtbl := gt_mem 217 (by decide +kernel) rfl
theorem lk_X5_23 : lkS RX5 23 mJ7_fill_53178 := ⟨gt_mem 218 (by decide +kernel) rfl, wt_J7_fill_53178⟩
theorem lk_L_13 : lkV RL 13 mX9_change := ⟨gt_mem 309 (by decide +kernel) rfl, wn_X9_change, wc_X9_change⟩
theorem lk_X9_64 : lkS RX9 64 mX2_mayHold := ⟨gt_mem 313 (by decide +kernel) rfl, wt_X2_mayHold⟩
theorem kc_X2_27 : Cond.constant RX2 27 (100000) ∈ gtbl := gt_mem 316 (by decide +kernel) rfl
theorem lk_X9_68 : lkS RX9 68 mX9_isWeek := ⟨gt_mem 317 (by decide +kernel) rfl, wt_X9_isWeek⟩
theorem lk_X9_88 : lkS RX9 88 mX9_isBelow := ⟨gt_mem 320 (by decide +kernel) rfl, wt_X9_isBelow⟩
theorem kc_X9_72 : Cond.constant RX9 72 (-2000000001) ∈ gtbl := gt_mem 323 (by decide +kernel) rfl
theorem kc_X9_77 : Cond.constant RX9 77 (-2000000003) ∈ gtbl := gt_mem 324 (by decide +kernel) rfl
theorem lk_X9_81 : lkV RX9 81 mX2_add := ⟨gt_mem 325 (by decide +kernel) rfl, wn_X2_add, wc_X2_add⟩
theorem kc_X2_32 : Cond.constant RX2 32 (-2000000005) ∈ gtbl := gt_mem 329 (by decide +kernel) rfl
theorem lk_L_18 : lkV RL 18 mX9_isOf := ⟨gt_mem 330 (by decide +kernel) rfl, wn_X9_isOf, wc_X9_isOf⟩
theorem lk_X9_85 : lkV RX9 85 mX2_has := ⟨gt_mem 334 (by decide +kernel) rfl, wn_X2_has, wc_X2_has⟩
theorem lk_X2_33 : lkN RX2 33 mX9_isBelow := ⟨by decide +kernel, wt_X9_isBelow⟩
theorem lk_X9_91 : lkV RX9 91 mX2_isOfKind := ⟨gt_mem 339 (by decide +kernel) rfl, wn_X2_isOfKind, wc_X2_isOfKind⟩
theorem lk_L_23 : lkV RL 23 mX9_takeBack := ⟨gt_mem 343 (by decide +kernel) rfl, wn_X9_takeBack, wc_X9_takeBack⟩
theorem kc_X9_98 : Cond.constant RX9 98 (-2000000005) ∈ gtbl := gt_mem 347 (by decide +kernel) rfl
theorem kc_X9_99 : Cond.constant RX9 99 (-2000000002) ∈ gtbl := gt_mem 348 (by decide +kernel) rfl
theorem lk_L_28 : lkV RL 28 mX9_told := ⟨gt_mem 349 (by decide +kernel) rfl, wn_X9_told, wc_X9_told⟩
theorem lk_L_32 : lkV RL 32 mX9_known := ⟨gt_mem 353 (by decide +kernel) rfl, wn_X9_known, wc_X9_known⟩
theorem lk_X9_112 : lkV RX9 112 mX9_isPast := ⟨gt_mem 357 (by decide +kernel) rfl, wn_X9_isPast, wc_X9_isPast⟩
theorem lk_X9_115 : lkV RX9 115 mX2_incomeAt := ⟨gt_mem 361 (by decide +kernel) rfl, wn_X2_incomeAt, wc_X2_incomeAt⟩
theorem lk_X2_37 : lkV RX2 37 mX2_latest := ⟨gt_mem 365 (by decide +kernel) rfl, wn_X2_latest, wc_X2_latest⟩
theorem lk_X2_41 : lkV RX2 41 mX2_counts := ⟨gt_mem 369 (by decide +kernel) rfl, wn_X2_counts, wc_X2_counts⟩
theorem lk_X9_119 : lkV RX9 119 mX2_childrenAt := ⟨gt_mem 373 (by decide +kernel) rfl, wn_X2_childrenAt, wc_X2_childrenAt⟩
theorem lk_X2_45 : Cond.methodLink RX2 45 Lib.Math.min.name ∈ gtbl := gt_mem 377 (by decide +kernel) rfl
theorem lk_X2_51 : Cond.methodLink RX2 51 Lib.Math.max.name ∈ gtbl := gt_mem 380 (by decide +kernel) rfl
theorem lk_X9_122 : lkV RX9 122 mX2_othersAt := ⟨gt_mem 383 (by decide +kernel) rfl, wn_X2_othersAt, wc_X2_othersAt⟩
theorem lk_L_36 : lkV RL 36 mX9_school := ⟨gt_mem 387 (by decide +kernel) rfl, wn_X9_school, wc_X9_school⟩
theorem lk_X9_125 : lkS RX9 125 mX9_areNights := ⟨gt_mem 391 (by decide +kernel) rfl, wt_X9_areNights⟩
theorem lk_L_40 : lkV RL 40 mX9_nights := ⟨gt_mem 394 (by decide +kernel) rfl, wn_X9_nights, wc_X9_nights⟩
theorem lk_X9_131 : lkV RX9 131 mX5_lesser := ⟨gt_mem 398 (by decide +kernel) rfl, wn_X5_lesser, wc_X5_lesser⟩
theorem lk_X5_29 : lkV RX5 29 mX5_atEnd := ⟨gt_mem 402 (by decide +kernel) rfl, wn_X5_atEnd, wc_X5_atEnd⟩
theorem lk_X5_44 : lkV RX5 44 mX7_toldFor := ⟨gt_mem 406 (by decide +kernel) rfl, wn_X7_toldFor, wc_X7_toldFor⟩
theorem lk_X7_25 : lkN RX7 25 mX9_isBelow := ⟨by decide +kernel, wt_X9_isBelow⟩
theorem lk_X7_29 : lkN RX7 29 mX9_areNights := ⟨by decide +kernel, wt_X9_areNights⟩
theorem kc_X7_33 : Cond.constant RX7 33 (-2000000005) ∈ gtbl := gt_mem 412 (by decide +kernel) rfl
theorem lk_X5_47 : Cond.methodLink RX5 47 Lib.Math.max.name ∈ gtbl := gt_mem 413 (by decide +kernel) rfl
theorem lk_X5_53 : Cond.methodLink RX5 53 Lib.Math.min.name ∈ gtbl := gt_mem 414 (by decide +kernel) rfl
theorem lk_X9_135 : lkV RX9 135 mX5_greater := ⟨gt_mem 415 (by decide +kernel) rfl, wn_X5_greater, wc_X5_greater⟩
theorem lk_X9_138 : lkV RX9 138 mX5_areUnlike := ⟨gt_mem 419 (by decide +kernel) rfl, wn_X5_areUnlike, wc_X5_areUnlike⟩
theorem lk_X5_33 : lkV RX5 33 mX5_lesser := ⟨gt_mem 423 (by decide +kernel) rfl, wn_X5_lesser, wc_X5_lesser⟩
theorem lk_X5_37 : lkV RX5 37 mX5_greater := ⟨gt_mem 424 (by decide +kernel) rfl, wn_X5_greater, wc_X5_greater⟩
theorem lk_L_44 : lkV RL 44 mX9_feed := ⟨gt_mem 425 (by decide +kernel) rfl, wn_X9_feed, wc_X9_feed⟩
theorem lk_X9_142 : lkV RX9 142 mX8_put := ⟨gt_mem 429 (by decide +kernel) rfl, wn_X8_put, wc_X8_put⟩
theorem lk_L_48 : lkV RL 48 mX9_trim := ⟨gt_mem 433 (by decide +kernel) rfl, wn_X9_trim, wc_X9_trim⟩
theorem lk_L_52 : lkV RL 52 mX9_law := ⟨gt_mem 437 (by decide +kernel) rfl, wn_X9_law, wc_X9_law⟩
theorem lk_X9_146 : lkV RX9 146 mX9_addLaw := ⟨gt_mem 441 (by decide +kernel) rfl, wn_X9_addLaw, wc_X9_addLaw⟩
theorem lk_X9_154 : lkV RX9 154 mX6_readInto := ⟨gt_mem 445 (by decide +kernel) rfl, wn_X6_readInto, wc_X6_readInto⟩
theorem kc_X6_15 : Cond.constant RX6 15 (-2000000005) ∈ gtbl := gt_mem 449 (by decide +kernel) rfl
theorem lk_X6_23 : lkV RX6 23 mX6_step := ⟨gt_mem 450 (by decide +kernel) rfl, wn_X6_step, wc_X6_step⟩
theorem lk_X6_28 : lkV RX6 28 mX6_need := ⟨gt_mem 455 (by decide +kernel) rfl, wn_X6_need, wc_X6_need⟩
theorem lk_X6_50 : lkV RX6 50 mX6_skip := ⟨gt_mem 459 (by decide +kernel) rfl, wn_X6_skip, wc_X6_skip⟩
theorem lk_X6_94 : lkV RX6 94 mX6_isAt := ⟨gt_mem 463 (by decide +kernel) rfl, wn_X6_isAt, wc_X6_isAt⟩
theorem lk_X6_101 : lkV RX6 101 mJ0_length_8abf5 := ⟨gt_mem 467 (by decide +kernel) rfl, wn_J0_length_8abf5, wc_J0_length_8abf5⟩
theorem lk_J0_335 : lkV RJ0 335 mJ0_coder_7d493 := ⟨gt_mem 471 (by decide +kernel) rfl, wn_J0_coder_7d493, wc_J0_coder_7d493⟩
theorem lk_X6_106 : lkV RX6 106 mJ0_charAt_5068e := ⟨gt_mem 477 (by decide +kernel) rfl, wn_J0_charAt_5068e, wc_J0_charAt_5068e⟩
theorem lk_J0_492 : lkV RJ0 492 mJ0_isLatin1_aae02 := ⟨gt_mem 481 (by decide +kernel) rfl, wn_J0_isLatin1_aae02, wc_J0_isLatin1_aae02⟩
theorem lk_J0_495 : lkS RJ0 495 mJ1_charAt_3b067 := ⟨gt_mem 485 (by decide +kernel) rfl, wt_J1_charAt_3b067⟩
theorem lk_J1_9 : lkS RJ1 9 mJ0_checkIndex_df160 := ⟨gt_mem 488 (by decide +kernel) rfl, wt_J0_checkIndex_df160⟩
theorem lk_J0_1059 : lkS RJ0 1059 mJ3_checkIndex_8e157 := ⟨gt_mem 493 (by decide +kernel) rfl, wt_J3_checkIndex_8e157⟩
theorem lk_J0_498 : lkS RJ0 498 mJ2_charAt_3b067 := ⟨gt_mem 496 (by decide +kernel) rfl, wt_J2_charAt_3b067⟩
theorem lk_J2_67 : lkS RJ2 67 mJ2_checkIndex_2214a := ⟨gt_mem 499 (by decide +kernel) rfl, wt_J2_checkIndex_2214a⟩
theorem lk_J2_48 : lkS RJ2 48 mJ2_length_9d52b := ⟨gt_mem 502 (by decide +kernel) rfl, wt_J2_length_9d52b⟩
theorem lk_J2_414 : lkS RJ2 414 mJ0_checkIndex_df160 := ⟨gt_mem 505 (by decide +kernel) rfl, wt_J0_checkIndex_df160⟩
theorem lk_J2_71 : lkS RJ2 71 mJ2_getChar_3b067 := ⟨gt_mem 506 (by decide +kernel) rfl, wt_J2_getChar_3b067⟩
theorem lk_X6_32 : lkV RX6 32 mX6_number := ⟨gt_mem 515 (by decide +kernel) rfl, wn_X6_number, wc_X6_number⟩
theorem lk_X6_97 : lkV RX6 97 mX6_digits := ⟨gt_mem 519 (by decide +kernel) rfl, wn_X6_digits, wc_X6_digits⟩
theorem lk_X6_110 : lkN RX6 110 mX9_isBelow := ⟨by decide +kernel, wt_X9_isBelow⟩
theorem kc_X6_114 : Cond.constant RX6 114 (10000000) ∈ gtbl := gt_mem 524 (by decide +kernel) rfl
theorem lk_X6_115 : Cond.methodLink RX6 115 Lib.Math.min.name ∈ gtbl := gt_mem 525 (by decide +kernel) rfl
theorem kc_X6_41 : Cond.constant RX6 41 (1000000000) ∈ gtbl := gt_mem 526 (by decide +kernel) rfl
theorem kc_X6_54 : Cond.constant RX6 54 (100000) ∈ gtbl := gt_mem 528 (by decide +kernel) rfl
theorem lk_X6_57 : lkV RX6 57 mX6_option := ⟨gt_mem 530 (by decide +kernel) rfl, wn_X6_option, wc_X6_option⟩
theorem lk_X6_75 : Cond.methodLink RX6 75 Lib.Math.max.name ∈ gtbl := gt_mem 537 (by decide +kernel) rfl
theorem lk_L_56 : lkV RL 56 mX9_inForce := ⟨gt_mem 538 (by decide +kernel) rfl, wn_X9_inForce, wc_X9_inForce⟩
theorem lk_X9_163 : lkV RX9 163 mX4_numberAt := ⟨gt_mem 542 (by decide +kernel) rfl, wn_X4_numberAt, wc_X4_numberAt⟩
theorem kc_X4_18 : Cond.constant RX4 18 (-2000000005) ∈ gtbl := gt_mem 546 (by decide +kernel) rfl
theorem lk_L_60 : lkV RL 60 mX9_sum := ⟨gt_mem 547 (by decide +kernel) rfl, wn_X9_sum, wc_X9_sum⟩
theorem lk_X9_166 : lkV RX9 166 mX9_sumOf := ⟨gt_mem 551 (by decide +kernel) rfl, wn_X9_sumOf, wc_X9_sumOf⟩
theorem lk_X9_173 : lkV RX9 173 mX3_incomeLess := ⟨gt_mem 555 (by decide +kernel) rfl, wn_X3_incomeLess, wc_X3_incomeLess⟩
theorem lk_X3_13 : Cond.methodLink RX3 13 Lib.Math.max.name ∈ gtbl := gt_mem 559 (by decide +kernel) rfl
theorem lk_X9_176 : lkV RX9 176 mX3_forChildren := ⟨gt_mem 560 (by decide +kernel) rfl, wn_X3_forChildren, wc_X3_forChildren⟩
theorem lk_X3_25 : lkN RX3 25 mX9_isBelow := ⟨by decide +kernel, wt_X9_isBelow⟩
theorem lk_X3_32 : Cond.methodLink RX3 32 Lib.Math.min.name ∈ gtbl := gt_mem 567 (by decide +kernel) rfl
theorem lk_X9_179 : lkV RX9 179 mX3_withNights := ⟨gt_mem 568 (by decide +kernel) rfl, wn_X3_withNights, wc_X3_withNights⟩
theorem lk_L_64 : lkV RL 64 mX9_due := ⟨gt_mem 572 (by decide +kernel) rfl, wn_X9_due, wc_X9_due⟩
theorem lk_X9_170 : lkV RX9 170 mX9_dueOf := ⟨gt_mem 576 (by decide +kernel) rfl, wn_X9_dueOf, wc_X9_dueOf⟩
theorem lk_X9_182 : Cond.methodLink RX9 182 Lib.Math.max.name ∈ gtbl := gt_mem 580 (by decide +kernel) rfl
theorem lk_X9_187 : Cond.methodLink RX9 187 Lib.Math.min.name ∈ gtbl := gt_mem 581 (by decide +kernel) rfl
theorem lk_L_68 : lkV RL 68 mX9_edge := ⟨gt_mem 582 (by decide +kernel) rfl, wn_X9_edge, wc_X9_edge⟩
theorem lk_L_72 : lkV RL 72 mX9_line := ⟨gt_mem 586 (by decide +kernel) rfl, wn_X9_line, wc_X9_line⟩
theorem kc_X9_190 : Cond.constant RX9 190 (1000000) ∈ gtbl := gt_mem 590 (by decide +kernel) rfl
theorem lk_X9_192 : lkV RX9 192 mX1_add := ⟨gt_mem 591 (by decide +kernel) rfl, wn_X1_add, wc_X1_add⟩
theorem lk_L_76 : lkV RL 76 mX9_marks := ⟨gt_mem 595 (by decide +kernel) rfl, wn_X9_marks, wc_X9_marks⟩
theorem lk_L_80 : lkV RL 80 mX9_paid := ⟨gt_mem 599 (by decide +kernel) rfl, wn_X9_paid, wc_X9_paid⟩
theorem lk_X9_197 : lkV RX9 197 mX1_coinsIn := ⟨gt_mem 603 (by decide +kernel) rfl, wn_X1_coinsIn, wc_X1_coinsIn⟩
theorem lk_X1_28 : lkV RX1 28 mX1_isPay := ⟨gt_mem 607 (by decide +kernel) rfl, wn_X1_isPay, wc_X1_isPay⟩
theorem lk_L_84 : lkV RL 84 mX9_owed := ⟨gt_mem 611 (by decide +kernel) rfl, wn_X9_owed, wc_X9_owed⟩
theorem lk_X9_201 : lkV RX9 201 mX9_settle := ⟨gt_mem 615 (by decide +kernel) rfl, wn_X9_settle, wc_X9_settle⟩
theorem lk_X9_227 : lkV RX9 227 mX1_paysUpTo := ⟨gt_mem 619 (by decide +kernel) rfl, wn_X1_paysUpTo, wc_X1_paysUpTo⟩
theorem lk_X9_230 : lkV RX9 230 mX0_payOldestFirst := ⟨gt_mem 623 (by decide +kernel) rfl, wn_X0_payOldestFirst, wc_X0_payOldestFirst⟩
theorem lk_X0_25 : Cond.methodLink RX0 25 Lib.Math.min.name ∈ gtbl := gt_mem 627 (by decide +kernel) rfl
theorem lk_X9_205 : lkV RX9 205 mX0_leftInAll := ⟨gt_mem 628 (by decide +kernel) rfl, wn_X0_leftInAll, wc_X0_leftInAll⟩
theorem lk_L_88 : lkV RL 88 mX9_over := ⟨gt_mem 632 (by decide +kernel) rfl, wn_X9_over, wc_X9_over⟩
theorem lk_L_92 : lkV RL 92 mX9_left := ⟨gt_mem 636 (by decide +kernel) rfl, wn_X9_left, wc_X9_left⟩
theorem lk_L_96 : lkV RL 96 mX9_oldest := ⟨gt_mem 640 (by decide +kernel) rfl, wn_X9_oldest, wc_X9_oldest⟩
theorem lk_X9_215 : lkV RX9 215 mX0_firstLeft := ⟨gt_mem 644 (by decide +kernel) rfl, wn_X0_firstLeft, wc_X0_firstLeft⟩
theorem kc_X0_31 : Cond.constant RX0 31 (-2000000005) ∈ gtbl := gt_mem 648 (by decide +kernel) rfl
theorem lk_L_100 : lkV RL 100 mX9_payer := ⟨gt_mem 649 (by decide +kernel) rfl, wn_X9_payer, wc_X9_payer⟩
theorem lk_X9_221 : lkV RX9 221 mX0_dueUpTo := ⟨gt_mem 653 (by decide +kernel) rfl, wn_X0_dueUpTo, wc_X0_dueUpTo⟩
theorem lk_X9_224 : lkV RX9 224 mX1_lineWithCoin := ⟨gt_mem 657 (by decide +kernel) rfl, wn_X1_lineWithCoin, wc_X1_lineWithCoin⟩
theorem kc_X1_32 : Cond.constant RX1 32 (-2000000005) ∈ gtbl := gt_mem 661 (by decide +kernel) rfl
theorem lk_L_104 : lkV RL 104 mX9_interest := ⟨gt_mem 662 (by decide +kernel) rfl, wn_X9_interest, wc_X9_interest⟩
theorem lk_X9_236 : lkV RX9 236 mX0_interestUpTo := ⟨gt_mem 666 (by decide +kernel) rfl, wn_X0_interestUpTo, wc_X0_interestUpTo⟩
theorem lk_L_108 : lkV RL 108 mX9_forgive := ⟨gt_mem 670 (by decide +kernel) rfl, wn_X9_forgive, wc_X9_forgive⟩
theorem lk_L_112 : lkV RL 112 mX9_rate := ⟨gt_mem 674 (by decide +kernel) rfl, wn_X9_rate, wc_X9_rate⟩
theorem lk_L_116 : lkV RL 116 mX9_weeks := ⟨gt_mem 678 (by decide +kernel) rfl, wn_X9_weeks, wc_X9_weeks⟩
theorem lk_L_120 : lkV RL 120 mX9_sheet := ⟨gt_mem 682 (by decide +kernel) rfl, wn_X9_sheet, wc_X9_sheet⟩
theorem kc_X9_242 : Cond.constant RX9 242 (-2000000014) ∈ gtbl := gt_mem 686 (by decide +kernel) rfl
theorem lk_X9_247 : lkV RX9 247 mX7_makeAnew := ⟨gt_mem 687 (by decide +kernel) rfl, wn_X7_makeAnew, wc_X7_makeAnew⟩
theorem lk_X7_19 : lkS RX7 19 mJ7_fill_031fb := ⟨gt_mem 691 (by decide +kernel) rfl, wt_J7_fill_031fb⟩
theorem lk_L_124 : lkV RL 124 mX9_mark := ⟨gt_mem 694 (by decide +kernel) rfl, wn_X9_mark, wc_X9_mark⟩
theorem lk_X9_252 : lkV RX9 252 mX7_isMissing := ⟨gt_mem 698 (by decide +kernel) rfl, wn_X7_isMissing, wc_X7_isMissing⟩
theorem kc_X9_256 : Cond.constant RX9 256 (-2000000011) ∈ gtbl := gt_mem 702 (by decide +kernel) rfl
theorem kc_X9_258 : Cond.constant RX9 258 (-2000000013) ∈ gtbl := gt_mem 703 (by decide +kernel) rfl
theorem lk_L_128 : lkV RL 128 mX9_copy := ⟨gt_mem 704 (by decide +kernel) rfl, wn_X9_copy, wc_X9_copy⟩
theorem lk_X9_263 : lkV RX9 263 mX7_hasRun := ⟨gt_mem 708 (by decide +kernel) rfl, wn_X7_hasRun, wc_X7_hasRun⟩
theorem lk_L_133 : lkV RL 133 mX9_lose := ⟨gt_mem 715 (by decide +kernel) rfl, wn_X9_lose, wc_X9_lose⟩
theorem lk_L_137 : lkV RL 137 mX9_count := ⟨gt_mem 719 (by decide +kernel) rfl, wn_X9_count, wc_X9_count⟩
theorem lk_X9_272 : lkV RX9 272 mX2_notTakenBack := ⟨gt_mem 723 (by decide +kernel) rfl, wn_X2_notTakenBack, wc_X2_notTakenBack⟩
theorem lk_X9_275 : lkV RX9 275 mX9_forgivenWeeks := ⟨gt_mem 727 (by decide +kernel) rfl, wn_X9_forgivenWeeks, wc_X9_forgivenWeeks⟩
theorem lk_X9_278 : lkV RX9 278 mX5_unlikeWeeks := ⟨gt_mem 731 (by decide +kernel) rfl, wn_X5_unlikeWeeks, wc_X5_unlikeWeeks⟩
theorem lk_X5_40 : lkV RX5 40 mX5_areUnlike := ⟨gt_mem 735 (by decide +kernel) rfl, wn_X5_areUnlike, wc_X5_areUnlike⟩
theorem lk_L_17 : lkV RL 17 mX10_change := ⟨gt_mem 851 (by decide +kernel) rfl, wn_X10_change, wc_X10_change⟩
theorem lk_X10_98 : lkS RX10 98 mX10_isValue := ⟨gt_mem 855 (by decide +kernel) rfl, wt_X10_isValue⟩
theorem lk_X10_90 : lkS RX10 90 mX10_isIn := ⟨gt_mem 858 (by decide +kernel) rfl, wt_X10_isIn⟩
theorem kc_X10_97 : Cond.constant RX10 97 (100000) ∈ gtbl := gt_mem 861 (by decide +kernel) rfl
theorem lk_X10_102 : lkS RX10 102 mX10_isWeek := ⟨gt_mem 862 (by decide +kernel) rfl, wt_X10_isWeek⟩
theorem kc_X10_106 : Cond.constant RX10 106 (-2000000001) ∈ gtbl := gt_mem 865 (by decide +kernel) rfl
theorem kc_X10_110 : Cond.constant RX10 110 (-2000000003) ∈ gtbl := gt_mem 866 (by decide +kernel) rfl
theorem lk_L_22 : lkV RL 22 mX10_isOf := ⟨gt_mem 867 (by decide +kernel) rfl, wn_X10_isOf, wc_X10_isOf⟩
theorem lk_X10_111 : lkV RX10 111 mX10_isChange := ⟨gt_mem 871 (by decide +kernel) rfl, wn_X10_isChange, wc_X10_isChange⟩
theorem lk_L_27 : lkV RL 27 mX10_takeBack := ⟨gt_mem 875 (by decide +kernel) rfl, wn_X10_takeBack, wc_X10_takeBack⟩
theorem kc_X10_114 : Cond.constant RX10 114 (-2000000002) ∈ gtbl := gt_mem 879 (by decide +kernel) rfl
theorem lk_L_31 : lkV RL 31 mX10_told := ⟨gt_mem 880 (by decide +kernel) rfl, wn_X10_told, wc_X10_told⟩
theorem kc_X10_115 : Cond.constant RX10 115 (-2000000005) ∈ gtbl := gt_mem 884 (by decide +kernel) rfl
theorem lk_L_35 : lkV RL 35 mX10_known := ⟨gt_mem 885 (by decide +kernel) rfl, wn_X10_known, wc_X10_known⟩
theorem lk_X10_123 : lkV RX10 123 mX10_isPast := ⟨gt_mem 889 (by decide +kernel) rfl, wn_X10_isPast, wc_X10_isPast⟩
theorem lk_X10_126 : lkV RX10 126 mX10_income := ⟨gt_mem 893 (by decide +kernel) rfl, wn_X10_income, wc_X10_income⟩
theorem lk_X10_119 : lkV RX10 119 mX10_latest := ⟨gt_mem 897 (by decide +kernel) rfl, wn_X10_latest, wc_X10_latest⟩
theorem lk_X10_116 : lkV RX10 116 mX10_holds := ⟨gt_mem 901 (by decide +kernel) rfl, wn_X10_holds, wc_X10_holds⟩
theorem lk_X10_130 : lkV RX10 130 mX10_children := ⟨gt_mem 905 (by decide +kernel) rfl, wn_X10_children, wc_X10_children⟩
theorem lk_X10_133 : lkV RX10 133 mX10_others := ⟨gt_mem 909 (by decide +kernel) rfl, wn_X10_others, wc_X10_others⟩
theorem lk_L_39 : lkV RL 39 mX10_school := ⟨gt_mem 913 (by decide +kernel) rfl, wn_X10_school, wc_X10_school⟩
theorem lk_L_43 : lkV RL 43 mX10_nights := ⟨gt_mem 917 (by decide +kernel) rfl, wn_X10_nights, wc_X10_nights⟩
theorem lk_X10_139 : lkV RX10 139 mX10_end := ⟨gt_mem 921 (by decide +kernel) rfl, wn_X10_end, wc_X10_end⟩
theorem lk_X10_136 : lkV RX10 136 mX10_diary := ⟨gt_mem 925 (by decide +kernel) rfl, wn_X10_diary, wc_X10_diary⟩
theorem lk_L_47 : lkV RL 47 mX10_feed := ⟨gt_mem 929 (by decide +kernel) rfl, wn_X10_feed, wc_X10_feed⟩
theorem lk_X10_146 : lkV RX10 146 mX10_four := ⟨gt_mem 933 (by decide +kernel) rfl, wn_X10_four, wc_X10_four⟩
theorem lk_L_51 : lkV RL 51 mX10_trim := ⟨gt_mem 937 (by decide +kernel) rfl, wn_X10_trim, wc_X10_trim⟩
theorem lk_L_55 : lkV RL 55 mX10_law := ⟨gt_mem 941 (by decide +kernel) rfl, wn_X10_law, wc_X10_law⟩
theorem lk_X10_187 : lkV RX10 187 mX10_keepAside := ⟨gt_mem 945 (by decide +kernel) rfl, wn_X10_keepAside, wc_X10_keepAside⟩
theorem lk_X10_190 : lkV RX10 190 mX10_readLaw := ⟨gt_mem 949 (by decide +kernel) rfl, wn_X10_readLaw, wc_X10_readLaw⟩
theorem lk_X10_160 : lkV RX10 160 mX10_next := ⟨gt_mem 953 (by decide +kernel) rfl, wn_X10_next, wc_X10_next⟩
theorem lk_X10_177 : lkV RX10 177 mX10_isTake := ⟨gt_mem 957 (by decide +kernel) rfl, wn_X10_isTake, wc_X10_isTake⟩
theorem lk_X10_170 : lkV RX10 170 mX10_isWord := ⟨gt_mem 961 (by decide +kernel) rfl, wn_X10_isWord, wc_X10_isWord⟩
theorem lk_X10_174 : lkV RX10 174 mX10_isNumber := ⟨gt_mem 965 (by decide +kernel) rfl, wn_X10_isNumber, wc_X10_isNumber⟩
theorem lk_X10_163 : lkV RX10 163 mX10_number := ⟨gt_mem 969 (by decide +kernel) rfl, wn_X10_number, wc_X10_number⟩
theorem kc_X10_159 : Cond.constant RX10 159 (1000000) ∈ gtbl := gt_mem 973 (by decide +kernel) rfl
theorem lk_X10_181 : lkV RX10 181 mX10_readOver := ⟨gt_mem 974 (by decide +kernel) rfl, wn_X10_readOver, wc_X10_readOver⟩
theorem lk_X10_193 : lkV RX10 193 mX10_here := ⟨gt_mem 978 (by decide +kernel) rfl, wn_X10_here, wc_X10_here⟩
theorem lk_X10_196 : lkV RX10 196 mX10_putBack := ⟨gt_mem 982 (by decide +kernel) rfl, wn_X10_putBack, wc_X10_putBack⟩
theorem lk_L_59 : lkV RL 59 mX10_inForce := ⟨gt_mem 986 (by decide +kernel) rfl, wn_X10_inForce, wc_X10_inForce⟩
theorem lk_X10_199 : lkV RX10 199 mX10_lawOf := ⟨gt_mem 990 (by decide +kernel) rfl, wn_X10_lawOf, wc_X10_lawOf⟩
theorem lk_L_63 : lkV RL 63 mX10_sum := ⟨gt_mem 994 (by decide +kernel) rfl, wn_X10_sum, wc_X10_sum⟩
theorem lk_X10_203 : lkV RX10 203 mX10_sumOf := ⟨gt_mem 998 (by decide +kernel) rfl, wn_X10_sumOf, wc_X10_sumOf⟩
theorem lk_L_67 : lkV RL 67 mX10_due := ⟨gt_mem 1002 (by decide +kernel) rfl, wn_X10_due, wc_X10_due⟩
theorem lk_X10_206 : lkS RX10 206 mX10_isSide := ⟨gt_mem 1006 (by decide +kernel) rfl, wt_X10_isSide⟩
theorem lk_X10_209 : lkV RX10 209 mX10_dueOf := ⟨gt_mem 1009 (by decide +kernel) rfl, wn_X10_dueOf, wc_X10_dueOf⟩
theorem lk_L_71 : lkV RL 71 mX10_edge := ⟨gt_mem 1013 (by decide +kernel) rfl, wn_X10_edge, wc_X10_edge⟩
theorem lk_L_75 : lkV RL 75 mX10_line := ⟨gt_mem 1017 (by decide +kernel) rfl, wn_X10_line, wc_X10_line⟩
theorem lk_L_79 : lkV RL 79 mX10_marks := ⟨gt_mem 1021 (by decide +kernel) rfl, wn_X10_marks, wc_X10_marks⟩
theorem lk_L_83 : lkV RL 83 mX10_paid := ⟨gt_mem 1025 (by decide +kernel) rfl, wn_X10_paid, wc_X10_paid⟩
theorem lk_X10_215 : lkV RX10 215 mX10_isPay := ⟨gt_mem 1029 (by decide +kernel) rfl, wn_X10_isPay, wc_X10_isPay⟩
theorem lk_L_87 : lkV RL 87 mX10_owed := ⟨gt_mem 1033 (by decide +kernel) rfl, wn_X10_owed, wc_X10_owed⟩
theorem lk_X10_218 : lkV RX10 218 mX10_isAsked := ⟨gt_mem 1037 (by decide +kernel) rfl, wn_X10_isAsked, wc_X10_isAsked⟩
theorem lk_X10_221 : lkV RX10 221 mX10_findDues := ⟨gt_mem 1041 (by decide +kernel) rfl, wn_X10_findDues, wc_X10_findDues⟩
theorem lk_X10_225 : lkV RX10 225 mX10_paysUpTo := ⟨gt_mem 1045 (by decide +kernel) rfl, wn_X10_paysUpTo, wc_X10_paysUpTo⟩
theorem lk_L_91 : lkV RL 91 mX10_over := ⟨gt_mem 1049 (by decide +kernel) rfl, wn_X10_over, wc_X10_over⟩
theorem lk_L_95 : lkV RL 95 mX10_left := ⟨gt_mem 1053 (by decide +kernel) rfl, wn_X10_left, wc_X10_left⟩
theorem lk_X10_228 : lkV RX10 228 mX10_leftBy := ⟨gt_mem 1057 (by decide +kernel) rfl, wn_X10_leftBy, wc_X10_leftBy⟩
theorem lk_L_99 : lkV RL 99 mX10_oldest := ⟨gt_mem 1061 (by decide +kernel) rfl, wn_X10_oldest, wc_X10_oldest⟩
theorem lk_L_103 : lkV RL 103 mX10_payer := ⟨gt_mem 1065 (by decide +kernel) rfl, wn_X10_payer, wc_X10_payer⟩
theorem lk_L_107 : lkV RL 107 mX10_interest := ⟨gt_mem 1069 (by decide +kernel) rfl, wn_X10_interest, wc_X10_interest⟩
theorem lk_L_111 : lkV RL 111 mX10_forgive := ⟨gt_mem 1073 (by decide +kernel) rfl, wn_X10_forgive, wc_X10_forgive⟩
theorem lk_L_115 : lkV RL 115 mX10_rate := ⟨gt_mem 1077 (by decide +kernel) rfl, wn_X10_rate, wc_X10_rate⟩
theorem lk_L_119 : lkV RL 119 mX10_weeks := ⟨gt_mem 1081 (by decide +kernel) rfl, wn_X10_weeks, wc_X10_weeks⟩
theorem lk_L_123 : lkV RL 123 mX10_sheet := ⟨gt_mem 1085 (by decide +kernel) rfl, wn_X10_sheet, wc_X10_sheet⟩
theorem lk_X10_234 : lkS RX10 234 mX10_isSheet := ⟨gt_mem 1089 (by decide +kernel) rfl, wt_X10_isSheet⟩
theorem kc_X10_237 : Cond.constant RX10 237 (-2000000014) ∈ gtbl := gt_mem 1092 (by decide +kernel) rfl
theorem lk_L_127 : lkV RL 127 mX10_mark := ⟨gt_mem 1093 (by decide +kernel) rfl, wn_X10_mark, wc_X10_mark⟩
theorem kc_X10_238 : Cond.constant RX10 238 (-2000000011) ∈ gtbl := gt_mem 1097 (by decide +kernel) rfl
theorem kc_X10_239 : Cond.constant RX10 239 (-2000000013) ∈ gtbl := gt_mem 1098 (by decide +kernel) rfl
theorem lk_L_132 : lkV RL 132 mX10_copy := ⟨gt_mem 1099 (by decide +kernel) rfl, wn_X10_copy, wc_X10_copy⟩
theorem lk_L_136 : lkV RL 136 mX10_lose := ⟨gt_mem 1103 (by decide +kernel) rfl, wn_X10_lose, wc_X10_lose⟩
theorem lk_L_140 : lkV RL 140 mX10_count := ⟨gt_mem 1107 (by decide +kernel) rfl, wn_X10_count, wc_X10_count⟩
theorem ms_max : Cond.static Lib.Math.max.name ∈ gtbl := gt_mem 381 (by decide +kernel) rfl
theorem mc_max : Cond.code Lib.Math.max.name Lib.Math.max.code 2 (some .int) ∈ gtbl := gt_mem 382 (by decide +kernel) rfl
theorem ms_min : Cond.static Lib.Math.min.name ∈ gtbl := gt_mem 378 (by decide +kernel) rfl
theorem mc_min : Cond.code Lib.Math.min.name Lib.Math.min.code 2 (some .int) ∈ gtbl := gt_mem 379 (by decide +kernel) rfl
theorem mi_math : Cond.initialized "java/lang/Math" ∈ gtbl := gt_mem 58 (by decide +kernel) rfl
theorem uw_X0 : ∀ w ∈ u_ws RX0 TX0 4, w ∈ gtbl := fun w hw => List.mem_filter.mpr ((by decide +kernel : ∀ w ∈ u_ws RX0 TX0 4, w ∈ lw_tbl ∧ goodWord w = true) w hw)
theorem uw_X1 : ∀ w ∈ u_ws RX1 TX1 5, w ∈ gtbl := fun w hw => List.mem_filter.mpr ((by decide +kernel : ∀ w ∈ u_ws RX1 TX1 5, w ∈ lw_tbl ∧ goodWord w = true) w hw)
theorem uw_X2 : ∀ w ∈ u_ws RX2 TX2 6, w ∈ gtbl := fun w hw => List.mem_filter.mpr ((by decide +kernel : ∀ w ∈ u_ws RX2 TX2 6, w ∈ lw_tbl ∧ goodWord w = true) w hw)
theorem uw_X3 : ∀ w ∈ u_ws RX3 TX3 8, w ∈ gtbl := fun w hw => List.mem_filter.mpr ((by decide +kernel : ∀ w ∈ u_ws RX3 TX3 8, w ∈ lw_tbl ∧ goodWord w = true) w hw)
theorem uw_X4 : ∀ w ∈ u_ws RX4 TX4 2, w ∈ gtbl := fun w hw => List.mem_filter.mpr ((by decide +kernel : ∀ w ∈ u_ws RX4 TX4 2, w ∈ lw_tbl ∧ goodWord w = true) w hw)
theorem uw_X5 : ∀ w ∈ u_ws RX5 TX5 2, w ∈ gtbl := fun w hw => List.mem_filter.mpr ((by decide +kernel : ∀ w ∈ u_ws RX5 TX5 2, w ∈ lw_tbl ∧ goodWord w = true) w hw)
theorem uw_X6 : ∀ w ∈ u_ws RX6 TX6 4, w ∈ gtbl := fun w hw => List.mem_filter.mpr ((by decide +kernel : ∀ w ∈ u_ws RX6 TX6 4, w ∈ lw_tbl ∧ goodWord w = true) w hw)
theorem uw_X7 : ∀ w ∈ u_ws RX7 TX7 2, w ∈ gtbl := fun w hw => List.mem_filter.mpr ((by decide +kernel : ∀ w ∈ u_ws RX7 TX7 2, w ∈ lw_tbl ∧ goodWord w = true) w hw)
theorem uw_X8 : ∀ w ∈ u_ws RX8 TX8 2, w ∈ gtbl := fun w hw => List.mem_filter.mpr ((by decide +kernel : ∀ w ∈ u_ws RX8 TX8 2, w ∈ lw_tbl ∧ goodWord w = true) w hw)
theorem uw_X9 : ∀ w ∈ u_ws RX9 TX9 10, w ∈ gtbl := fun w hw => List.mem_filter.mpr ((by decide +kernel : ∀ w ∈ u_ws RX9 TX9 10, w ∈ lw_tbl ∧ goodWord w = true) w hw)
theorem uw_X10 : ∀ w ∈ u_ws RX10 TX10 36, w ∈ gtbl := fun w hw => List.mem_filter.mpr ((by decide +kernel : ∀ w ∈ u_ws RX10 TX10 36, w ∈ lw_tbl ∧ goodWord w = true) w hw)
theorem fo_X2_9 : fOK RX2 9 2 0 := ⟨RX2, TX2, 6, rfl, uw_X2, by decide, rfl, gt_mem 78 (by decide +kernel) rfl⟩
theorem fo_X9_100 : fOK RX9 100 2 0 := ⟨RX2, TX2, 6, rfl, uw_X2, by decide, rfl, gt_mem 79 (by decide +kernel) rfl⟩
theorem fo_X2_15 : fOK RX2 15 2 1 := ⟨RX2, TX2, 6, rfl, uw_X2, by decide, rfl, gt_mem 80 (by decide +kernel) rfl⟩
theorem fo_X9_103 : fOK RX9 103 2 1 := ⟨RX2, TX2, 6, rfl, uw_X2, by decide, rfl, gt_mem 81 (by decide +kernel) rfl⟩
theorem fo_X2_18 : fOK RX2 18 2 2 := ⟨RX2, TX2, 6, rfl, uw_X2, by decide, rfl, gt_mem 82 (by decide +kernel) rfl⟩
theorem fo_X9_106 : fOK RX9 106 2 2 := ⟨RX2, TX2, 6, rfl, uw_X2, by decide, rfl, gt_mem 83 (by decide +kernel) rfl⟩
theorem fo_X2_21 : fOK RX2 21 2 3 := ⟨RX2, TX2, 6, rfl, uw_X2, by decide, rfl, gt_mem 84 (by decide +kernel) rfl⟩
theorem fo_X9_109 : fOK RX9 109 2 3 := ⟨RX2, TX2, 6, rfl, uw_X2, by decide, rfl, gt_mem 85 (by decide +kernel) rfl⟩
theorem fo_X2_24 : fOK RX2 24 2 4 := ⟨RX2, TX2, 6, rfl, uw_X2, by decide, rfl, gt_mem 86 (by decide +kernel) rfl⟩
theorem fo_X9_94 : fOK RX9 94 2 4 := ⟨RX2, TX2, 6, rfl, uw_X2, by decide, rfl, gt_mem 87 (by decide +kernel) rfl⟩
theorem fo_X9_73 : fOK RX9 73 2 5 := ⟨RX2, TX2, 6, rfl, uw_X2, by decide, rfl, gt_mem 88 (by decide +kernel) rfl⟩
theorem fp_X9_73 : fPut RX9 73 2 5 := ⟨RX2, TX2, 6, tyX2, rfl, uw_X2, by decide, rfl, gt_mem 88 (by decide +kernel) rfl, tyX2_ok, nmX2, rfl, by decide +kernel⟩
theorem fo_X2_28 : fOK RX2 28 2 5 := ⟨RX2, TX2, 6, rfl, uw_X2, by decide, rfl, gt_mem 89 (by decide +kernel) rfl⟩
theorem fp_X2_28 : fPut RX2 28 2 5 := ⟨RX2, TX2, 6, tyX2, rfl, uw_X2, by decide, rfl, gt_mem 89 (by decide +kernel) rfl, tyX2_ok, nmX2, rfl, by decide +kernel⟩
theorem fo_X8_9 : fOK RX8 9 8 0 := ⟨RX8, TX8, 2, rfl, uw_X8, by decide, rfl, gt_mem 110 (by decide +kernel) rfl⟩
theorem fo_X6_90 : fOK RX6 90 8 0 := ⟨RX8, TX8, 2, rfl, uw_X8, by decide, rfl, gt_mem 111 (by decide +kernel) rfl⟩
theorem fo_X8_15 : fOK RX8 15 8 1 := ⟨RX8, TX8, 2, rfl, uw_X8, by decide, rfl, gt_mem 112 (by decide +kernel) rfl⟩
theorem fp_X8_15 : fPut RX8 15 8 1 := ⟨RX8, TX8, 2, tyX8, rfl, uw_X8, by decide, rfl, gt_mem 112 (by decide +kernel) rfl, tyX8_ok, nmX8, rfl, by decide +kernel⟩
theorem fo_X6_85 : fOK RX6 85 8 1 := ⟨RX8, TX8, 2, rfl, uw_X8, by decide, rfl, gt_mem 113 (by decide +kernel) rfl⟩
theorem fp_X6_85 : fPut RX6 85 8 1 := ⟨RX8, TX8, 2, tyX8, rfl, uw_X8, by decide, rfl, gt_mem 113 (by decide +kernel) rfl, tyX8_ok, nmX8, rfl, by decide +kernel⟩
theorem fo_X9_141 : fOK RX9 141 8 1 := ⟨RX8, TX8, 2, rfl, uw_X8, by decide, rfl, gt_mem 114 (by decide +kernel) rfl⟩
theorem fp_X9_141 : fPut RX9 141 8 1 := ⟨RX8, TX8, 2, tyX8, rfl, uw_X8, by decide, rfl, gt_mem 114 (by decide +kernel) rfl, tyX8_ok, nmX8, rfl, by decide +kernel⟩
theorem fo_X6_9 : fOK RX6 9 6 0 := ⟨RX6, TX6, 4, rfl, uw_X6, by decide, rfl, gt_mem 127 (by decide +kernel) rfl⟩
theorem fo_X6_82 : fOK RX6 82 6 1 := ⟨RX6, TX6, 4, rfl, uw_X6, by decide, rfl, gt_mem 128 (by decide +kernel) rfl⟩
theorem fp_X6_82 : fPut RX6 82 6 1 := ⟨RX6, TX6, 4, tyX6, rfl, uw_X6, by decide, rfl, gt_mem 128 (by decide +kernel) rfl, tyX6_ok, nmX6, rfl, by decide +kernel⟩
theorem fo_X6_20 : fOK RX6 20 6 2 := ⟨RX6, TX6, 4, rfl, uw_X6, by decide, rfl, gt_mem 129 (by decide +kernel) rfl⟩
theorem fp_X6_20 : fPut RX6 20 6 2 := ⟨RX6, TX6, 4, tyX6, rfl, uw_X6, by decide, rfl, gt_mem 129 (by decide +kernel) rfl, tyX6_ok, nmX6, rfl, by decide +kernel⟩
theorem fo_X6_16 : fOK RX6 16 6 3 := ⟨RX6, TX6, 4, rfl, uw_X6, by decide, rfl, gt_mem 130 (by decide +kernel) rfl⟩
theorem fp_X6_16 : fPut RX6 16 6 3 := ⟨RX6, TX6, 4, tyX6, rfl, uw_X6, by decide, rfl, gt_mem 130 (by decide +kernel) rfl, tyX6_ok, nmX6, rfl, by decide +kernel⟩
theorem fo_X4_23 : fOK RX4 23 3 0 := ⟨RX3, TX3, 8, rfl, uw_X3, by decide, rfl, gt_mem 153 (by decide +kernel) rfl⟩
theorem fp_X4_23 : fPut RX4 23 3 0 := ⟨RX3, TX3, 8, tyX3, rfl, uw_X3, by decide, rfl, gt_mem 153 (by decide +kernel) rfl, tyX3_ok, nmX3, rfl, by decide +kernel⟩
theorem fo_X9_158 : fOK RX9 158 3 0 := ⟨RX3, TX3, 8, rfl, uw_X3, by decide, rfl, gt_mem 154 (by decide +kernel) rfl⟩
theorem fp_X9_158 : fPut RX9 158 3 0 := ⟨RX3, TX3, 8, tyX3, rfl, uw_X3, by decide, rfl, gt_mem 154 (by decide +kernel) rfl, tyX3_ok, nmX3, rfl, by decide +kernel⟩
theorem fo_X6_36 : fOK RX6 36 3 1 := ⟨RX3, TX3, 8, rfl, uw_X3, by decide, rfl, gt_mem 155 (by decide +kernel) rfl⟩
theorem fp_X6_36 : fPut RX6 36 3 1 := ⟨RX3, TX3, 8, tyX3, rfl, uw_X3, by decide, rfl, gt_mem 155 (by decide +kernel) rfl, tyX3_ok, nmX3, rfl, by decide +kernel⟩
theorem fo_X3_35 : fOK RX3 35 3 1 := ⟨RX3, TX3, 8, rfl, uw_X3, by decide, rfl, gt_mem 156 (by decide +kernel) rfl⟩
theorem fp_X3_35 : fPut RX3 35 3 1 := ⟨RX3, TX3, 8, tyX3, rfl, uw_X3, by decide, rfl, gt_mem 156 (by decide +kernel) rfl, tyX3_ok, nmX3, rfl, by decide +kernel⟩
theorem fo_X6_42 : fOK RX6 42 3 2 := ⟨RX3, TX3, 8, rfl, uw_X3, by decide, rfl, gt_mem 157 (by decide +kernel) rfl⟩
theorem fp_X6_42 : fPut RX6 42 3 2 := ⟨RX3, TX3, 8, tyX3, rfl, uw_X3, by decide, rfl, gt_mem 157 (by decide +kernel) rfl, tyX3_ok, nmX3, rfl, by decide +kernel⟩
theorem fo_X3_29 : fOK RX3 29 3 2 := ⟨RX3, TX3, 8, rfl, uw_X3, by decide, rfl, gt_mem 158 (by decide +kernel) rfl⟩
theorem fp_X3_29 : fPut RX3 29 3 2 := ⟨RX3, TX3, 8, tyX3, rfl, uw_X3, by decide, rfl, gt_mem 158 (by decide +kernel) rfl, tyX3_ok, nmX3, rfl, by decide +kernel⟩
theorem fo_X6_45 : fOK RX6 45 3 3 := ⟨RX3, TX3, 8, rfl, uw_X3, by decide, rfl, gt_mem 159 (by decide +kernel) rfl⟩
theorem fp_X6_45 : fPut RX6 45 3 3 := ⟨RX3, TX3, 8, tyX3, rfl, uw_X3, by decide, rfl, gt_mem 159 (by decide +kernel) rfl, tyX3_ok, nmX3, rfl, by decide +kernel⟩
theorem fo_X3_38 : fOK RX3 38 3 3 := ⟨RX3, TX3, 8, rfl, uw_X3, by decide, rfl, gt_mem 160 (by decide +kernel) rfl⟩
theorem fp_X3_38 : fPut RX3 38 3 3 := ⟨RX3, TX3, 8, tyX3, rfl, uw_X3, by decide, rfl, gt_mem 160 (by decide +kernel) rfl, tyX3_ok, nmX3, rfl, by decide +kernel⟩
theorem fo_X6_61 : fOK RX6 61 3 4 := ⟨RX3, TX3, 8, rfl, uw_X3, by decide, rfl, gt_mem 161 (by decide +kernel) rfl⟩
theorem fp_X6_61 : fPut RX6 61 3 4 := ⟨RX3, TX3, 8, tyX3, rfl, uw_X3, by decide, rfl, gt_mem 161 (by decide +kernel) rfl, tyX3_ok, nmX3, rfl, by decide +kernel⟩
theorem fo_X3_41 : fOK RX3 41 3 4 := ⟨RX3, TX3, 8, rfl, uw_X3, by decide, rfl, gt_mem 162 (by decide +kernel) rfl⟩
theorem fp_X3_41 : fPut RX3 41 3 4 := ⟨RX3, TX3, 8, tyX3, rfl, uw_X3, by decide, rfl, gt_mem 162 (by decide +kernel) rfl, tyX3_ok, nmX3, rfl, by decide +kernel⟩
theorem fo_X3_7 : fOK RX3 7 3 5 := ⟨RX3, TX3, 8, rfl, uw_X3, by decide, rfl, gt_mem 163 (by decide +kernel) rfl⟩
theorem fp_X3_7 : fPut RX3 7 3 5 := ⟨RX3, TX3, 8, tyX3, rfl, uw_X3, by decide, rfl, gt_mem 163 (by decide +kernel) rfl, tyX3_ok, nmX3, rfl, by decide +kernel⟩
theorem fo_X6_66 : fOK RX6 66 3 5 := ⟨RX3, TX3, 8, rfl, uw_X3, by decide, rfl, gt_mem 164 (by decide +kernel) rfl⟩
theorem fp_X6_66 : fPut RX6 66 3 5 := ⟨RX3, TX3, 8, tyX3, rfl, uw_X3, by decide, rfl, gt_mem 164 (by decide +kernel) rfl, tyX3_ok, nmX3, rfl, by decide +kernel⟩
theorem fo_X6_71 : fOK RX6 71 3 6 := ⟨RX3, TX3, 8, rfl, uw_X3, by decide, rfl, gt_mem 165 (by decide +kernel) rfl⟩
theorem fp_X6_71 : fPut RX6 71 3 6 := ⟨RX3, TX3, 8, tyX3, rfl, uw_X3, by decide, rfl, gt_mem 165 (by decide +kernel) rfl, tyX3_ok, nmX3, rfl, by decide +kernel⟩
theorem fo_X3_47 : fOK RX3 47 3 6 := ⟨RX3, TX3, 8, rfl, uw_X3, by decide, rfl, gt_mem 166 (by decide +kernel) rfl⟩
theorem fp_X3_47 : fPut RX3 47 3 6 := ⟨RX3, TX3, 8, tyX3, rfl, uw_X3, by decide, rfl, gt_mem 166 (by decide +kernel) rfl, tyX3_ok, nmX3, rfl, by decide +kernel⟩
theorem fo_X6_80 : fOK RX6 80 3 7 := ⟨RX3, TX3, 8, rfl, uw_X3, by decide, rfl, gt_mem 167 (by decide +kernel) rfl⟩
theorem fp_X6_80 : fPut RX6 80 3 7 := ⟨RX3, TX3, 8, tyX3, rfl, uw_X3, by decide, rfl, gt_mem 167 (by decide +kernel) rfl, tyX3_ok, nmX3, rfl, by decide +kernel⟩
theorem fo_X3_44 : fOK RX3 44 3 7 := ⟨RX3, TX3, 8, rfl, uw_X3, by decide, rfl, gt_mem 168 (by decide +kernel) rfl⟩
theorem fp_X3_44 : fPut RX3 44 3 7 := ⟨RX3, TX3, 8, tyX3, rfl, uw_X3, by decide, rfl, gt_mem 168 (by decide +kernel) rfl, tyX3_ok, nmX3, rfl, by decide +kernel⟩
theorem fo_X4_11 : fOK RX4 11 4 0 := ⟨RX4, TX4, 2, rfl, uw_X4, by decide, rfl, gt_mem 186 (by decide +kernel) rfl⟩
theorem fo_X9_149 : fOK RX9 149 4 0 := ⟨RX4, TX4, 2, rfl, uw_X4, by decide, rfl, gt_mem 187 (by decide +kernel) rfl⟩
theorem fo_X4_19 : fOK RX4 19 4 1 := ⟨RX4, TX4, 2, rfl, uw_X4, by decide, rfl, gt_mem 188 (by decide +kernel) rfl⟩
theorem fp_X4_19 : fPut RX4 19 4 1 := ⟨RX4, TX4, 2, tyX4, rfl, uw_X4, by decide, rfl, gt_mem 188 (by decide +kernel) rfl, tyX4_ok, nmX4, rfl, by decide +kernel⟩
theorem fo_X9_153 : fOK RX9 153 4 1 := ⟨RX4, TX4, 2, rfl, uw_X4, by decide, rfl, gt_mem 189 (by decide +kernel) rfl⟩
theorem fp_X9_153 : fPut RX9 153 4 1 := ⟨RX4, TX4, 2, tyX4, rfl, uw_X4, by decide, rfl, gt_mem 189 (by decide +kernel) rfl, tyX4_ok, nmX4, rfl, by decide +kernel⟩
theorem fo_X7_9 : fOK RX7 9 7 0 := ⟨RX7, TX7, 2, rfl, uw_X7, by decide, rfl, gt_mem 208 (by decide +kernel) rfl⟩
theorem fo_X9_259 : fOK RX9 259 7 0 := ⟨RX7, TX7, 2, rfl, uw_X7, by decide, rfl, gt_mem 209 (by decide +kernel) rfl⟩
theorem fo_X7_15 : fOK RX7 15 7 1 := ⟨RX7, TX7, 2, rfl, uw_X7, by decide, rfl, gt_mem 210 (by decide +kernel) rfl⟩
theorem fp_X7_15 : fPut RX7 15 7 1 := ⟨RX7, TX7, 2, tyX7, rfl, uw_X7, by decide, rfl, gt_mem 210 (by decide +kernel) rfl, tyX7_ok, nmX7, rfl, by decide +kernel⟩
theorem fo_X9_257 : fOK RX9 257 7 1 := ⟨RX7, TX7, 2, rfl, uw_X7, by decide, rfl, gt_mem 211 (by decide +kernel) rfl⟩
theorem fp_X9_257 : fPut RX9 257 7 1 := ⟨RX7, TX7, 2, tyX7, rfl, uw_X7, by decide, rfl, gt_mem 211 (by decide +kernel) rfl, tyX7_ok, nmX7, rfl, by decide +kernel⟩
theorem fo_X5_12 : fOK RX5 12 5 0 := ⟨RX5, TX5, 2, rfl, uw_X5, by decide, rfl, gt_mem 221 (by decide +kernel) rfl⟩
theorem fo_X9_243 : fOK RX9 243 5 0 := ⟨RX5, TX5, 2, rfl, uw_X5, by decide, rfl, gt_mem 222 (by decide +kernel) rfl⟩
theorem fo_X5_18 : fOK RX5 18 5 1 := ⟨RX5, TX5, 2, rfl, uw_X5, by decide, rfl, gt_mem 223 (by decide +kernel) rfl⟩
theorem fo_X9_128 : fOK RX9 128 5 1 := ⟨RX5, TX5, 2, rfl, uw_X5, by decide, rfl, gt_mem 224 (by decide +kernel) rfl⟩
theorem fo_X1_9 : fOK RX1 9 1 0 := ⟨RX1, TX1, 5, rfl, uw_X1, by decide, rfl, gt_mem 236 (by decide +kernel) rfl⟩
theorem fo_X1_15 : fOK RX1 15 1 1 := ⟨RX1, TX1, 5, rfl, uw_X1, by decide, rfl, gt_mem 237 (by decide +kernel) rfl⟩
theorem fo_X1_18 : fOK RX1 18 1 2 := ⟨RX1, TX1, 5, rfl, uw_X1, by decide, rfl, gt_mem 238 (by decide +kernel) rfl⟩
theorem fo_X1_25 : fOK RX1 25 1 3 := ⟨RX1, TX1, 5, rfl, uw_X1, by decide, rfl, gt_mem 239 (by decide +kernel) rfl⟩
theorem fp_X1_25 : fPut RX1 25 1 3 := ⟨RX1, TX1, 5, tyX1, rfl, uw_X1, by decide, rfl, gt_mem 239 (by decide +kernel) rfl, tyX1_ok, nmX1, rfl, by decide +kernel⟩
theorem fo_X9_191 : fOK RX9 191 1 3 := ⟨RX1, TX1, 5, rfl, uw_X1, by decide, rfl, gt_mem 240 (by decide +kernel) rfl⟩
theorem fp_X9_191 : fPut RX9 191 1 3 := ⟨RX1, TX1, 5, tyX1, rfl, uw_X1, by decide, rfl, gt_mem 240 (by decide +kernel) rfl, tyX1_ok, nmX1, rfl, by decide +kernel⟩
theorem fo_X1_21 : fOK RX1 21 1 4 := ⟨RX1, TX1, 5, rfl, uw_X1, by decide, rfl, gt_mem 241 (by decide +kernel) rfl⟩
theorem fp_X1_21 : fPut RX1 21 1 4 := ⟨RX1, TX1, 5, tyX1, rfl, uw_X1, by decide, rfl, gt_mem 241 (by decide +kernel) rfl, tyX1_ok, nmX1, rfl, by decide +kernel⟩
theorem fo_X9_194 : fOK RX9 194 1 4 := ⟨RX1, TX1, 5, rfl, uw_X1, by decide, rfl, gt_mem 242 (by decide +kernel) rfl⟩
theorem fp_X9_194 : fPut RX9 194 1 4 := ⟨RX1, TX1, 5, tyX1, rfl, uw_X1, by decide, rfl, gt_mem 242 (by decide +kernel) rfl, tyX1_ok, nmX1, rfl, by decide +kernel⟩
theorem fo_X0_9 : fOK RX0 9 0 0 := ⟨RX0, TX0, 4, rfl, uw_X0, by decide, rfl, gt_mem 260 (by decide +kernel) rfl⟩
theorem fo_X9_218 : fOK RX9 218 0 0 := ⟨RX0, TX0, 4, rfl, uw_X0, by decide, rfl, gt_mem 261 (by decide +kernel) rfl⟩
theorem fo_X0_15 : fOK RX0 15 0 1 := ⟨RX0, TX0, 4, rfl, uw_X0, by decide, rfl, gt_mem 262 (by decide +kernel) rfl⟩
theorem fo_X9_212 : fOK RX9 212 0 1 := ⟨RX0, TX0, 4, rfl, uw_X0, by decide, rfl, gt_mem 263 (by decide +kernel) rfl⟩
theorem fo_X0_22 : fOK RX0 22 0 2 := ⟨RX0, TX0, 4, rfl, uw_X0, by decide, rfl, gt_mem 264 (by decide +kernel) rfl⟩
theorem fp_X0_22 : fPut RX0 22 0 2 := ⟨RX0, TX0, 4, tyX0, rfl, uw_X0, by decide, rfl, gt_mem 264 (by decide +kernel) rfl, tyX0_ok, nmX0, rfl, by decide +kernel⟩
theorem fo_X9_239 : fOK RX9 239 0 2 := ⟨RX0, TX0, 4, rfl, uw_X0, by decide, rfl, gt_mem 265 (by decide +kernel) rfl⟩
theorem fp_X9_239 : fPut RX9 239 0 2 := ⟨RX0, TX0, 4, tyX0, rfl, uw_X0, by decide, rfl, gt_mem 265 (by decide +kernel) rfl, tyX0_ok, nmX0, rfl, by decide +kernel⟩
theorem fo_X0_18 : fOK RX0 18 0 3 := ⟨RX0, TX0, 4, rfl, uw_X0, by decide, rfl, gt_mem 266 (by decide +kernel) rfl⟩
theorem fp_X0_18 : fPut RX0 18 0 3 := ⟨RX0, TX0, 4, tyX0, rfl, uw_X0, by decide, rfl, gt_mem 266 (by decide +kernel) rfl, tyX0_ok, nmX0, rfl, by decide +kernel⟩
theorem fo_X9_209 : fOK RX9 209 0 3 := ⟨RX0, TX0, 4, rfl, uw_X0, by decide, rfl, gt_mem 267 (by decide +kernel) rfl⟩
theorem fp_X9_209 : fPut RX9 209 0 3 := ⟨RX0, TX0, 4, tyX0, rfl, uw_X0, by decide, rfl, gt_mem 267 (by decide +kernel) rfl, tyX0_ok, nmX0, rfl, by decide +kernel⟩
theorem fo_X9_10 : fOK RX9 10 9 0 := ⟨RX9, TX9, 10, rfl, uw_X9, by decide, rfl, gt_mem 277 (by decide +kernel) rfl⟩
theorem fo_X9_19 : fOK RX9 19 9 1 := ⟨RX9, TX9, 10, rfl, uw_X9, by decide, rfl, gt_mem 278 (by decide +kernel) rfl⟩
theorem fo_X9_28 : fOK RX9 28 9 2 := ⟨RX9, TX9, 10, rfl, uw_X9, by decide, rfl, gt_mem 279 (by decide +kernel) rfl⟩
theorem fo_X9_35 : fOK RX9 35 9 3 := ⟨RX9, TX9, 10, rfl, uw_X9, by decide, rfl, gt_mem 280 (by decide +kernel) rfl⟩
theorem fo_X9_42 : fOK RX9 42 9 4 := ⟨RX9, TX9, 10, rfl, uw_X9, by decide, rfl, gt_mem 281 (by decide +kernel) rfl⟩
theorem fo_X9_49 : fOK RX9 49 9 5 := ⟨RX9, TX9, 10, rfl, uw_X9, by decide, rfl, gt_mem 282 (by decide +kernel) rfl⟩
theorem fo_X9_56 : fOK RX9 56 9 6 := ⟨RX9, TX9, 10, rfl, uw_X9, by decide, rfl, gt_mem 283 (by decide +kernel) rfl⟩
theorem fo_X9_60 : fOK RX9 60 9 7 := ⟨RX9, TX9, 10, rfl, uw_X9, by decide, rfl, gt_mem 284 (by decide +kernel) rfl⟩
theorem fo_X9_233 : fOK RX9 233 9 8 := ⟨RX9, TX9, 10, rfl, uw_X9, by decide, rfl, gt_mem 285 (by decide +kernel) rfl⟩
theorem fp_X9_233 : fPut RX9 233 9 8 := ⟨RX9, TX9, 10, tyX9, rfl, uw_X9, by decide, rfl, gt_mem 285 (by decide +kernel) rfl, tyX9_ok, nmX9, rfl, by decide +kernel⟩
theorem fo_X9_78 : fOK RX9 78 9 9 := ⟨RX9, TX9, 10, rfl, uw_X9, by decide, rfl, gt_mem 286 (by decide +kernel) rfl⟩
theorem fp_X9_78 : fPut RX9 78 9 9 := ⟨RX9, TX9, 10, tyX9, rfl, uw_X9, by decide, rfl, gt_mem 286 (by decide +kernel) rfl, tyX9_ok, nmX9, rfl, by decide +kernel⟩
theorem jf_J0_38 : Cond.fieldLink RJ0 38 "java/lang/String" "COMPACT_STRINGS" "Z" ∈ gtbl := gt_mem 475 (by decide +kernel) rfl
theorem jf_J0_1053 : Cond.fieldLink RJ0 1053 "jdk/internal/util/Preconditions" "SIOOBE_FORMATTER" "Ljava/util/function/BiFunction;" ∈ gtbl := gt_mem 491 (by decide +kernel) rfl
theorem jf_J2_44 : Cond.fieldLink RJ2 44 "java/lang/StringUTF16" "$assertionsDisabled" "Z" ∈ gtbl := gt_mem 509 (by decide +kernel) rfl
theorem jf_J2_59 : Cond.fieldLink RJ2 59 "java/lang/StringUTF16" "HI_BYTE_SHIFT" "I" ∈ gtbl := gt_mem 511 (by decide +kernel) rfl
theorem jf_J2_63 : Cond.fieldLink RJ2 63 "java/lang/StringUTF16" "LO_BYTE_SHIFT" "I" ∈ gtbl := gt_mem 513 (by decide +kernel) rfl
theorem fo_X10_94 : fOK RX10 94 10 0 := ⟨RX10, TX10, 36, rfl, uw_X10, by decide, rfl, gt_mem 742 (by decide +kernel) rfl⟩
theorem fp_X10_94 : fPut RX10 94 10 0 := ⟨RX10, TX10, 36, tyX10, rfl, uw_X10, by decide, rfl, gt_mem 742 (by decide +kernel) rfl, tyX10_ok, nmX10, rfl, by decide +kernel⟩
theorem fo_X10_107 : fOK RX10 107 10 1 := ⟨RX10, TX10, 36, rfl, uw_X10, by decide, rfl, gt_mem 743 (by decide +kernel) rfl⟩
theorem fp_X10_107 : fPut RX10 107 10 1 := ⟨RX10, TX10, 36, tyX10, rfl, uw_X10, by decide, rfl, gt_mem 743 (by decide +kernel) rfl, tyX10_ok, nmX10, rfl, by decide +kernel⟩
theorem fo_X10_7 : fOK RX10 7 10 2 := ⟨RX10, TX10, 36, rfl, uw_X10, by decide, rfl, gt_mem 744 (by decide +kernel) rfl⟩
theorem fo_X10_13 : fOK RX10 13 10 3 := ⟨RX10, TX10, 36, rfl, uw_X10, by decide, rfl, gt_mem 745 (by decide +kernel) rfl⟩
theorem fo_X10_16 : fOK RX10 16 10 4 := ⟨RX10, TX10, 36, rfl, uw_X10, by decide, rfl, gt_mem 746 (by decide +kernel) rfl⟩
theorem fo_X10_19 : fOK RX10 19 10 5 := ⟨RX10, TX10, 36, rfl, uw_X10, by decide, rfl, gt_mem 747 (by decide +kernel) rfl⟩
theorem fo_X10_22 : fOK RX10 22 10 6 := ⟨RX10, TX10, 36, rfl, uw_X10, by decide, rfl, gt_mem 748 (by decide +kernel) rfl⟩
theorem fo_X10_25 : fOK RX10 25 10 7 := ⟨RX10, TX10, 36, rfl, uw_X10, by decide, rfl, gt_mem 749 (by decide +kernel) rfl⟩
theorem fo_X10_28 : fOK RX10 28 10 8 := ⟨RX10, TX10, 36, rfl, uw_X10, by decide, rfl, gt_mem 750 (by decide +kernel) rfl⟩
theorem fo_X10_184 : fOK RX10 184 10 9 := ⟨RX10, TX10, 36, rfl, uw_X10, by decide, rfl, gt_mem 751 (by decide +kernel) rfl⟩
theorem fp_X10_184 : fPut RX10 184 10 9 := ⟨RX10, TX10, 36, tyX10, rfl, uw_X10, by decide, rfl, gt_mem 751 (by decide +kernel) rfl, tyX10_ok, nmX10, rfl, by decide +kernel⟩
theorem fo_X10_32 : fOK RX10 32 10 10 := ⟨RX10, TX10, 36, rfl, uw_X10, by decide, rfl, gt_mem 752 (by decide +kernel) rfl⟩
theorem fo_X10_35 : fOK RX10 35 10 11 := ⟨RX10, TX10, 36, rfl, uw_X10, by decide, rfl, gt_mem 753 (by decide +kernel) rfl⟩
theorem fo_X10_38 : fOK RX10 38 10 12 := ⟨RX10, TX10, 36, rfl, uw_X10, by decide, rfl, gt_mem 754 (by decide +kernel) rfl⟩
theorem fo_X10_41 : fOK RX10 41 10 13 := ⟨RX10, TX10, 36, rfl, uw_X10, by decide, rfl, gt_mem 755 (by decide +kernel) rfl⟩
theorem fo_X10_44 : fOK RX10 44 10 14 := ⟨RX10, TX10, 36, rfl, uw_X10, by decide, rfl, gt_mem 756 (by decide +kernel) rfl⟩
theorem fo_X10_47 : fOK RX10 47 10 15 := ⟨RX10, TX10, 36, rfl, uw_X10, by decide, rfl, gt_mem 757 (by decide +kernel) rfl⟩
theorem fo_X10_50 : fOK RX10 50 10 16 := ⟨RX10, TX10, 36, rfl, uw_X10, by decide, rfl, gt_mem 758 (by decide +kernel) rfl⟩
theorem fo_X10_53 : fOK RX10 53 10 17 := ⟨RX10, TX10, 36, rfl, uw_X10, by decide, rfl, gt_mem 759 (by decide +kernel) rfl⟩
theorem fo_X10_212 : fOK RX10 212 10 18 := ⟨RX10, TX10, 36, rfl, uw_X10, by decide, rfl, gt_mem 760 (by decide +kernel) rfl⟩
theorem fp_X10_212 : fPut RX10 212 10 18 := ⟨RX10, TX10, 36, tyX10, rfl, uw_X10, by decide, rfl, gt_mem 760 (by decide +kernel) rfl, tyX10_ok, nmX10, rfl, by decide +kernel⟩
theorem fo_X10_56 : fOK RX10 56 10 19 := ⟨RX10, TX10, 36, rfl, uw_X10, by decide, rfl, gt_mem 761 (by decide +kernel) rfl⟩
theorem fo_X10_59 : fOK RX10 59 10 20 := ⟨RX10, TX10, 36, rfl, uw_X10, by decide, rfl, gt_mem 762 (by decide +kernel) rfl⟩
theorem fo_X10_62 : fOK RX10 62 10 21 := ⟨RX10, TX10, 36, rfl, uw_X10, by decide, rfl, gt_mem 763 (by decide +kernel) rfl⟩
theorem fo_X10_65 : fOK RX10 65 10 22 := ⟨RX10, TX10, 36, rfl, uw_X10, by decide, rfl, gt_mem 764 (by decide +kernel) rfl⟩
theorem fp_X10_65 : fPut RX10 65 10 22 := ⟨RX10, TX10, 36, tyX10, rfl, uw_X10, by decide, rfl, gt_mem 764 (by decide +kernel) rfl, tyX10_ok, nmX10, rfl, by decide +kernel⟩
theorem fo_X10_231 : fOK RX10 231 10 23 := ⟨RX10, TX10, 36, rfl, uw_X10, by decide, rfl, gt_mem 765 (by decide +kernel) rfl⟩
theorem fp_X10_231 : fPut RX10 231 10 23 := ⟨RX10, TX10, 36, tyX10, rfl, uw_X10, by decide, rfl, gt_mem 765 (by decide +kernel) rfl, tyX10_ok, nmX10, rfl, by decide +kernel⟩
theorem fo_X10_69 : fOK RX10 69 10 24 := ⟨RX10, TX10, 36, rfl, uw_X10, by decide, rfl, gt_mem 766 (by decide +kernel) rfl⟩
theorem fo_X10_143 : fOK RX10 143 10 25 := ⟨RX10, TX10, 36, rfl, uw_X10, by decide, rfl, gt_mem 767 (by decide +kernel) rfl⟩
theorem fp_X10_143 : fPut RX10 143 10 25 := ⟨RX10, TX10, 36, tyX10, rfl, uw_X10, by decide, rfl, gt_mem 767 (by decide +kernel) rfl, tyX10_ok, nmX10, rfl, by decide +kernel⟩
theorem fo_X10_72 : fOK RX10 72 10 26 := ⟨RX10, TX10, 36, rfl, uw_X10, by decide, rfl, gt_mem 768 (by decide +kernel) rfl⟩
theorem fo_X10_75 : fOK RX10 75 10 27 := ⟨RX10, TX10, 36, rfl, uw_X10, by decide, rfl, gt_mem 769 (by decide +kernel) rfl⟩
theorem fo_X10_150 : fOK RX10 150 10 28 := ⟨RX10, TX10, 36, rfl, uw_X10, by decide, rfl, gt_mem 770 (by decide +kernel) rfl⟩
theorem fp_X10_150 : fPut RX10 150 10 28 := ⟨RX10, TX10, 36, tyX10, rfl, uw_X10, by decide, rfl, gt_mem 770 (by decide +kernel) rfl, tyX10_ok, nmX10, rfl, by decide +kernel⟩
theorem fo_X10_153 : fOK RX10 153 10 29 := ⟨RX10, TX10, 36, rfl, uw_X10, by decide, rfl, gt_mem 771 (by decide +kernel) rfl⟩
theorem fp_X10_153 : fPut RX10 153 10 29 := ⟨RX10, TX10, 36, tyX10, rfl, uw_X10, by decide, rfl, gt_mem 771 (by decide +kernel) rfl, tyX10_ok, nmX10, rfl, by decide +kernel⟩
theorem fo_X10_156 : fOK RX10 156 10 30 := ⟨RX10, TX10, 36, rfl, uw_X10, by decide, rfl, gt_mem 772 (by decide +kernel) rfl⟩
theorem fp_X10_156 : fPut RX10 156 10 30 := ⟨RX10, TX10, 36, tyX10, rfl, uw_X10, by decide, rfl, gt_mem 772 (by decide +kernel) rfl, tyX10_ok, nmX10, rfl, by decide +kernel⟩
theorem fo_X10_167 : fOK RX10 167 10 31 := ⟨RX10, TX10, 36, rfl, uw_X10, by decide, rfl, gt_mem 773 (by decide +kernel) rfl⟩
theorem fp_X10_167 : fPut RX10 167 10 31 := ⟨RX10, TX10, 36, tyX10, rfl, uw_X10, by decide, rfl, gt_mem 773 (by decide +kernel) rfl, tyX10_ok, nmX10, rfl, by decide +kernel⟩
theorem fo_X10_78 : fOK RX10 78 10 32 := ⟨RX10, TX10, 36, rfl, uw_X10, by decide, rfl, gt_mem 774 (by decide +kernel) rfl⟩
theorem fo_X10_81 : fOK RX10 81 10 33 := ⟨RX10, TX10, 36, rfl, uw_X10, by decide, rfl, gt_mem 775 (by decide +kernel) rfl⟩
theorem fo_X10_84 : fOK RX10 84 10 34 := ⟨RX10, TX10, 36, rfl, uw_X10, by decide, rfl, gt_mem 776 (by decide +kernel) rfl⟩
theorem fo_X10_87 : fOK RX10 87 10 35 := ⟨RX10, TX10, 36, rfl, uw_X10, by decide, rfl, gt_mem 777 (by decide +kernel) rfl⟩
theorem jf_J0_9 : Cond.fieldLink RJ0 9 "java/lang/String" "value" "[B" ∈ gtbl := gt_mem 1111 (by decide +kernel) rfl
theorem jf_J0_15 : Cond.fieldLink RJ0 15 "java/lang/String" "coder" "B" ∈ gtbl := gt_mem 1112 (by decide +kernel) rfl
end
section
theorem fa_lt (a b : Int32) : a < b ↔ a.toInt < b.toInt := Int32.lt_iff_toInt_lt
theorem fa_le (a b : Int32) : a ≤ b ↔ a.toInt ≤ b.toInt := Int32.le_iff_toInt_le
theorem fa_eq (a b : Int32) : a = b ↔ a.toInt = b.toInt := Int32.toInt_inj.symm
def bl (p : Prop) [Decidable p] : Int32 := if p then 1 else 0
theorem bl_t {p : Prop} [Decidable p] (h : p) : bl p = 1 := if_pos h
theorem bl_f {p : Prop} [Decidable p] (h : ¬ p) : bl p = 0 := if_neg h
theorem bl_z {p : Prop} [Decidable p] : (bl p = 0) ↔ ¬ p := by
  by_cases h : p
  · rw [bl_t h]; simp [h]
  · rw [bl_f h]; simp [h]
theorem bl_o {p : Prop} [Decidable p] : (bl p = 1) ↔ p := by
  by_cases h : p
  · rw [bl_t h]; simp [h]
  · rw [bl_f h]; simp [h]
theorem bl_c {p q : Prop} [Decidable p] [Decidable q] (h : p ↔ q) : bl p = bl q := by
  by_cases hp : p
  · rw [bl_t hp, bl_t (h.mp hp)]
  · rw [bl_f hp, bl_f (fun hq => hp (h.mpr hq))]
theorem bl_or {p : Prop} [Decidable p] : bl p = 0 ∨ bl p = 1 := by
  by_cases hp : p
  · exact Or.inr (bl_t hp)
  · exact Or.inl (bl_f hp)
theorem nar_01 {v : Int32} (h : v = 0 ∨ v = 1) : narrow .boolean (.int v) = .int v := by
  rcases h with rfl | rfl <;> decide
theorem nar_bl {p : Prop} [Decidable p] : narrow .boolean (.int (bl p)) = .int (bl p) := nar_01 bl_or
theorem cat_all {av : List Value} (h : av.all (fun v => v.category == 1) = true) : ∀ v ∈ av, v.category = 1 := fun v hv => by
  have := List.all_eq_true.mp h v hv
  simpa using this
section UT
variable {K : Kt} {d : Nat} {y : MethodName} {cc : ByteArray} {nL : Nat} {av : List Value} {M : Mem}
theorem Ci_int {Q : Int32 → Mem → Prop} (own : String) (lv : List (Nat × Value)) (h1 : y.cls = own) (h2 : plainName own = true) (h3 : la 0 av = lv) (h4 : (lg_sl av).length ≤ nL) (h5 : av.all (fun v => v.category == 1) = true) (body : ∀ x : Cx, Cok K x own cc nL d (RI Q) → G K x nL 0 lv [] M) : Ci K d (y, cc, nL, some .int) av M Q := Ci.ofG own h1 h2 (fun v N h => vp_nar_int v) lv h3 h4 (cat_all h5) body
theorem Ri_int {r : Int32} {M' : Mem} (own : String) (lv : List (Nat × Value)) (h1 : y.cls = own) (h2 : plainName own = true) (h3 : la 0 av = lv) (h4 : (lg_sl av).length ≤ nL) (h5 : av.all (fun v => v.category == 1) = true) (body : ∀ x : Cx, Cok K x own cc nL d (RI (fun v N => v = r ∧ N = M')) → G K x nL 0 lv [] M) : Ri K d (y, cc, nL, some .int) av M r M' := Ci.ofG own h1 h2 (fun v N h => vp_nar_int v) lv h3 h4 (cat_all h5) body
theorem Ri_bool {r : Int32} {M' : Mem} (own : String) (lv : List (Nat × Value)) (h1 : y.cls = own) (h2 : plainName own = true) (h3 : la 0 av = lv) (h4 : (lg_sl av).length ≤ nL) (h5 : av.all (fun v => v.category == 1) = true) (hr : r = 0 ∨ r = 1) (body : ∀ x : Cx, Cok K x own cc nL d (RI (fun v N => v = r ∧ N = M')) → G K x nL 0 lv [] M) : Ri K d (y, cc, nL, some .boolean) av M r M' := Ci.ofG own h1 h2 (fun v N h => by rw [h.1]; exact nar_01 hr) lv h3 h4 (cat_all h5) body
theorem Ci_bool {Q : Int32 → Mem → Prop} (own : String) (lv : List (Nat × Value)) (h1 : y.cls = own) (h2 : plainName own = true) (h3 : la 0 av = lv) (h4 : (lg_sl av).length ≤ nL) (h5 : av.all (fun v => v.category == 1) = true) (hr : ∀ v N, Q v N → v = 0 ∨ v = 1) (body : ∀ x : Cx, Cok K x own cc nL d (RI Q) → G K x nL 0 lv [] M) : Ci K d (y, cc, nL, some .boolean) av M Q := Ci.ofG own h1 h2 (fun v N h => nar_01 (hr v N h)) lv h3 h4 (cat_all h5) body
theorem Cv_of {Q : Mem → Prop} (own : String) (lv : List (Nat × Value)) (h1 : y.cls = own) (h2 : plainName own = true) (h3 : la 0 av = lv) (h4 : (lg_sl av).length ≤ nL) (h5 : av.all (fun v => v.category == 1) = true) (body : ∀ x : Cx, Cok K x own cc nL d (RV Q) → G K x nL 0 lv [] M) : Cv K d (y, cc, nL, none) av M Q := Cv.ofG own h1 h2 lv h3 h4 (cat_all h5) body
theorem Rv_of {M' : Mem} (own : String) (lv : List (Nat × Value)) (h1 : y.cls = own) (h2 : plainName own = true) (h3 : la 0 av = lv) (h4 : (lg_sl av).length ≤ nL) (h5 : av.all (fun v => v.category == 1) = true) (body : ∀ x : Cx, Cok K x own cc nL d (RV (fun N => N = M')) → G K x nL 0 lv [] M) : Rv K d (y, cc, nL, none) av M M' := Cv.ofG own h1 h2 lv h3 h4 (cat_all h5) body
end UT
theorem G_iincN {K : Kt} {x : Cx} {own : String} {cc : ByteArray} {nL d : Nat} {Rp : Option Int32 → Mem → Prop} {pc : Nat} {lv : List (Nat × Value)} {st : List Value} {M : Mem} (C : Cok K x own cc nL d Rp) {i j : Nat} (hd : decode cc pc = .ok (.iinc i 1, 3)) (hi : i < nL) (hl : lk lv i = some (.int (nI j))) (k : G K x nL (pc + 3) ((i, .int (nI (j + 1))) :: lv) st M) : G K x nL pc lv st M := G_iinc C hd hi hl (nI_1 j) k
theorem Ri.eq {K : Kt} {d : Nat} {q : Mt} {av : List Value} {M M' N' : Mem} {r r' : Int32} (h : Ri K d q av M r M') (e1 : r = r') (e2 : M' = N') : Ri K d q av M r' N' := by subst e1; subst e2; exact h
theorem Ci.mono {K : Kt} {d : Nat} {q : Mt} {av : List Value} {M : Mem} {Q Q' : Int32 → Mem → Prop} (h : Ci K d q av M Q) (hq : ∀ r N, Q r N → Q' r N) : Ci K d q av M Q' := fun sz p e a1 a2 a3 s m args below a4 a5 a6 a7 => by
  have := h sz p e a1 a2 a3 s m args below a4 a5 a6 a7
  obtain ⟨t, o, b1, b2, b3, ⟨⟨⟨r, u, c1, c2, c3⟩, c4⟩, b5⟩⟩ := this
  exact ⟨t, o, b1, b2, b3, ⟨⟨⟨r, u, c1, hq r u c2, c3⟩, c4⟩, b5⟩⟩
theorem wr_s {M : Mem} {i j : Nat} {v : Int32} : wr M i j v i j = v := by simp [wr, va_up]
theorem wr_c {M : Mem} {i j a : Nat} {v : Int32} (h : a ≠ i) : wr M i j v a = M a := by simp [wr, va_up, h]
theorem wr_f {M : Mem} {i j b : Nat} {v : Int32} (h : b ≠ j) : wr M i j v i b = M i b := by simp [wr, va_up, h]
theorem wr_r {M : Mem} {i j : Nat} {v : Int32} : wr M i j v i = va_up (M i) j v := by simp [wr, va_up]
end
section
def ixv : Option Nat → Int32
  | none => -2000000005
  | some i => nI i
def ixm : Option Nat → Int32
  | none => -1
  | some i => nI i
def s_best (p : Nat → Bool) (fr : Nat → Int32) : Nat → Option Nat
  | 0 => none
  | n + 1 => bif p n && (match s_best p fr n with | none => true | some b => decide (fr b ≤ fr n)) then some n else s_best p fr n
theorem s_best_lt {p : Nat → Bool} {fr : Nat → Int32} : ∀ {n b : Nat}, s_best p fr n = some b → b < n
  | 0, b, h => by simp [s_best] at h
  | n + 1, b, h => by
    simp only [s_best] at h
    cases hc : (p n && (match s_best p fr n with | none => true | some b => decide (fr b ≤ fr n))) with
    | true => rw [hc] at h; simp at h; omega
    | false => rw [hc] at h; simp at h; have := s_best_lt h; omega
theorem s_best_p {p : Nat → Bool} {fr : Nat → Int32} : ∀ {n b : Nat}, s_best p fr n = some b → p b = true
  | 0, b, h => by simp [s_best] at h
  | n + 1, b, h => by
    simp only [s_best] at h
    cases hc : (p n && (match s_best p fr n with | none => true | some b => decide (fr b ≤ fr n))) with
    | true => rw [hc] at h; simp at h hc; subst h; exact hc.1
    | false => rw [hc] at h; simp at h; exact s_best_p h
theorem s_best_no {p : Nat → Bool} {fr : Nat → Int32} {n : Nat} (h : p n = false) : s_best p fr (n + 1) = s_best p fr n := by simp [s_best, h]
theorem s_best_new {p : Nat → Bool} {fr : Nat → Int32} {n : Nat} (h : p n = true) (h0 : s_best p fr n = none) : s_best p fr (n + 1) = some n := by simp [s_best, h, h0]
theorem s_best_up {p : Nat → Bool} {fr : Nat → Int32} {n b : Nat} (h : p n = true) (h0 : s_best p fr n = some b) (hb : fr b ≤ fr n) : s_best p fr (n + 1) = some n := by simp [s_best, h, h0, hb]
theorem s_best_old {p : Nat → Bool} {fr : Nat → Int32} {n b : Nat} (h0 : s_best p fr n = some b) (hb : ¬ fr b ≤ fr n) : s_best p fr (n + 1) = some b := by simp [s_best, h0, hb]
theorem s_best_cong {p q : Nat → Bool} {f g : Nat → Int32} : ∀ {n : Nat}, (∀ i, i < n → p i = q i) → (∀ i, i < n → f i = g i) → s_best p f n = s_best q g n
  | 0, _, _ => rfl
  | n + 1, h1, h2 => by
    have ih := s_best_cong (n := n) (fun i hi => h1 i (by omega)) (fun i hi => h2 i (by omega))
    simp only [s_best]
    rw [ih, h1 n (by omega)]
    cases hb : s_best q g n with
    | none => rfl
    | some b => simp only []; rw [h2 b (Nat.lt_succ_of_lt (s_best_lt hb)), h2 n (by omega)]
def s_sum (p : Nat → Bool) (f : Nat → Int32) : Nat → Int32
  | 0 => 0
  | n + 1 => bif p n then s_sum p f n + f n else s_sum p f n
theorem s_sum_t {p : Nat → Bool} {f : Nat → Int32} {n : Nat} (h : p n = true) : s_sum p f (n + 1) = s_sum p f n + f n := by simp [s_sum, h]
theorem s_sum_f {p : Nat → Bool} {f : Nat → Int32} {n : Nat} (h : p n = false) : s_sum p f (n + 1) = s_sum p f n := by simp [s_sum, h]
theorem s_sum_cong {p q : Nat → Bool} {f g : Nat → Int32} : ∀ {n : Nat}, (∀ i, i < n → p i = q i) → (∀ i, i < n → f i = g i) → s_sum p f n = s_sum q g n
  | 0, _, _ => rfl
  | n + 1, h1, h2 => by
    simp only [s_sum]
    rw [s_sum_cong (n := n) (fun i hi => h1 i (by omega)) (fun i hi => h2 i (by omega)), h1 n (by omega), h2 n (by omega)]
theorem n_le {a : Int32} {n j N : Nat} (e : a = nI n) (hn : n ≤ N) (hj : j ≤ N) (hN : N < 2 ^ 31) (h : a ≤ nI j) : n ≤ j := by
  subst e
  exact (nI_leI (Nat.lt_of_le_of_lt hn hN) (Nat.lt_of_le_of_lt hj hN)).mp h
theorem n_gt {a : Int32} {n j N : Nat} (e : a = nI n) (hn : n ≤ N) (hj : j ≤ N) (hN : N < 2 ^ 31) (h : ¬ a ≤ nI j) : j < n := by
  subst e
  rcases Nat.lt_or_ge j n with q | q
  · exact q
  · exact absurd ((nI_leI (Nat.lt_of_le_of_lt hn hN) (Nat.lt_of_le_of_lt hj hN)).mpr q) h
theorem nI_ne {j : Nat} (h : j < 2 ^ 31) : ¬ nI j = -2000000005 := fun e => by
  have := nI_pos' h
  rw [e] at this
  exact absurd this (by decide)
theorem ixv_none {o : Option Nat} (hb : ∀ b, o = some b → b < 2 ^ 31) : ixv o = -2000000005 ↔ o = none := by
  cases o with
  | none => simp [ixv]
  | some b => simp [ixv, nI_ne (hb b rfl)]
theorem ixm_neg {o : Option Nat} (hb : ∀ b, o = some b → b < 2 ^ 31) : ixm o < 0 ↔ o = none := by
  cases o with
  | none => simp [ixm]
  | some b => simp only [ixm]; constructor
              · intro h; exact absurd h (nI_pos (hb b rfl))
              · intro h; cases h
end
section
set_option maxHeartbeats 4000000 in
set_option maxRecDepth 100000 in
theorem c_X9_isBelow {K : Kt} {d : Nat} {M : Mem} {a b : Int32} : Ri K d mX9_isBelow [.int a, .int b] M (bl (0 ≤ a ∧ a < b)) M := by
  refine Ri_bool RX9 [(0, .int a), (1, .int b)] rfl (by decide) rfl (Nat.le_of_ble_eq_true rfl) rfl bl_or (fun x C => ?_)
  refine G_iload_n C dX9_isBelow_0 rfl ?_
  refine G_if_lt C 13 dX9_isBelow_1 (by decide) (fun h1 => ?_) (fun h1 => ?_)
  · refine G_iconst C (0) dX9_isBelow_13 (by decide) ?_
    exact G_retR C dX9_isBelow_14 (by first | exact (bl_t (by grind)).symm | exact (bl_f (by grind)).symm) rfl
  · refine G_iload_n C dX9_isBelow_4 rfl ?_
    refine G_iload_n C dX9_isBelow_5 rfl ?_
    refine G_icmp_ge C 13 dX9_isBelow_6 (by decide) (fun h6 => ?_) (fun h6 => ?_)
    · refine G_iconst C (0) dX9_isBelow_13 (by decide) ?_
      exact G_retR C dX9_isBelow_14 (by first | exact (bl_t (by grind)).symm | exact (bl_f (by grind)).symm) rfl
    · refine G_iconst C (1) dX9_isBelow_9 (by decide) ?_
      refine G_goto C 14 dX9_isBelow_10 (by decide) ?_
      exact G_retR C dX9_isBelow_14 (by first | exact (bl_t (by grind)).symm | exact (bl_f (by grind)).symm) rfl
set_option maxHeartbeats 4000000 in
set_option maxRecDepth 100000 in
theorem c_X10_isIn {K : Kt} {d : Nat} {M : Mem} {a b c : Int32} : Ri K d mX10_isIn [.int a, .int b, .int c] M (bl (b ≤ a ∧ a ≤ c)) M := by
  refine Ri_bool RX10 [(0, .int a), (1, .int b), (2, .int c)] rfl (by decide) rfl (Nat.le_of_ble_eq_true rfl) rfl bl_or (fun x C => ?_)
  refine G_iload_n C dX10_isIn_0 rfl ?_
  refine G_iload_n C dX10_isIn_1 rfl ?_
  refine G_icmp_lt C 14 dX10_isIn_2 (by decide) (fun h2 => ?_) (fun h2 => ?_)
  · refine G_iconst C (0) dX10_isIn_14 (by decide) ?_
    exact G_retR C dX10_isIn_15 (by first | exact (bl_t (by grind)).symm | exact (bl_f (by grind)).symm) rfl
  · refine G_iload_n C dX10_isIn_5 rfl ?_
    refine G_iload_n C dX10_isIn_6 rfl ?_
    refine G_icmp_gt C 14 dX10_isIn_7 (by decide) (fun h7 => ?_) (fun h7 => ?_)
    · refine G_iconst C (0) dX10_isIn_14 (by decide) ?_
      exact G_retR C dX10_isIn_15 (by first | exact (bl_t (by grind)).symm | exact (bl_f (by grind)).symm) rfl
    · refine G_iconst C (1) dX10_isIn_10 (by decide) ?_
      refine G_goto C 15 dX10_isIn_11 (by decide) ?_
      exact G_retR C dX10_isIn_15 (by first | exact (bl_t (by grind)).symm | exact (bl_f (by grind)).symm) rfl
set_option maxHeartbeats 4000000 in
set_option maxRecDepth 100000 in
theorem c_X9_isWeek {K : Kt} {d : Nat} {M : Mem} {a : Int32} : Ri K (d + 1) mX9_isWeek [.int a] M (bl (0 ≤ a ∧ a < 120)) M := by
  refine Ri_bool RX9 [(0, .int a)] rfl (by decide) rfl (Nat.le_of_ble_eq_true rfl) rfl bl_or (fun x C => ?_)
  refine G_iload_n C dX9_isWeek_0 rfl ?_
  refine G_bipush C (120) dX9_isWeek_1 (by decide) ?_
  refine G_cSr2 C ok_X9_isBelow lk_X9_88 (c_X9_isBelow) (Nat.le_of_ble_eq_true rfl) dX9_isWeek_3 ?_
  exact G_retR C dX9_isWeek_6 rfl rfl
set_option maxHeartbeats 4000000 in
set_option maxRecDepth 100000 in
theorem c_X10_isWeek {K : Kt} {d : Nat} {M : Mem} {a : Int32} : Ri K (d + 1) mX10_isWeek [.int a] M (bl (0 ≤ a ∧ a < 120)) M := by
  refine Ri_bool RX10 [(0, .int a)] rfl (by decide) rfl (Nat.le_of_ble_eq_true rfl) rfl bl_or (fun x C => ?_)
  refine G_iload_n C dX10_isWeek_0 rfl ?_
  refine G_iconst C (0) dX10_isWeek_1 (by decide) ?_
  refine G_bipush C (119) dX10_isWeek_2 (by decide) ?_
  refine G_cSr3 C ok_X10_isIn lk_X10_90 (c_X10_isIn) (Nat.le_of_ble_eq_true rfl) dX10_isWeek_4 ?_
  exact G_retR C dX10_isWeek_7 (bl_c (by grind)) rfl
set_option maxHeartbeats 4000000 in
set_option maxRecDepth 100000 in
theorem c_X9_areNights {K : Kt} {d : Nat} {M : Mem} {a : Int32} : Ri K d mX9_areNights [.int a] M (bl (0 ≤ a ∧ a ≤ 7)) M := by
  refine Ri_bool RX9 [(0, .int a)] rfl (by decide) rfl (Nat.le_of_ble_eq_true rfl) rfl bl_or (fun x C => ?_)
  refine G_iload_n C dX9_areNights_0 rfl ?_
  refine G_if_lt C 14 dX9_areNights_1 (by decide) (fun h1 => ?_) (fun h1 => ?_)
  · refine G_iconst C (0) dX9_areNights_14 (by decide) ?_
    exact G_retR C dX9_areNights_15 (by first | exact (bl_t (by grind)).symm | exact (bl_f (by grind)).symm) rfl
  · refine G_iload_n C dX9_areNights_4 rfl ?_
    refine G_bipush C (7) dX9_areNights_5 (by decide) ?_
    refine G_icmp_gt C 14 dX9_areNights_7 (by decide) (fun h7 => ?_) (fun h7 => ?_)
    · refine G_iconst C (0) dX9_areNights_14 (by decide) ?_
      exact G_retR C dX9_areNights_15 (by first | exact (bl_t (by grind)).symm | exact (bl_f (by grind)).symm) rfl
    · refine G_iconst C (1) dX9_areNights_10 (by decide) ?_
      refine G_goto C 15 dX9_areNights_11 (by decide) ?_
      exact G_retR C dX9_areNights_15 (by first | exact (bl_t (by grind)).symm | exact (bl_f (by grind)).symm) rfl
set_option maxHeartbeats 4000000 in
set_option maxRecDepth 100000 in
theorem c_X9_isPast {K : Kt} {d : Nat} {M : Mem} {a : Int32} : Ri K d mX9_isPast [rf K 0, .int a] M (bl (0 ≤ a ∧ a ≤ M 0 9)) M := by
  refine Ri_bool RX9 [(0, rf K 0), (1, .int a)] rfl (by decide) rfl (Nat.le_of_ble_eq_true rfl) rfl bl_or (fun x C => ?_)
  refine G_iload_n C dX9_isPast_0 rfl ?_
  refine G_if_lt C 16 dX9_isPast_1 (by decide) (fun h1 => ?_) (fun h1 => ?_)
  · refine G_iconst C (0) dX9_isPast_16 (by decide) ?_
    exact G_retR C dX9_isPast_17 (by first | exact (bl_t (by grind)).symm | exact (bl_f (by grind)).symm) rfl
  · refine G_iload_n C dX9_isPast_4 rfl ?_
    refine G_aload_r C dX9_isPast_5 rfl ?_
    refine G_getI C fo_X9_78 rfl rfl dX9_isPast_6 ?_
    refine G_icmp_gt C 16 dX9_isPast_9 (by decide) (fun h9 => ?_) (fun h9 => ?_)
    · refine G_iconst C (0) dX9_isPast_16 (by decide) ?_
      exact G_retR C dX9_isPast_17 (by first | exact (bl_t (by grind)).symm | exact (bl_f (by grind)).symm) rfl
    · refine G_iconst C (1) dX9_isPast_12 (by decide) ?_
      refine G_goto C 17 dX9_isPast_13 (by decide) ?_
      exact G_retR C dX9_isPast_17 (by first | exact (bl_t (by grind)).symm | exact (bl_f (by grind)).symm) rfl
set_option maxHeartbeats 4000000 in
set_option maxRecDepth 100000 in
theorem c_X10_isPast {K : Kt} {d : Nat} {M : Mem} {a : Int32} : Ri K (d + 1) mX10_isPast [rf K 36, .int a] M (bl (0 ≤ a ∧ a ≤ M 36 0)) M := by
  refine Ri_bool RX10 [(0, rf K 36), (1, .int a)] rfl (by decide) rfl (Nat.le_of_ble_eq_true rfl) rfl bl_or (fun x C => ?_)
  refine G_iload_n C dX10_isPast_0 rfl ?_
  refine G_iconst C (0) dX10_isPast_1 (by decide) ?_
  refine G_aload_r C dX10_isPast_2 rfl ?_
  refine G_getI C fo_X10_94 rfl rfl dX10_isPast_3 ?_
  refine G_cSr3 C ok_X10_isIn lk_X10_90 (c_X10_isIn) (Nat.le_of_ble_eq_true rfl) dX10_isPast_6 ?_
  exact G_retR C dX10_isPast_9 rfl rfl
set_option maxHeartbeats 4000000 in
set_option maxRecDepth 100000 in
theorem c_X10_isSide {K : Kt} {d : Nat} {M : Mem} {a : Int32} : Ri K (d + 1) mX10_isSide [.int a] M (bl (a = 0 ∨ a = 1)) M := by
  refine Ri_bool RX10 [(0, .int a)] rfl (by decide) rfl (Nat.le_of_ble_eq_true rfl) rfl bl_or (fun x C => ?_)
  refine G_iload_n C dX10_isSide_0 rfl ?_
  refine G_iconst C (0) dX10_isSide_1 (by decide) ?_
  refine G_iconst C (1) dX10_isSide_2 (by decide) ?_
  refine G_cSr3 C ok_X10_isIn lk_X10_90 (c_X10_isIn) (Nat.le_of_ble_eq_true rfl) dX10_isSide_3 ?_
  exact G_retR C dX10_isSide_6 (bl_c (by grind)) rfl
set_option maxHeartbeats 4000000 in
set_option maxRecDepth 100000 in
theorem c_X10_isSheet {K : Kt} {d : Nat} {M : Mem} {a : Int32} : Ri K (d + 1) mX10_isSheet [.int a] M (bl (a = 0 ∨ a = 1)) M := by
  refine Ri_bool RX10 [(0, .int a)] rfl (by decide) rfl (Nat.le_of_ble_eq_true rfl) rfl bl_or (fun x C => ?_)
  refine G_iload_n C dX10_isSheet_0 rfl ?_
  refine G_iconst C (0) dX10_isSheet_1 (by decide) ?_
  refine G_iconst C (1) dX10_isSheet_2 (by decide) ?_
  refine G_cSr3 C ok_X10_isIn lk_X10_90 (c_X10_isIn) (Nat.le_of_ble_eq_true rfl) dX10_isSheet_3 ?_
  exact G_retR C dX10_isSheet_6 (bl_c (by grind)) rfl
set_option maxHeartbeats 4000000 in
set_option maxRecDepth 100000 in
theorem c_X10_isAsked {K : Kt} {d : Nat} {M : Mem} {a b : Int32} : Ri K (d + 2) mX10_isAsked [rf K 36, .int a, .int b] M (bl ((a = 0 ∨ a = 1) ∧ 0 ≤ b ∧ b ≤ M 36 0)) M := by
  refine Ri_bool RX10 [(0, rf K 36), (1, .int a), (2, .int b)] rfl (by decide) rfl (Nat.le_of_ble_eq_true rfl) rfl bl_or (fun x C => ?_)
  refine G_iload_n C dX10_isAsked_0 rfl ?_
  refine G_cSr1 C ok_X10_isSide lk_X10_206 (c_X10_isSide) (Nat.le_of_ble_eq_true rfl) dX10_isAsked_1 ?_
  refine G_if_eq C 19 dX10_isAsked_4 (by decide) (fun h4 => ?_) (fun h4 => ?_)
  · rw [bl_z] at h4
    refine G_iconst C (0) dX10_isAsked_19 (by decide) ?_
    exact G_retR C dX10_isAsked_20 (by first | exact (bl_t (by grind)).symm | exact (bl_f (by grind)).symm) rfl
  · rw [bl_z] at h4
    refine G_aload_r C dX10_isAsked_7 rfl ?_
    refine G_iload_n C dX10_isAsked_8 rfl ?_
    refine G_cVr1 C ok_X10_isPast lk_X10_123 rfl rfl (c_X10_isPast) (Nat.le_of_ble_eq_true rfl) dX10_isAsked_9 ?_
    refine G_if_eq C 19 dX10_isAsked_12 (by decide) (fun h12 => ?_) (fun h12 => ?_)
    · rw [bl_z] at h12
      refine G_iconst C (0) dX10_isAsked_19 (by decide) ?_
      exact G_retR C dX10_isAsked_20 (by first | exact (bl_t (by grind)).symm | exact (bl_f (by grind)).symm) rfl
    · rw [bl_z] at h12
      refine G_iconst C (1) dX10_isAsked_15 (by decide) ?_
      refine G_goto C 20 dX10_isAsked_16 (by decide) ?_
      exact G_retR C dX10_isAsked_20 (by first | exact (bl_t (by grind)).symm | exact (bl_f (by grind)).symm) rfl
def okv (k v : Int32) : Prop := (k = 0 ∧ 0 ≤ v ∧ v ≤ 5) ∨ (k = 2 ∧ (v = 1 ∨ v = -1)) ∨ ((k = 1 ∨ k = 3) ∧ 0 ≤ v ∧ v ≤ 100000)
def okb (k v : Int32) : Bool := bif decide (k = 0) then decide (0 ≤ v ∧ v ≤ 5) else bif decide (k = 2) then decide (v = 1 ∨ v = -1) else bif decide (k = 1 ∨ k = 3) then decide (0 ≤ v ∧ v ≤ 100000) else false
theorem sw_3 (v : Int32) : (v.toInt < 0 ∨ 3 < v.toInt) ∨ v = 0 ∨ v = 1 ∨ v = 2 ∨ v = 3 := by
  simp only [fa_eq]
  rw [show (0 : Int32).toInt = 0 from rfl, show (1 : Int32).toInt = 1 from rfl, show (2 : Int32).toInt = 2 from rfl, show (3 : Int32).toInt = 3 from rfl]
  omega
theorem sw_no {v : Int32} {n : Int} (h : v.toInt < 0 ∨ n < v.toInt) {c : Int32} (h1 : 0 ≤ c.toInt) (h2 : c.toInt ≤ n) : ¬ v = c := fun e => by
  subst e
  omega
set_option maxHeartbeats 4000000 in
set_option maxRecDepth 100000 in
theorem c_X2_mayHold {K : Kt} {d : Nat} {M : Mem} {a b : Int32} : Ri K d mX2_mayHold [.int a, .int b] M (bl (okb a b = true)) M := by
  refine Ri_bool RX2 [(0, .int a), (1, .int b)] rfl (by decide) rfl (Nat.le_of_ble_eq_true rfl) rfl bl_or (fun x C => ?_)
  refine G_iload_n C dX2_mayHold_0 rfl ?_
  rcases (sw_3 a) with hsw | hsw | hsw | hsw | hsw
  · refine G_tableOut C 79 dX2_mayHold_1 hsw (by decide) ?_
    refine G_iconst C (0) dX2_mayHold_79 (by decide) ?_
    exact G_retR C dX2_mayHold_80 (by first | (subst hsw; simp [okb, bl]; done) | (subst hsw; simp [okb, bl]; grind) | (subst hsw; exact bl_c (by simp [okb])) | (simp [okb, bl, sw_no hsw (c := 0) (by decide) (by decide), sw_no hsw (c := 1) (by decide) (by decide), sw_no hsw (c := 2) (by decide) (by decide), sw_no hsw (c := 3) (by decide) (by decide)])) rfl
  · refine G_tableIn C (31) 32 dX2_mayHold_1 (by rw [hsw]; decide) (by rw [hsw]; decide) (by rw [hsw]; rfl) (by decide) ?_
    refine G_iload_n C dX2_mayHold_32 rfl ?_
    refine G_if_lt C 45 dX2_mayHold_33 (by decide) (fun h33 => ?_) (fun h33 => ?_)
    · refine G_iconst C (0) dX2_mayHold_45 (by decide) ?_
      exact G_retR C dX2_mayHold_46 (by first | (subst hsw; simp [okb, bl]; done) | (subst hsw; simp [okb, bl]; grind) | (subst hsw; exact bl_c (by simp [okb])) | (simp [okb, bl, sw_no hsw (c := 0) (by decide) (by decide), sw_no hsw (c := 1) (by decide) (by decide), sw_no hsw (c := 2) (by decide) (by decide), sw_no hsw (c := 3) (by decide) (by decide)])) rfl
    · refine G_iload_n C dX2_mayHold_36 rfl ?_
      refine G_iconst C (5) dX2_mayHold_37 (by decide) ?_
      refine G_icmp_gt C 45 dX2_mayHold_38 (by decide) (fun h38 => ?_) (fun h38 => ?_)
      · refine G_iconst C (0) dX2_mayHold_45 (by decide) ?_
        exact G_retR C dX2_mayHold_46 (by first | (subst hsw; simp [okb, bl]; done) | (subst hsw; simp [okb, bl]; grind) | (subst hsw; exact bl_c (by simp [okb])) | (simp [okb, bl, sw_no hsw (c := 0) (by decide) (by decide), sw_no hsw (c := 1) (by decide) (by decide), sw_no hsw (c := 2) (by decide) (by decide), sw_no hsw (c := 3) (by decide) (by decide)])) rfl
      · refine G_iconst C (1) dX2_mayHold_41 (by decide) ?_
        refine G_goto C 46 dX2_mayHold_42 (by decide) ?_
        exact G_retR C dX2_mayHold_46 (by first | (subst hsw; simp [okb, bl]; done) | (subst hsw; simp [okb, bl]; grind) | (subst hsw; exact bl_c (by simp [okb])) | (simp [okb, bl, sw_no hsw (c := 0) (by decide) (by decide), sw_no hsw (c := 1) (by decide) (by decide), sw_no hsw (c := 2) (by decide) (by decide), sw_no hsw (c := 3) (by decide) (by decide)])) rfl
  · refine G_tableIn C (46) 47 dX2_mayHold_1 (by rw [hsw]; decide) (by rw [hsw]; decide) (by rw [hsw]; rfl) (by decide) ?_
    refine G_iload_n C dX2_mayHold_47 rfl ?_
    refine G_if_lt C 61 dX2_mayHold_48 (by decide) (fun h48 => ?_) (fun h48 => ?_)
    · refine G_iconst C (0) dX2_mayHold_61 (by decide) ?_
      exact G_retR C dX2_mayHold_62 (by first | (subst hsw; simp [okb, bl]; done) | (subst hsw; simp [okb, bl]; grind) | (subst hsw; exact bl_c (by simp [okb])) | (simp [okb, bl, sw_no hsw (c := 0) (by decide) (by decide), sw_no hsw (c := 1) (by decide) (by decide), sw_no hsw (c := 2) (by decide) (by decide), sw_no hsw (c := 3) (by decide) (by decide)])) rfl
    · refine G_iload_n C dX2_mayHold_51 rfl ?_
      refine G_ldc C kc_X2_27 dX2_mayHold_52 ?_
      refine G_icmp_gt C 61 dX2_mayHold_54 (by decide) (fun h54 => ?_) (fun h54 => ?_)
      · refine G_iconst C (0) dX2_mayHold_61 (by decide) ?_
        exact G_retR C dX2_mayHold_62 (by first | (subst hsw; simp [okb, bl]; done) | (subst hsw; simp [okb, bl]; grind) | (subst hsw; exact bl_c (by simp [okb])) | (simp [okb, bl, sw_no hsw (c := 0) (by decide) (by decide), sw_no hsw (c := 1) (by decide) (by decide), sw_no hsw (c := 2) (by decide) (by decide), sw_no hsw (c := 3) (by decide) (by decide)])) rfl
      · refine G_iconst C (1) dX2_mayHold_57 (by decide) ?_
        refine G_goto C 62 dX2_mayHold_58 (by decide) ?_
        exact G_retR C dX2_mayHold_62 (by first | (subst hsw; simp [okb, bl]; done) | (subst hsw; simp [okb, bl]; grind) | (subst hsw; exact bl_c (by simp [okb])) | (simp [okb, bl, sw_no hsw (c := 0) (by decide) (by decide), sw_no hsw (c := 1) (by decide) (by decide), sw_no hsw (c := 2) (by decide) (by decide), sw_no hsw (c := 3) (by decide) (by decide)])) rfl
  · refine G_tableIn C (62) 63 dX2_mayHold_1 (by rw [hsw]; decide) (by rw [hsw]; decide) (by rw [hsw]; rfl) (by decide) ?_
    refine G_iload_n C dX2_mayHold_63 rfl ?_
    refine G_iconst C (1) dX2_mayHold_64 (by decide) ?_
    refine G_icmp_eq C 73 dX2_mayHold_65 (by decide) (fun h65 => ?_) (fun h65 => ?_)
    · refine G_iconst C (1) dX2_mayHold_73 (by decide) ?_
      refine G_goto C 78 dX2_mayHold_74 (by decide) ?_
      exact G_retR C dX2_mayHold_78 (by first | (subst hsw; simp [okb, bl]; done) | (subst hsw; simp [okb, bl]; grind) | (subst hsw; exact bl_c (by simp [okb])) | (simp [okb, bl, sw_no hsw (c := 0) (by decide) (by decide), sw_no hsw (c := 1) (by decide) (by decide), sw_no hsw (c := 2) (by decide) (by decide), sw_no hsw (c := 3) (by decide) (by decide)])) rfl
    · refine G_iload_n C dX2_mayHold_68 rfl ?_
      refine G_iconst C (-1) dX2_mayHold_69 (by decide) ?_
      refine G_icmp_ne C 77 dX2_mayHold_70 (by decide) (fun h70 => ?_) (fun h70 => ?_)
      · refine G_iconst C (0) dX2_mayHold_77 (by decide) ?_
        exact G_retR C dX2_mayHold_78 (by first | (subst hsw; simp [okb, bl]; done) | (subst hsw; simp [okb, bl]; grind) | (subst hsw; exact bl_c (by simp [okb])) | (simp [okb, bl, sw_no hsw (c := 0) (by decide) (by decide), sw_no hsw (c := 1) (by decide) (by decide), sw_no hsw (c := 2) (by decide) (by decide), sw_no hsw (c := 3) (by decide) (by decide)])) rfl
      · refine G_iconst C (1) dX2_mayHold_73 (by decide) ?_
        refine G_goto C 78 dX2_mayHold_74 (by decide) ?_
        exact G_retR C dX2_mayHold_78 (by first | (subst hsw; simp [okb, bl]; done) | (subst hsw; simp [okb, bl]; grind) | (subst hsw; exact bl_c (by simp [okb])) | (simp [okb, bl, sw_no hsw (c := 0) (by decide) (by decide), sw_no hsw (c := 1) (by decide) (by decide), sw_no hsw (c := 2) (by decide) (by decide), sw_no hsw (c := 3) (by decide) (by decide)])) rfl
  · refine G_tableIn C (46) 47 dX2_mayHold_1 (by rw [hsw]; decide) (by rw [hsw]; decide) (by rw [hsw]; rfl) (by decide) ?_
    refine G_iload_n C dX2_mayHold_47 rfl ?_
    refine G_if_lt C 61 dX2_mayHold_48 (by decide) (fun h48 => ?_) (fun h48 => ?_)
    · refine G_iconst C (0) dX2_mayHold_61 (by decide) ?_
      exact G_retR C dX2_mayHold_62 (by first | (subst hsw; simp [okb, bl]; done) | (subst hsw; simp [okb, bl]; grind) | (subst hsw; exact bl_c (by simp [okb])) | (simp [okb, bl, sw_no hsw (c := 0) (by decide) (by decide), sw_no hsw (c := 1) (by decide) (by decide), sw_no hsw (c := 2) (by decide) (by decide), sw_no hsw (c := 3) (by decide) (by decide)])) rfl
    · refine G_iload_n C dX2_mayHold_51 rfl ?_
      refine G_ldc C kc_X2_27 dX2_mayHold_52 ?_
      refine G_icmp_gt C 61 dX2_mayHold_54 (by decide) (fun h54 => ?_) (fun h54 => ?_)
      · refine G_iconst C (0) dX2_mayHold_61 (by decide) ?_
        exact G_retR C dX2_mayHold_62 (by first | (subst hsw; simp [okb, bl]; done) | (subst hsw; simp [okb, bl]; grind) | (subst hsw; exact bl_c (by simp [okb])) | (simp [okb, bl, sw_no hsw (c := 0) (by decide) (by decide), sw_no hsw (c := 1) (by decide) (by decide), sw_no hsw (c := 2) (by decide) (by decide), sw_no hsw (c := 3) (by decide) (by decide)])) rfl
      · refine G_iconst C (1) dX2_mayHold_57 (by decide) ?_
        refine G_goto C 62 dX2_mayHold_58 (by decide) ?_
        exact G_retR C dX2_mayHold_62 (by first | (subst hsw; simp [okb, bl]; done) | (subst hsw; simp [okb, bl]; grind) | (subst hsw; exact bl_c (by simp [okb])) | (simp [okb, bl, sw_no hsw (c := 0) (by decide) (by decide), sw_no hsw (c := 1) (by decide) (by decide), sw_no hsw (c := 2) (by decide) (by decide), sw_no hsw (c := 3) (by decide) (by decide)])) rfl
set_option maxHeartbeats 4000000 in
set_option maxRecDepth 100000 in
theorem c_X10_isValue {K : Kt} {d : Nat} {M : Mem} {a b : Int32} : Ri K (d + 1) mX10_isValue [.int a, .int b] M (bl (okb a b = true)) M := by
  refine Ri_bool RX10 [(0, .int a), (1, .int b)] rfl (by decide) rfl (Nat.le_of_ble_eq_true rfl) rfl bl_or (fun x C => ?_)
  refine G_iload_n C dX10_isValue_0 rfl ?_
  rcases (sw_3 a) with hsw | hsw | hsw | hsw | hsw
  · refine G_tableOut C 63 dX10_isValue_1 hsw (by decide) ?_
    refine G_iconst C (0) dX10_isValue_63 (by decide) ?_
    exact G_retR C dX10_isValue_64 (by first | (subst hsw; simp [okb, bl]; done) | (subst hsw; simp [okb, bl]; grind) | (subst hsw; exact bl_c (by simp [okb])) | (simp [okb, bl, sw_no hsw (c := 0) (by decide) (by decide), sw_no hsw (c := 1) (by decide) (by decide), sw_no hsw (c := 2) (by decide) (by decide), sw_no hsw (c := 3) (by decide) (by decide)])) rfl
  · refine G_tableIn C (31) 32 dX10_isValue_1 (by rw [hsw]; decide) (by rw [hsw]; decide) (by rw [hsw]; rfl) (by decide) ?_
    refine G_iload_n C dX10_isValue_32 rfl ?_
    refine G_iconst C (0) dX10_isValue_33 (by decide) ?_
    refine G_iconst C (5) dX10_isValue_34 (by decide) ?_
    refine G_cSr3 C ok_X10_isIn lk_X10_90 (c_X10_isIn) (Nat.le_of_ble_eq_true rfl) dX10_isValue_35 ?_
    exact G_retR C dX10_isValue_38 (by first | (subst hsw; simp [okb, bl]; done) | (subst hsw; simp [okb, bl]; grind) | (subst hsw; exact bl_c (by simp [okb])) | (simp [okb, bl, sw_no hsw (c := 0) (by decide) (by decide), sw_no hsw (c := 1) (by decide) (by decide), sw_no hsw (c := 2) (by decide) (by decide), sw_no hsw (c := 3) (by decide) (by decide)])) rfl
  · refine G_tableIn C (54) 55 dX10_isValue_1 (by rw [hsw]; decide) (by rw [hsw]; decide) (by rw [hsw]; rfl) (by decide) ?_
    refine G_iload_n C dX10_isValue_55 rfl ?_
    refine G_iconst C (0) dX10_isValue_56 (by decide) ?_
    refine G_ldc C kc_X10_97 dX10_isValue_57 ?_
    refine G_cSr3 C ok_X10_isIn lk_X10_90 (c_X10_isIn) (Nat.le_of_ble_eq_true rfl) dX10_isValue_59 ?_
    exact G_retR C dX10_isValue_62 (by first | (subst hsw; simp [okb, bl]; done) | (subst hsw; simp [okb, bl]; grind) | (subst hsw; exact bl_c (by simp [okb])) | (simp [okb, bl, sw_no hsw (c := 0) (by decide) (by decide), sw_no hsw (c := 1) (by decide) (by decide), sw_no hsw (c := 2) (by decide) (by decide), sw_no hsw (c := 3) (by decide) (by decide)])) rfl
  · refine G_tableIn C (38) 39 dX10_isValue_1 (by rw [hsw]; decide) (by rw [hsw]; decide) (by rw [hsw]; rfl) (by decide) ?_
    refine G_iload_n C dX10_isValue_39 rfl ?_
    refine G_iconst C (1) dX10_isValue_40 (by decide) ?_
    refine G_icmp_eq C 49 dX10_isValue_41 (by decide) (fun h41 => ?_) (fun h41 => ?_)
    · refine G_iconst C (1) dX10_isValue_49 (by decide) ?_
      refine G_goto C 54 dX10_isValue_50 (by decide) ?_
      exact G_retR C dX10_isValue_54 (by first | (subst hsw; simp [okb, bl]; done) | (subst hsw; simp [okb, bl]; grind) | (subst hsw; exact bl_c (by simp [okb])) | (simp [okb, bl, sw_no hsw (c := 0) (by decide) (by decide), sw_no hsw (c := 1) (by decide) (by decide), sw_no hsw (c := 2) (by decide) (by decide), sw_no hsw (c := 3) (by decide) (by decide)])) rfl
    · refine G_iload_n C dX10_isValue_44 rfl ?_
      refine G_iconst C (-1) dX10_isValue_45 (by decide) ?_
      refine G_icmp_ne C 53 dX10_isValue_46 (by decide) (fun h46 => ?_) (fun h46 => ?_)
      · refine G_iconst C (0) dX10_isValue_53 (by decide) ?_
        exact G_retR C dX10_isValue_54 (by first | (subst hsw; simp [okb, bl]; done) | (subst hsw; simp [okb, bl]; grind) | (subst hsw; exact bl_c (by simp [okb])) | (simp [okb, bl, sw_no hsw (c := 0) (by decide) (by decide), sw_no hsw (c := 1) (by decide) (by decide), sw_no hsw (c := 2) (by decide) (by decide), sw_no hsw (c := 3) (by decide) (by decide)])) rfl
      · refine G_iconst C (1) dX10_isValue_49 (by decide) ?_
        refine G_goto C 54 dX10_isValue_50 (by decide) ?_
        exact G_retR C dX10_isValue_54 (by first | (subst hsw; simp [okb, bl]; done) | (subst hsw; simp [okb, bl]; grind) | (subst hsw; exact bl_c (by simp [okb])) | (simp [okb, bl, sw_no hsw (c := 0) (by decide) (by decide), sw_no hsw (c := 1) (by decide) (by decide), sw_no hsw (c := 2) (by decide) (by decide), sw_no hsw (c := 3) (by decide) (by decide)])) rfl
  · refine G_tableIn C (54) 55 dX10_isValue_1 (by rw [hsw]; decide) (by rw [hsw]; decide) (by rw [hsw]; rfl) (by decide) ?_
    refine G_iload_n C dX10_isValue_55 rfl ?_
    refine G_iconst C (0) dX10_isValue_56 (by decide) ?_
    refine G_ldc C kc_X10_97 dX10_isValue_57 ?_
    refine G_cSr3 C ok_X10_isIn lk_X10_90 (c_X10_isIn) (Nat.le_of_ble_eq_true rfl) dX10_isValue_59 ?_
    exact G_retR C dX10_isValue_62 (by first | (subst hsw; simp [okb, bl]; done) | (subst hsw; simp [okb, bl]; grind) | (subst hsw; exact bl_c (by simp [okb])) | (simp [okb, bl, sw_no hsw (c := 0) (by decide) (by decide), sw_no hsw (c := 1) (by decide) (by decide), sw_no hsw (c := 2) (by decide) (by decide), sw_no hsw (c := 3) (by decide) (by decide)])) rfl
set_option maxHeartbeats 4000000 in
set_option maxRecDepth 100000 in
theorem c_X2_has {K : Kt} {d : Nat} {M : Mem} {a : Int32} : Ri K (d + 1) mX2_has [rf K 1, .int a] M (bl (0 ≤ a ∧ a < M 1 5)) M := by
  refine Ri_bool RX2 [(0, rf K 1), (1, .int a)] rfl (by decide) rfl (Nat.le_of_ble_eq_true rfl) rfl bl_or (fun x C => ?_)
  refine G_iload_n C dX2_has_0 rfl ?_
  refine G_aload_r C dX2_has_1 rfl ?_
  refine G_getI C fo_X2_28 rfl rfl dX2_has_2 ?_
  refine G_cNr2 C ok_X9_isBelow lk_X2_33 (c_X9_isBelow) (Nat.le_of_ble_eq_true rfl) dX2_has_5 ?_
  exact G_retR C dX2_has_8 rfl rfl
set_option maxHeartbeats 4000000 in
set_option maxRecDepth 100000 in
theorem c_X10_isChange {K : Kt} {d : Nat} {M : Mem} {a : Int32} (h0 : 0 ≤ M 36 1) : Ri K (d + 1) mX10_isChange [rf K 36, .int a] M (bl (0 ≤ a ∧ a < M 36 1)) M := by
  refine Ri_bool RX10 [(0, rf K 36), (1, .int a)] rfl (by decide) rfl (Nat.le_of_ble_eq_true rfl) rfl bl_or (fun x C => ?_)
  refine G_iload_n C dX10_isChange_0 rfl ?_
  refine G_iconst C (0) dX10_isChange_1 (by decide) ?_
  refine G_aload_r C dX10_isChange_2 rfl ?_
  refine G_getI C fo_X10_107 rfl rfl dX10_isChange_3 ?_
  refine G_iconst C (1) dX10_isChange_6 (by decide) ?_
  refine G_isub C dX10_isChange_7 ?_
  refine G_cSr3 C ok_X10_isIn lk_X10_90 (c_X10_isIn) (Nat.le_of_ble_eq_true rfl) dX10_isChange_8 ?_
  exact G_retR C dX10_isChange_11 (bl_c (by grind)) rfl
set_option maxHeartbeats 4000000 in
set_option maxRecDepth 100000 in
theorem c_X2_isOfKind {K : Kt} {d : Nat} {M : Mem} {j : Nat} {k : Int32} (hj : j < 80) : Ri K d mX2_isOfKind [rf K 1, .int (nI j), .int k] M (bl (k = 0 ∨ M 2 j = k ∨ (k = 1 ∧ M 2 j = 3))) M := by
  refine Ri_bool RX2 [(0, rf K 1), (1, .int (nI j)), (2, .int k)] rfl (by decide) rfl (Nat.le_of_ble_eq_true rfl) rfl bl_or (fun x C => ?_)
  refine G_aload_r C dX2_isOfKind_0 rfl ?_
  refine G_getR C fo_X2_9 rfl rfl dX2_isOfKind_1 ?_
  refine G_iload_n C dX2_isOfKind_4 rfl ?_
  refine G_ialdN C rfl (by assumption) (by decide) dX2_isOfKind_5 ?_
  refine G_istore_n C dX2_isOfKind_6 (by decide) ?_
  refine G_iload_n C dX2_isOfKind_7 rfl ?_
  refine G_if_eq C 26 dX2_isOfKind_8 (by decide) (fun h8 => ?_) (fun h8 => ?_)
  · refine G_iconst C (1) dX2_isOfKind_26 (by decide) ?_
    refine G_goto C 31 dX2_isOfKind_27 (by decide) ?_
    exact G_retR C dX2_isOfKind_31 (by first | exact (bl_t (by grind)).symm | exact (bl_f (by grind)).symm) rfl
  · refine G_iload_n C dX2_isOfKind_11 rfl ?_
    refine G_iload_n C dX2_isOfKind_12 rfl ?_
    refine G_icmp_eq C 26 dX2_isOfKind_13 (by decide) (fun h13 => ?_) (fun h13 => ?_)
    · refine G_iconst C (1) dX2_isOfKind_26 (by decide) ?_
      refine G_goto C 31 dX2_isOfKind_27 (by decide) ?_
      exact G_retR C dX2_isOfKind_31 (by first | exact (bl_t (by grind)).symm | exact (bl_f (by grind)).symm) rfl
    · refine G_iload_n C dX2_isOfKind_16 rfl ?_
      refine G_iconst C (1) dX2_isOfKind_17 (by decide) ?_
      refine G_icmp_ne C 30 dX2_isOfKind_18 (by decide) (fun h18 => ?_) (fun h18 => ?_)
      · refine G_iconst C (0) dX2_isOfKind_30 (by decide) ?_
        exact G_retR C dX2_isOfKind_31 (by first | exact (bl_t (by grind)).symm | exact (bl_f (by grind)).symm) rfl
      · refine G_iload_n C dX2_isOfKind_21 rfl ?_
        refine G_iconst C (3) dX2_isOfKind_22 (by decide) ?_
        refine G_icmp_ne C 30 dX2_isOfKind_23 (by decide) (fun h23 => ?_) (fun h23 => ?_)
        · refine G_iconst C (0) dX2_isOfKind_30 (by decide) ?_
          exact G_retR C dX2_isOfKind_31 (by first | exact (bl_t (by grind)).symm | exact (bl_f (by grind)).symm) rfl
        · refine G_iconst C (1) dX2_isOfKind_26 (by decide) ?_
          refine G_goto C 31 dX2_isOfKind_27 (by decide) ?_
          exact G_retR C dX2_isOfKind_31 (by first | exact (bl_t (by grind)).symm | exact (bl_f (by grind)).symm) rfl
def xhold (M : Mem) (k w : Int32) (j : Nat) : Bool := decide (M 4 j ≤ w ∧ M 5 j ≤ k ∧ (M 6 j = (-2000000005) ∨ k < M 6 j))
def mhold (M : Mem) (k w : Int32) (j : Nat) : Bool := decide (M 39 j ≤ w ∧ M 40 j ≤ k ∧ (M 41 j < 0 ∨ k < M 41 j))
set_option maxHeartbeats 4000000 in
set_option maxRecDepth 100000 in
theorem c_X2_counts {K : Kt} {d : Nat} {M : Mem} {j : Nat} {k w : Int32} (hj : j < 80) : Ri K d mX2_counts [rf K 1, .int (nI j), .int k, .int w] M (bl (xhold M k w j = true)) M := by
  refine Ri_bool RX2 [(0, rf K 1), (1, .int (nI j)), (2, .int k), (3, .int w)] rfl (by decide) rfl (Nat.le_of_ble_eq_true rfl) rfl bl_or (fun x C => ?_)
  refine G_aload_r C dX2_counts_0 rfl ?_
  refine G_getR C fo_X2_18 rfl rfl dX2_counts_1 ?_
  refine G_iload_n C dX2_counts_4 rfl ?_
  refine G_ialdN C rfl (by assumption) (by decide) dX2_counts_5 ?_
  refine G_iload_n C dX2_counts_6 rfl ?_
  refine G_icmp_gt C 45 dX2_counts_7 (by decide) (fun h7 => ?_) (fun h7 => ?_)
  · refine G_iconst C (0) dX2_counts_45 (by decide) ?_
    exact G_retR C dX2_counts_46 (by first | exact (bl_t (by simp only [xhold, mhold]; simp; grind)).symm | exact (bl_f (by simp only [xhold, mhold]; simp; grind)).symm) rfl
  · refine G_aload_r C dX2_counts_10 rfl ?_
    refine G_getR C fo_X2_21 rfl rfl dX2_counts_11 ?_
    refine G_iload_n C dX2_counts_14 rfl ?_
    refine G_ialdN C rfl (by assumption) (by decide) dX2_counts_15 ?_
    refine G_iload_n C dX2_counts_16 rfl ?_
    refine G_icmp_gt C 45 dX2_counts_17 (by decide) (fun h17 => ?_) (fun h17 => ?_)
    · refine G_iconst C (0) dX2_counts_45 (by decide) ?_
      exact G_retR C dX2_counts_46 (by first | exact (bl_t (by simp only [xhold, mhold]; simp; grind)).symm | exact (bl_f (by simp only [xhold, mhold]; simp; grind)).symm) rfl
    · refine G_aload_r C dX2_counts_20 rfl ?_
      refine G_getR C fo_X2_24 rfl rfl dX2_counts_21 ?_
      refine G_iload_n C dX2_counts_24 rfl ?_
      refine G_ialdN C rfl (by assumption) (by decide) dX2_counts_25 ?_
      refine G_ldc C kc_X2_32 dX2_counts_26 ?_
      refine G_icmp_eq C 41 dX2_counts_28 (by decide) (fun h28 => ?_) (fun h28 => ?_)
      · refine G_iconst C (1) dX2_counts_41 (by decide) ?_
        refine G_goto C 46 dX2_counts_42 (by decide) ?_
        exact G_retR C dX2_counts_46 (by first | exact (bl_t (by simp only [xhold, mhold]; simp; grind)).symm | exact (bl_f (by simp only [xhold, mhold]; simp; grind)).symm) rfl
      · refine G_aload_r C dX2_counts_31 rfl ?_
        refine G_getR C fo_X2_24 rfl rfl dX2_counts_32 ?_
        refine G_iload_n C dX2_counts_35 rfl ?_
        refine G_ialdN C rfl (by assumption) (by decide) dX2_counts_36 ?_
        refine G_iload_n C dX2_counts_37 rfl ?_
        refine G_icmp_le C 45 dX2_counts_38 (by decide) (fun h38 => ?_) (fun h38 => ?_)
        · refine G_iconst C (0) dX2_counts_45 (by decide) ?_
          exact G_retR C dX2_counts_46 (by first | exact (bl_t (by simp only [xhold, mhold]; simp; grind)).symm | exact (bl_f (by simp only [xhold, mhold]; simp; grind)).symm) rfl
        · refine G_iconst C (1) dX2_counts_41 (by decide) ?_
          refine G_goto C 46 dX2_counts_42 (by decide) ?_
          exact G_retR C dX2_counts_46 (by first | exact (bl_t (by simp only [xhold, mhold]; simp; grind)).symm | exact (bl_f (by simp only [xhold, mhold]; simp; grind)).symm) rfl
set_option maxHeartbeats 4000000 in
set_option maxRecDepth 100000 in
theorem c_X10_holds {K : Kt} {d : Nat} {M : Mem} {j : Nat} {k w : Int32} (hj : j < 80) : Ri K d mX10_holds [rf K 36, .int (nI j), .int k, .int w] M (bl (mhold M k w j = true)) M := by
  refine Ri_bool RX10 [(0, rf K 36), (1, .int (nI j)), (2, .int k), (3, .int w)] rfl (by decide) rfl (Nat.le_of_ble_eq_true rfl) rfl bl_or (fun x C => ?_)
  refine G_aload_r C dX10_holds_0 rfl ?_
  refine G_getR C fo_X10_19 rfl rfl dX10_holds_1 ?_
  refine G_iload_n C dX10_holds_4 rfl ?_
  refine G_ialdN C rfl (by assumption) (by decide) dX10_holds_5 ?_
  refine G_iload_n C dX10_holds_6 rfl ?_
  refine G_icmp_gt C 43 dX10_holds_7 (by decide) (fun h7 => ?_) (fun h7 => ?_)
  · refine G_iconst C (0) dX10_holds_43 (by decide) ?_
    exact G_retR C dX10_holds_44 (by first | exact (bl_t (by simp only [xhold, mhold]; simp; grind)).symm | exact (bl_f (by simp only [xhold, mhold]; simp; grind)).symm) rfl
  · refine G_aload_r C dX10_holds_10 rfl ?_
    refine G_getR C fo_X10_22 rfl rfl dX10_holds_11 ?_
    refine G_iload_n C dX10_holds_14 rfl ?_
    refine G_ialdN C rfl (by assumption) (by decide) dX10_holds_15 ?_
    refine G_if_lt C 29 dX10_holds_16 (by decide) (fun h16 => ?_) (fun h16 => ?_)
    · refine G_aload_r C dX10_holds_29 rfl ?_
      refine G_getR C fo_X10_16 rfl rfl dX10_holds_30 ?_
      refine G_iload_n C dX10_holds_33 rfl ?_
      refine G_ialdN C rfl (by assumption) (by decide) dX10_holds_34 ?_
      refine G_iload_n C dX10_holds_35 rfl ?_
      refine G_icmp_gt C 43 dX10_holds_36 (by decide) (fun h36 => ?_) (fun h36 => ?_)
      · refine G_iconst C (0) dX10_holds_43 (by decide) ?_
        exact G_retR C dX10_holds_44 (by first | exact (bl_t (by simp only [xhold, mhold]; simp; grind)).symm | exact (bl_f (by simp only [xhold, mhold]; simp; grind)).symm) rfl
      · refine G_iconst C (1) dX10_holds_39 (by decide) ?_
        refine G_goto C 44 dX10_holds_40 (by decide) ?_
        exact G_retR C dX10_holds_44 (by first | exact (bl_t (by simp only [xhold, mhold]; simp; grind)).symm | exact (bl_f (by simp only [xhold, mhold]; simp; grind)).symm) rfl
    · refine G_aload_r C dX10_holds_19 rfl ?_
      refine G_getR C fo_X10_22 rfl rfl dX10_holds_20 ?_
      refine G_iload_n C dX10_holds_23 rfl ?_
      refine G_ialdN C rfl (by assumption) (by decide) dX10_holds_24 ?_
      refine G_iload_n C dX10_holds_25 rfl ?_
      refine G_icmp_le C 43 dX10_holds_26 (by decide) (fun h26 => ?_) (fun h26 => ?_)
      · refine G_iconst C (0) dX10_holds_43 (by decide) ?_
        exact G_retR C dX10_holds_44 (by first | exact (bl_t (by simp only [xhold, mhold]; simp; grind)).symm | exact (bl_f (by simp only [xhold, mhold]; simp; grind)).symm) rfl
      · refine G_aload_r C dX10_holds_29 rfl ?_
        refine G_getR C fo_X10_16 rfl rfl dX10_holds_30 ?_
        refine G_iload_n C dX10_holds_33 rfl ?_
        refine G_ialdN C rfl (by assumption) (by decide) dX10_holds_34 ?_
        refine G_iload_n C dX10_holds_35 rfl ?_
        refine G_icmp_gt C 43 dX10_holds_36 (by decide) (fun h36 => ?_) (fun h36 => ?_)
        · refine G_iconst C (0) dX10_holds_43 (by decide) ?_
          exact G_retR C dX10_holds_44 (by first | exact (bl_t (by simp only [xhold, mhold]; simp; grind)).symm | exact (bl_f (by simp only [xhold, mhold]; simp; grind)).symm) rfl
        · refine G_iconst C (1) dX10_holds_39 (by decide) ?_
          refine G_goto C 44 dX10_holds_40 (by decide) ?_
          exact G_retR C dX10_holds_44 (by first | exact (bl_t (by simp only [xhold, mhold]; simp; grind)).symm | exact (bl_f (by simp only [xhold, mhold]; simp; grind)).symm) rfl
def payb (set : Int32) (mk : Nat → Int32) (j : Nat) : Bool := decide (set >>> (mk j &&& 31) &&& 1 = 1)
set_option maxHeartbeats 4000000 in
set_option maxRecDepth 100000 in
theorem c_X1_isPay {K : Kt} {d : Nat} {M : Mem} {j : Nat} (hj : j < 100) : Ri K d mX1_isPay [rf K 28, .int (nI j)] M (bl (payb (M 28 4) (M 31) j = true)) M := by
  refine Ri_bool RX1 [(0, rf K 28), (1, .int (nI j))] rfl (by decide) rfl (Nat.le_of_ble_eq_true rfl) rfl bl_or (fun x C => ?_)
  refine G_aload_r C dX1_isPay_0 rfl ?_
  refine G_getI C fo_X1_21 rfl rfl dX1_isPay_1 ?_
  refine G_aload_r C dX1_isPay_4 rfl ?_
  refine G_getR C fo_X1_18 rfl rfl dX1_isPay_5 ?_
  refine G_iload_n C dX1_isPay_8 rfl ?_
  refine G_ialdN C rfl (by assumption) (by decide) dX1_isPay_9 ?_
  refine G_ishr C dX1_isPay_10 ?_
  refine G_iconst C (1) dX1_isPay_11 (by decide) ?_
  refine G_iand C dX1_isPay_12 ?_
  refine G_iconst C (1) dX1_isPay_13 (by decide) ?_
  refine G_icmp_ne C 21 dX1_isPay_14 (by decide) (fun h14 => ?_) (fun h14 => ?_)
  · refine G_iconst C (0) dX1_isPay_21 (by decide) ?_
    exact G_retR C dX1_isPay_22 (by first | exact (bl_t (by simp only [payb]; simp; assumption)).symm | exact (bl_f (by simp only [payb]; simp; assumption)).symm) rfl
  · refine G_iconst C (1) dX1_isPay_17 (by decide) ?_
    refine G_goto C 22 dX1_isPay_18 (by decide) ?_
    exact G_retR C dX1_isPay_22 (by first | exact (bl_t (by simp only [payb]; simp; assumption)).symm | exact (bl_f (by simp only [payb]; simp; assumption)).symm) rfl
set_option maxHeartbeats 4000000 in
set_option maxRecDepth 100000 in
theorem c_X10_isPay {K : Kt} {d : Nat} {M : Mem} {j : Nat} (hj : j < 100) : Ri K d mX10_isPay [rf K 36, .int (nI j)] M (bl (payb (M 36 22) (M 54) j = true)) M := by
  refine Ri_bool RX10 [(0, rf K 36), (1, .int (nI j))] rfl (by decide) rfl (Nat.le_of_ble_eq_true rfl) rfl bl_or (fun x C => ?_)
  refine G_aload_r C dX10_isPay_0 rfl ?_
  refine G_getI C fo_X10_65 rfl rfl dX10_isPay_1 ?_
  refine G_aload_r C dX10_isPay_4 rfl ?_
  refine G_getR C fo_X10_62 rfl rfl dX10_isPay_5 ?_
  refine G_iload_n C dX10_isPay_8 rfl ?_
  refine G_ialdN C rfl (by assumption) (by decide) dX10_isPay_9 ?_
  refine G_ishr C dX10_isPay_10 ?_
  refine G_iconst C (1) dX10_isPay_11 (by decide) ?_
  refine G_iand C dX10_isPay_12 ?_
  refine G_iconst C (1) dX10_isPay_13 (by decide) ?_
  refine G_icmp_ne C 21 dX10_isPay_14 (by decide) (fun h14 => ?_) (fun h14 => ?_)
  · refine G_iconst C (0) dX10_isPay_21 (by decide) ?_
    exact G_retR C dX10_isPay_22 (by first | exact (bl_t (by simp only [payb]; simp; assumption)).symm | exact (bl_f (by simp only [payb]; simp; assumption)).symm) rfl
  · refine G_iconst C (1) dX10_isPay_17 (by decide) ?_
    refine G_goto C 22 dX10_isPay_18 (by decide) ?_
    exact G_retR C dX10_isPay_22 (by first | exact (bl_t (by simp only [payb]; simp; assumption)).symm | exact (bl_f (by simp only [payb]; simp; assumption)).symm) rfl
end
section
def s_inc (val : Nat → Int32) (b3 b1 : Option Nat) : Int32 := match b3 with
  | some i => val i
  | none => match b1 with
    | some i => val i
    | none => 0
def s_oth (val : Nat → Int32) (b0 : Option Nat) : Int32 := match b0 with
  | some i => val i
  | none => 0
def s_vlm (val : Nat → Int32) (b0 : Option Nat) : Int32 := match b0 with
  | some i => val i
  | none => -1
def s_kid (x : Int32) : Int32 := if x < 0 then 0 else if 4 < x then 4 else x
def xbest (M : Mem) (n : Nat) (kd k w : Int32) : Option Nat := s_best (fun i => decide (M 2 i = kd) && xhold M k w i) (M 4) n
def mbest (M : Mem) (n : Nat) (kd k w : Int32) : Option Nat := s_best (fun i => decide (M 37 i = kd) && mhold M k w i) (M 39) n
def xkids (M : Mem) (n : Nat) (k w : Int32) : Int32 := s_sum (fun i => decide (M 2 i = 2) && xhold M k w i) (M 3) n
def mkids (M : Mem) (n : Nat) (k w : Int32) : Int32 := s_sum (fun i => decide (M 37 i = 2) && mhold M k w i) (M 38) n
set_option maxHeartbeats 4000000 in
set_option maxRecDepth 100000 in
theorem L_X2_latest {K : Kt} {d : Nat} {M : Mem} {n : Nat} {kd k w : Int32} {x : Cx} {o : Option Nat} (hn : M 1 5 = nI n) (h80 : n ≤ 80) (ho : o = xbest M n kd k w) (C : Cok K x RX2 cX2_latest 6 (d + 1) (RI (fun v N => v = ixv o ∧ N = M))) :
    ∀ (t j : Nat) (b : Option Nat), n < j + t → j ≤ n → b = xbest M j kd k w → G K x 6 7 [(0, rf K 1), (1, .int kd), (2, .int k), (3, .int w), (4, .int (ixv b)), (5, .int (nI j))] [] M := by
  intro t
  induction t with
  | zero => intro j b h1 h2; omega
  | succ t ih =>
    intro j b h1 h2 hb
    have hj : j ≤ 80 := by omega
    have hbl : ∀ q, b = some q → q < j := fun q hq => s_best_lt (hb.symm.trans hq)
    have hbn : ixv b = -2000000005 ↔ b = none := ixv_none (fun q hq => by have := hbl q hq; omega)
    refine G_iload C dX2_latest_7 rfl ?_
    refine G_aload_r C dX2_latest_9 rfl ?_
    refine G_getI C fo_X2_28 rfl rfl dX2_latest_10 ?_
    refine G_icmp_ge C 75 dX2_latest_13 (by decide) (fun h13 => ?_) (fun h13 => ?_)
    · have hE : j = n := by have := n_le hn h80 hj (by decide) h13; omega
      refine G_iload C dX2_latest_75 rfl ?_
      exact G_retR C dX2_latest_77 (by rw [ho, hb, hE]) rfl
    · have hlt : j < n := n_gt hn h80 hj (by decide) h13
      have hj8 : j < 80 := by omega
      refine G_aload_r C dX2_latest_16 rfl ?_
      refine G_getR C fo_X2_9 rfl rfl dX2_latest_17 ?_
      refine G_iload C dX2_latest_20 rfl ?_
      refine G_ialdN C rfl (by assumption) (by decide) dX2_latest_22 ?_
      refine G_iload_n C dX2_latest_23 rfl ?_
      refine G_icmp_ne C 69 dX2_latest_24 (by decide) (fun h24 => ?_) (fun h24 => ?_)
      · refine G_iincN C dX2_latest_69 (by decide) rfl ?_
        refine G_goto C 7 dX2_latest_72 (by decide) ?_
        refine G_sub [(0, _), (1, _), (2, _), (3, _), (4, _), (5, _)] (by repeat (first | refine And.intro rfl ?_ | exact True.intro)) ?_
        exact ih (j + 1) b (by omega) (by omega) (hb.trans (s_best_no (by simp only [xhold] at *; simp; grind)).symm)
      · refine G_aload_r C dX2_latest_27 rfl ?_
        refine G_iload C dX2_latest_28 rfl ?_
        refine G_iload_n C dX2_latest_30 rfl ?_
        refine G_iload_n C dX2_latest_31 rfl ?_
        refine G_cVr3 C ok_X2_counts lk_X2_41 rfl rfl (c_X2_counts hj8) (Nat.le_of_ble_eq_true rfl) dX2_latest_32 ?_
        refine G_if_ne C 41 dX2_latest_35 (by decide) (fun h35 => ?_) (fun h35 => ?_)
        · rw [bl_z] at h35
          refine G_iload C dX2_latest_41 rfl ?_
          refine G_ldc C kc_X2_32 dX2_latest_43 ?_
          refine G_icmp_eq C 65 dX2_latest_45 (by decide) (fun h45 => ?_) (fun h45 => ?_)
          · rw [hbn] at h45
            refine G_iload C dX2_latest_65 rfl ?_
            refine G_istore C dX2_latest_67 (by decide) ?_
            refine G_iincN C dX2_latest_69 (by decide) rfl ?_
            refine G_goto C 7 dX2_latest_72 (by decide) ?_
            refine G_sub [(0, _), (1, _), (2, _), (3, _), (4, _), (5, _)] (by repeat (first | refine And.intro rfl ?_ | exact True.intro)) ?_
            exact ih (j + 1) (some j) (by omega) (by omega) (s_best_new (by simp only [xhold] at *; simp; grind) (hb.symm.trans h45)).symm
          · rw [hbn] at h45
            obtain ⟨q, rfl⟩ : ∃ q, b = some q := by cases b with | none => exact absurd rfl h45 | some q => exact ⟨q, rfl⟩
            have hq8 : q < 80 := by have := hbl q rfl; omega
            simp only [ixv]
            refine G_aload_r C dX2_latest_48 rfl ?_
            refine G_getR C fo_X2_18 rfl rfl dX2_latest_49 ?_
            refine G_iload C dX2_latest_52 rfl ?_
            refine G_ialdN C rfl (by assumption) (by decide) dX2_latest_54 ?_
            refine G_aload_r C dX2_latest_55 rfl ?_
            refine G_getR C fo_X2_18 rfl rfl dX2_latest_56 ?_
            refine G_iload C dX2_latest_59 rfl ?_
            refine G_ialdN C rfl (by assumption) (by decide) dX2_latest_61 ?_
            refine G_icmp_lt C 69 dX2_latest_62 (by decide) (fun h62 => ?_) (fun h62 => ?_)
            · refine G_iincN C dX2_latest_69 (by decide) rfl ?_
              refine G_goto C 7 dX2_latest_72 (by decide) ?_
              refine G_sub [(0, _), (1, _), (2, _), (3, _), (4, _), (5, _)] (by repeat (first | refine And.intro rfl ?_ | exact True.intro)) ?_
              exact ih (j + 1) (some q) (by omega) (by omega) (s_best_old hb.symm (by grind)).symm
            · refine G_iload C dX2_latest_65 rfl ?_
              refine G_istore C dX2_latest_67 (by decide) ?_
              refine G_iincN C dX2_latest_69 (by decide) rfl ?_
              refine G_goto C 7 dX2_latest_72 (by decide) ?_
              refine G_sub [(0, _), (1, _), (2, _), (3, _), (4, _), (5, _)] (by repeat (first | refine And.intro rfl ?_ | exact True.intro)) ?_
              exact ih (j + 1) (some j) (by omega) (by omega) (s_best_up (by simp only [xhold] at *; simp; grind) hb.symm (by grind)).symm
        · rw [bl_z] at h35
          refine G_goto C 69 dX2_latest_38 (by decide) ?_
          refine G_iincN C dX2_latest_69 (by decide) rfl ?_
          refine G_goto C 7 dX2_latest_72 (by decide) ?_
          refine G_sub [(0, _), (1, _), (2, _), (3, _), (4, _), (5, _)] (by repeat (first | refine And.intro rfl ?_ | exact True.intro)) ?_
          exact ih (j + 1) b (by omega) (by omega) (hb.trans (s_best_no (by simp only [xhold] at *; simp; grind)).symm)
set_option maxHeartbeats 4000000 in
set_option maxRecDepth 100000 in
theorem c_X2_latest {K : Kt} {d : Nat} {M : Mem} {n : Nat} {kd k w : Int32} (hn : M 1 5 = nI n) (h80 : n ≤ 80) : Ri K (d + 1) mX2_latest [rf K 1, .int kd, .int k, .int w] M (ixv (xbest M n kd k w)) M := by
  refine Ri_int RX2 [(0, rf K 1), (1, .int kd), (2, .int k), (3, .int w)] rfl (by decide) rfl (Nat.le_of_ble_eq_true rfl) rfl (fun x C => ?_)
  refine G_ldc C kc_X2_32 dX2_latest_0 ?_
  refine G_istore C dX2_latest_2 (by decide) ?_
  refine G_iconst C (nI 0) dX2_latest_4 (by decide) ?_
  refine G_istore C dX2_latest_5 (by decide) ?_
  refine G_sub [(0, _), (1, _), (2, _), (3, _), (4, _), (5, _)] (by repeat (first | refine And.intro rfl ?_ | exact True.intro)) ?_
  exact L_X2_latest hn h80 rfl C (n + 1) 0 none (by omega) (by omega) rfl
set_option maxHeartbeats 4000000 in
set_option maxRecDepth 100000 in
theorem L_X10_latest {K : Kt} {d : Nat} {M : Mem} {n : Nat} {kd k w : Int32} {x : Cx} {o : Option Nat} (hn : M 36 1 = nI n) (h80 : n ≤ 80) (ho : o = mbest M n kd k w) (C : Cok K x RX10 cX10_latest 6 (d + 1) (RI (fun v N => v = s_vlm (M 38) o ∧ N = M))) :
    ∀ (t j : Nat) (b : Option Nat), n < j + t → j ≤ n → b = mbest M j kd k w → G K x 6 6 [(0, rf K 36), (1, .int kd), (2, .int k), (3, .int w), (4, .int (ixm b)), (5, .int (nI j))] [] M := by
  intro t
  induction t with
  | zero => intro j b h1 h2; omega
  | succ t ih =>
    intro j b h1 h2 hb
    have hj : j ≤ 80 := by omega
    have hbl : ∀ q, b = some q → q < j := fun q hq => s_best_lt (hb.symm.trans hq)
    have hbn : ixm b < 0 ↔ b = none := ixm_neg (fun q hq => by have := hbl q hq; omega)
    refine G_iload C dX10_latest_6 rfl ?_
    refine G_aload_r C dX10_latest_8 rfl ?_
    refine G_getI C fo_X10_107 rfl rfl dX10_latest_9 ?_
    refine G_icmp_ge C 69 dX10_latest_12 (by decide) (fun h12 => ?_) (fun h12 => ?_)
    · have hE : j = n := by have := n_le hn h80 hj (by decide) h12; omega
      refine G_iload C dX10_latest_69 rfl ?_
      refine G_if_ge C 78 dX10_latest_71 (by decide) (fun h71 => ?_) (fun h71 => ?_)
      · have hbn2 := hbn
        obtain ⟨q, rfl⟩ : ∃ q, b = some q := by cases b with | none => exact absurd h71 (by decide) | some q => exact ⟨q, rfl⟩
        have hq8 : q < 80 := by have := hbl q rfl; omega
        simp only [ixm]
        refine G_aload_r C dX10_latest_78 rfl ?_
        refine G_getR C fo_X10_13 rfl rfl dX10_latest_79 ?_
        refine G_iload C dX10_latest_82 rfl ?_
        refine G_ialdN C rfl (by assumption) (by decide) dX10_latest_84 ?_
        exact G_retR C dX10_latest_85 (by rw [ho, ← hE, ← hb]; rfl) rfl
      · have hbn2 := hbn
        have hb0 : b = none := hbn.mp (by grind)
        subst hb0
        refine G_iconst C (-1) dX10_latest_74 (by decide) ?_
        refine G_goto C 85 dX10_latest_75 (by decide) ?_
        exact G_retR C dX10_latest_85 (by rw [ho, ← hE, ← hb]; rfl) rfl
    · have hlt : j < n := n_gt hn h80 hj (by decide) h12
      have hj8 : j < 80 := by omega
      refine G_aload_r C dX10_latest_15 rfl ?_
      refine G_getR C fo_X10_7 rfl rfl dX10_latest_16 ?_
      refine G_iload C dX10_latest_19 rfl ?_
      refine G_ialdN C rfl (by assumption) (by decide) dX10_latest_21 ?_
      refine G_iload_n C dX10_latest_22 rfl ?_
      refine G_icmp_ne C 63 dX10_latest_23 (by decide) (fun h23 => ?_) (fun h23 => ?_)
      · refine G_iincN C dX10_latest_63 (by decide) rfl ?_
        refine G_goto C 6 dX10_latest_66 (by decide) ?_
        refine G_sub [(0, _), (1, _), (2, _), (3, _), (4, _), (5, _)] (by repeat (first | refine And.intro rfl ?_ | exact True.intro)) ?_
        exact ih (j + 1) b (by omega) (by omega) (hb.trans (s_best_no (by simp only [mhold] at *; simp; grind)).symm)
      · refine G_aload_r C dX10_latest_26 rfl ?_
        refine G_iload C dX10_latest_27 rfl ?_
        refine G_iload_n C dX10_latest_29 rfl ?_
        refine G_iload_n C dX10_latest_30 rfl ?_
        refine G_cVr3 C ok_X10_holds lk_X10_116 rfl rfl (c_X10_holds hj8) (Nat.le_of_ble_eq_true rfl) dX10_latest_31 ?_
        refine G_if_eq C 63 dX10_latest_34 (by decide) (fun h34 => ?_) (fun h34 => ?_)
        · rw [bl_z] at h34
          refine G_iincN C dX10_latest_63 (by decide) rfl ?_
          refine G_goto C 6 dX10_latest_66 (by decide) ?_
          refine G_sub [(0, _), (1, _), (2, _), (3, _), (4, _), (5, _)] (by repeat (first | refine And.intro rfl ?_ | exact True.intro)) ?_
          exact ih (j + 1) b (by omega) (by omega) (hb.trans (s_best_no (by simp only [mhold] at *; simp; grind)).symm)
        · rw [bl_z] at h34
          refine G_iload C dX10_latest_37 rfl ?_
          refine G_if_lt C 59 dX10_latest_39 (by decide) (fun h39 => ?_) (fun h39 => ?_)
          · rw [hbn] at h39
            refine G_iload C dX10_latest_59 rfl ?_
            refine G_istore C dX10_latest_61 (by decide) ?_
            refine G_iincN C dX10_latest_63 (by decide) rfl ?_
            refine G_goto C 6 dX10_latest_66 (by decide) ?_
            refine G_sub [(0, _), (1, _), (2, _), (3, _), (4, _), (5, _)] (by repeat (first | refine And.intro rfl ?_ | exact True.intro)) ?_
            exact ih (j + 1) (some j) (by omega) (by omega) (s_best_new (by simp only [mhold] at *; simp; grind) (hb.symm.trans h39)).symm
          · rw [hbn] at h39
            obtain ⟨q, rfl⟩ : ∃ q, b = some q := by cases b with | none => exact absurd rfl h39 | some q => exact ⟨q, rfl⟩
            have hq8 : q < 80 := by have := hbl q rfl; omega
            simp only [ixm]
            refine G_aload_r C dX10_latest_42 rfl ?_
            refine G_getR C fo_X10_16 rfl rfl dX10_latest_43 ?_
            refine G_iload C dX10_latest_46 rfl ?_
            refine G_ialdN C rfl (by assumption) (by decide) dX10_latest_48 ?_
            refine G_aload_r C dX10_latest_49 rfl ?_
            refine G_getR C fo_X10_16 rfl rfl dX10_latest_50 ?_
            refine G_iload C dX10_latest_53 rfl ?_
            refine G_ialdN C rfl (by assumption) (by decide) dX10_latest_55 ?_
            refine G_icmp_lt C 63 dX10_latest_56 (by decide) (fun h56 => ?_) (fun h56 => ?_)
            · refine G_iincN C dX10_latest_63 (by decide) rfl ?_
              refine G_goto C 6 dX10_latest_66 (by decide) ?_
              refine G_sub [(0, _), (1, _), (2, _), (3, _), (4, _), (5, _)] (by repeat (first | refine And.intro rfl ?_ | exact True.intro)) ?_
              exact ih (j + 1) (some q) (by omega) (by omega) (s_best_old hb.symm (by grind)).symm
            · refine G_iload C dX10_latest_59 rfl ?_
              refine G_istore C dX10_latest_61 (by decide) ?_
              refine G_iincN C dX10_latest_63 (by decide) rfl ?_
              refine G_goto C 6 dX10_latest_66 (by decide) ?_
              refine G_sub [(0, _), (1, _), (2, _), (3, _), (4, _), (5, _)] (by repeat (first | refine And.intro rfl ?_ | exact True.intro)) ?_
              exact ih (j + 1) (some j) (by omega) (by omega) (s_best_up (by simp only [mhold] at *; simp; grind) hb.symm (by grind)).symm
set_option maxHeartbeats 4000000 in
set_option maxRecDepth 100000 in
theorem c_X10_latest {K : Kt} {d : Nat} {M : Mem} {n : Nat} {kd k w : Int32} (hn : M 36 1 = nI n) (h80 : n ≤ 80) : Ri K (d + 1) mX10_latest [rf K 36, .int kd, .int k, .int w] M (s_vlm (M 38) (mbest M n kd k w)) M := by
  refine Ri_int RX10 [(0, rf K 36), (1, .int kd), (2, .int k), (3, .int w)] rfl (by decide) rfl (Nat.le_of_ble_eq_true rfl) rfl (fun x C => ?_)
  refine G_iconst C (-1) dX10_latest_0 (by decide) ?_
  refine G_istore C dX10_latest_1 (by decide) ?_
  refine G_iconst C (nI 0) dX10_latest_3 (by decide) ?_
  refine G_istore C dX10_latest_4 (by decide) ?_
  refine G_sub [(0, _), (1, _), (2, _), (3, _), (4, _), (5, _)] (by repeat (first | refine And.intro rfl ?_ | exact True.intro)) ?_
  exact L_X10_latest hn h80 rfl C (n + 1) 0 none (by omega) (by omega) rfl
set_option maxHeartbeats 4000000 in
set_option maxRecDepth 100000 in
theorem c_X2_incomeAt {K : Kt} {d : Nat} {M : Mem} {n : Nat} {k w : Int32} (hn : M 1 5 = nI n) (h80 : n ≤ 80) : Ri K (d + 2) mX2_incomeAt [rf K 1, .int k, .int w] M (s_inc (M 3) (xbest M n 3 k w) (xbest M n 1 k w)) M := by
  refine Ri_int RX2 [(0, rf K 1), (1, .int k), (2, .int w)] rfl (by decide) rfl (Nat.le_of_ble_eq_true rfl) rfl (fun x C => ?_)
  refine G_aload_r C dX2_incomeAt_0 rfl ?_
  refine G_iconst C (3) dX2_incomeAt_1 (by decide) ?_
  refine G_iload_n C dX2_incomeAt_2 rfl ?_
  refine G_iload_n C dX2_incomeAt_3 rfl ?_
  refine G_cVr3 C ok_X2_latest lk_X2_37 rfl rfl (c_X2_latest hn h80) (Nat.le_of_ble_eq_true rfl) dX2_incomeAt_4 ?_
  generalize hb3 : xbest M n 3 k w = b3
  have hlb3 : ∀ q, b3 = some q → q < n := fun q hq => s_best_lt (hb3.trans hq)
  have hnb3 : ixv b3 = -2000000005 ↔ b3 = none := ixv_none (fun q hq => by have := hlb3 q hq; omega)
  refine G_istore_n C dX2_incomeAt_7 (by decide) ?_
  refine G_iload_n C dX2_incomeAt_8 rfl ?_
  refine G_ldc C kc_X2_32 dX2_incomeAt_9 ?_
  refine G_icmp_ne C 22 dX2_incomeAt_11 (by decide) (fun h11 => ?_) (fun h11 => ?_)
  · rw [hnb3] at h11
    refine G_iload_n C dX2_incomeAt_22 rfl ?_
    refine G_ldc C kc_X2_32 dX2_incomeAt_23 ?_
    refine G_icmp_ne C 32 dX2_incomeAt_25 (by decide) (fun h25 => ?_) (fun h25 => ?_)
    · rw [hnb3] at h25
      obtain ⟨q, rfl⟩ : ∃ q, b3 = some q := by cases b3 with | none => exact absurd rfl h25 | some q => exact ⟨q, rfl⟩
      have hq8 : q < 80 := by have := hlb3 q rfl; omega
      simp only [ixv]
      refine G_aload_r C dX2_incomeAt_32 rfl ?_
      refine G_getR C fo_X2_15 rfl rfl dX2_incomeAt_33 ?_
      refine G_iload_n C dX2_incomeAt_36 rfl ?_
      refine G_ialdN C rfl (by assumption) (by decide) dX2_incomeAt_37 ?_
      exact G_retR C dX2_incomeAt_38 (by simp only [s_inc, *]) rfl
    · exact absurd (hnb3.mp h25) h11
  · rw [hnb3] at h11
    refine G_aload_r C dX2_incomeAt_14 rfl ?_
    refine G_iconst C (1) dX2_incomeAt_15 (by decide) ?_
    refine G_iload_n C dX2_incomeAt_16 rfl ?_
    refine G_iload_n C dX2_incomeAt_17 rfl ?_
    refine G_cVr3 C ok_X2_latest lk_X2_37 rfl rfl (c_X2_latest hn h80) (Nat.le_of_ble_eq_true rfl) dX2_incomeAt_18 ?_
    generalize hb1 : xbest M n 1 k w = b1
    have hlb1 : ∀ q, b1 = some q → q < n := fun q hq => s_best_lt (hb1.trans hq)
    have hnb1 : ixv b1 = -2000000005 ↔ b1 = none := ixv_none (fun q hq => by have := hlb1 q hq; omega)
    refine G_istore_n C dX2_incomeAt_21 (by decide) ?_
    refine G_iload_n C dX2_incomeAt_22 rfl ?_
    refine G_ldc C kc_X2_32 dX2_incomeAt_23 ?_
    refine G_icmp_ne C 32 dX2_incomeAt_25 (by decide) (fun h25 => ?_) (fun h25 => ?_)
    · rw [hnb1] at h25
      obtain ⟨q, rfl⟩ : ∃ q, b1 = some q := by cases b1 with | none => exact absurd rfl h25 | some q => exact ⟨q, rfl⟩
      have hq8 : q < 80 := by have := hlb1 q rfl; omega
      simp only [ixv]
      refine G_aload_r C dX2_incomeAt_32 rfl ?_
      refine G_getR C fo_X2_15 rfl rfl dX2_incomeAt_33 ?_
      refine G_iload_n C dX2_incomeAt_36 rfl ?_
      refine G_ialdN C rfl (by assumption) (by decide) dX2_incomeAt_37 ?_
      exact G_retR C dX2_incomeAt_38 (by simp only [s_inc, *]) rfl
    · rw [hnb1] at h25
      refine G_iconst C (0) dX2_incomeAt_28 (by decide) ?_
      refine G_goto C 38 dX2_incomeAt_29 (by decide) ?_
      exact G_retR C dX2_incomeAt_38 (by simp only [s_inc, *]) rfl
set_option maxHeartbeats 4000000 in
set_option maxRecDepth 100000 in
theorem c_X2_othersAt {K : Kt} {d : Nat} {M : Mem} {n : Nat} {k w : Int32} (hn : M 1 5 = nI n) (h80 : n ≤ 80) : Ri K (d + 2) mX2_othersAt [rf K 1, .int k, .int w] M (s_oth (M 3) (xbest M n 0 k w)) M := by
  refine Ri_int RX2 [(0, rf K 1), (1, .int k), (2, .int w)] rfl (by decide) rfl (Nat.le_of_ble_eq_true rfl) rfl (fun x C => ?_)
  refine G_aload_r C dX2_othersAt_0 rfl ?_
  refine G_iconst C (0) dX2_othersAt_1 (by decide) ?_
  refine G_iload_n C dX2_othersAt_2 rfl ?_
  refine G_iload_n C dX2_othersAt_3 rfl ?_
  refine G_cVr3 C ok_X2_latest lk_X2_37 rfl rfl (c_X2_latest hn h80) (Nat.le_of_ble_eq_true rfl) dX2_othersAt_4 ?_
  generalize hb0 : xbest M n 0 k w = b0
  have hlb0 : ∀ q, b0 = some q → q < n := fun q hq => s_best_lt (hb0.trans hq)
  have hnb0 : ixv b0 = -2000000005 ↔ b0 = none := ixv_none (fun q hq => by have := hlb0 q hq; omega)
  refine G_istore_n C dX2_othersAt_7 (by decide) ?_
  refine G_iload_n C dX2_othersAt_8 rfl ?_
  refine G_ldc C kc_X2_32 dX2_othersAt_9 ?_
  refine G_icmp_ne C 18 dX2_othersAt_11 (by decide) (fun h11 => ?_) (fun h11 => ?_)
  · rw [hnb0] at h11
    obtain ⟨q, rfl⟩ : ∃ q, b0 = some q := by cases b0 with | none => exact absurd rfl h11 | some q => exact ⟨q, rfl⟩
    have hq8 : q < 80 := by have := hlb0 q rfl; omega
    simp only [ixv]
    refine G_aload_r C dX2_othersAt_18 rfl ?_
    refine G_getR C fo_X2_15 rfl rfl dX2_othersAt_19 ?_
    refine G_iload_n C dX2_othersAt_22 rfl ?_
    refine G_ialdN C rfl (by assumption) (by decide) dX2_othersAt_23 ?_
    exact G_retR C dX2_othersAt_24 (by simp only [s_oth, *]) rfl
  · rw [hnb0] at h11
    refine G_iconst C (0) dX2_othersAt_14 (by decide) ?_
    refine G_goto C 24 dX2_othersAt_15 (by decide) ?_
    exact G_retR C dX2_othersAt_24 (by simp only [s_oth, *]) rfl
theorem vlm_neg {val : Nat → Int32} {b : Option Nat} (h : ∀ q, b = some q → 0 ≤ val q) : s_vlm val b < 0 ↔ b = none := by
  cases b with
  | none => simp [s_vlm]
  | some q =>
    have := h q rfl
    simp only [s_vlm]
    constructor
    · intro h2; grind
    · intro h2; cases h2
theorem mbest_val {M : Mem} {n : Nat} {kd k w : Int32} (hk : kd ≠ 2) (hv : ∀ i, i < n → M 37 i ≠ 2 → 0 ≤ M 38 i) : ∀ q, mbest M n kd k w = some q → 0 ≤ M 38 q := fun q hq => by
  have h1 := s_best_lt hq
  have h2 := s_best_p hq
  simp at h2
  exact hv q h1 (by rw [h2.1]; exact hk)
set_option maxHeartbeats 4000000 in
set_option maxRecDepth 100000 in
theorem c_X10_income {K : Kt} {d : Nat} {M : Mem} {n : Nat} {k w : Int32} (hn : M 36 1 = nI n) (h80 : n ≤ 80) (hv : ∀ i, i < n → M 37 i ≠ 2 → 0 ≤ M 38 i) : Ri K (d + 2) mX10_income [rf K 36, .int k, .int w] M (s_inc (M 38) (mbest M n 3 k w) (mbest M n 1 k w)) M := by
  refine Ri_int RX10 [(0, rf K 36), (1, .int k), (2, .int w)] rfl (by decide) rfl (Nat.le_of_ble_eq_true rfl) rfl (fun x C => ?_)
  have hn3 := vlm_neg (mbest_val (M := M) (n := n) (kd := 3) (k := k) (w := w) (by decide) hv)
  have hn1 := vlm_neg (mbest_val (M := M) (n := n) (kd := 1) (k := k) (w := w) (by decide) hv)
  refine G_aload_r C dX10_income_0 rfl ?_
  refine G_iconst C (3) dX10_income_1 (by decide) ?_
  refine G_iload_n C dX10_income_2 rfl ?_
  refine G_iload_n C dX10_income_3 rfl ?_
  refine G_cVr3 C ok_X10_latest lk_X10_119 rfl rfl (c_X10_latest hn h80) (Nat.le_of_ble_eq_true rfl) dX10_income_4 ?_
  refine G_istore_n C dX10_income_7 (by decide) ?_
  refine G_iload_n C dX10_income_8 rfl ?_
  refine G_if_ge C 22 dX10_income_9 (by decide) (fun h9 => ?_) (fun h9 => ?_)
  · have h9b : mbest M n 3 k w = none ↔ ¬ 0 ≤ s_vlm (M 38) (mbest M n 3 k w) := by rw [← hn3]; grind
    refine G_iload_n C dX10_income_22 rfl ?_
    refine G_istore_n C dX10_income_23 (by decide) ?_
    refine G_iload_n C dX10_income_24 rfl ?_
    refine G_if_ge C 32 dX10_income_25 (by decide) (fun h25 => ?_) (fun h25 => ?_)
    · refine G_iload_n C dX10_income_32 rfl ?_
      exact G_retR C dX10_income_33 (by cases e3 : mbest M n 3 k w <;> cases e1 : mbest M n 1 k w <;> simp_all [s_inc, s_vlm]) rfl
    · exact absurd h9 h25
  · have h9b : mbest M n 3 k w = none ↔ ¬ 0 ≤ s_vlm (M 38) (mbest M n 3 k w) := by rw [← hn3]; grind
    refine G_aload_r C dX10_income_12 rfl ?_
    refine G_iconst C (1) dX10_income_13 (by decide) ?_
    refine G_iload_n C dX10_income_14 rfl ?_
    refine G_iload_n C dX10_income_15 rfl ?_
    refine G_cVr3 C ok_X10_latest lk_X10_119 rfl rfl (c_X10_latest hn h80) (Nat.le_of_ble_eq_true rfl) dX10_income_16 ?_
    refine G_goto C 23 dX10_income_19 (by decide) ?_
    refine G_istore_n C dX10_income_23 (by decide) ?_
    refine G_iload_n C dX10_income_24 rfl ?_
    refine G_if_ge C 32 dX10_income_25 (by decide) (fun h25 => ?_) (fun h25 => ?_)
    · have h25b : mbest M n 1 k w = none ↔ ¬ 0 ≤ s_vlm (M 38) (mbest M n 1 k w) := by rw [← hn1]; grind
      refine G_iload_n C dX10_income_32 rfl ?_
      exact G_retR C dX10_income_33 (by cases e3 : mbest M n 3 k w <;> cases e1 : mbest M n 1 k w <;> simp_all [s_inc, s_vlm]) rfl
    · have h25b : mbest M n 1 k w = none ↔ ¬ 0 ≤ s_vlm (M 38) (mbest M n 1 k w) := by rw [← hn1]; grind
      refine G_iconst C (0) dX10_income_28 (by decide) ?_
      refine G_goto C 33 dX10_income_29 (by decide) ?_
      exact G_retR C dX10_income_33 (by cases e3 : mbest M n 3 k w <;> cases e1 : mbest M n 1 k w <;> simp_all [s_inc, s_vlm]) rfl
set_option maxHeartbeats 4000000 in
set_option maxRecDepth 100000 in
theorem c_X10_others {K : Kt} {d : Nat} {M : Mem} {n : Nat} {k w : Int32} (hn : M 36 1 = nI n) (h80 : n ≤ 80) (hv : ∀ i, i < n → M 37 i ≠ 2 → 0 ≤ M 38 i) : Ri K (d + 2) mX10_others [rf K 36, .int k, .int w] M (s_oth (M 38) (mbest M n 0 k w)) M := by
  refine Ri_int RX10 [(0, rf K 36), (1, .int k), (2, .int w)] rfl (by decide) rfl (Nat.le_of_ble_eq_true rfl) rfl (fun x C => ?_)
  have hn0 := vlm_neg (mbest_val (M := M) (n := n) (kd := 0) (k := k) (w := w) (by decide) hv)
  refine G_aload_r C dX10_others_0 rfl ?_
  refine G_iconst C (0) dX10_others_1 (by decide) ?_
  refine G_iload_n C dX10_others_2 rfl ?_
  refine G_iload_n C dX10_others_3 rfl ?_
  refine G_cVr3 C ok_X10_latest lk_X10_119 rfl rfl (c_X10_latest hn h80) (Nat.le_of_ble_eq_true rfl) dX10_others_4 ?_
  refine G_istore_n C dX10_others_7 (by decide) ?_
  refine G_iload_n C dX10_others_8 rfl ?_
  refine G_if_ge C 16 dX10_others_9 (by decide) (fun h9 => ?_) (fun h9 => ?_)
  · have h9b : mbest M n 0 k w = none ↔ ¬ 0 ≤ s_vlm (M 38) (mbest M n 0 k w) := by rw [← hn0]; grind
    refine G_iload_n C dX10_others_16 rfl ?_
    exact G_retR C dX10_others_17 (by cases e0 : mbest M n 0 k w <;> simp_all [s_oth, s_vlm]) rfl
  · have h9b : mbest M n 0 k w = none ↔ ¬ 0 ≤ s_vlm (M 38) (mbest M n 0 k w) := by rw [← hn0]; grind
    refine G_iconst C (0) dX10_others_12 (by decide) ?_
    refine G_goto C 17 dX10_others_13 (by decide) ?_
    exact G_retR C dX10_others_17 (by cases e0 : mbest M n 0 k w <;> simp_all [s_oth, s_vlm]) rfl
set_option maxHeartbeats 4000000 in
set_option maxRecDepth 100000 in
theorem L_X2_childrenAt {K : Kt} {d : Nat} {M : Mem} {n : Nat} {k w : Int32} {x : Cx} {o : Int32} (hn : M 1 5 = nI n) (h80 : n ≤ 80) (ho : o = s_kid (xkids M n k w)) (C : Cok K x RX2 cX2_childrenAt 5 (d + 1) (RI (fun v N => v = o ∧ N = M))) :
    ∀ (t j : Nat) (b : Int32), n < j + t → j ≤ n → b = xkids M j k w → G K x 5 5 [(0, rf K 1), (1, .int k), (2, .int w), (3, .int b), (4, .int (nI j))] [] M := by
  intro t
  induction t with
  | zero => intro j b h1 h2; omega
  | succ t ih =>
    intro j b h1 h2 hb
    have hj : j ≤ 80 := by omega
    refine G_iload C dX2_childrenAt_5 rfl ?_
    refine G_aload_r C dX2_childrenAt_7 rfl ?_
    refine G_getI C fo_X2_28 rfl rfl dX2_childrenAt_8 ?_
    refine G_icmp_ge C 52 dX2_childrenAt_11 (by decide) (fun h11 => ?_) (fun h11 => ?_)
    · have hE : j = n := by have := n_le hn h80 hj (by decide) h11; omega
      refine G_iconst C (0) dX2_childrenAt_52 (by decide) ?_
      refine G_iconst C (4) dX2_childrenAt_53 (by decide) ?_
      refine G_iload_n C dX2_childrenAt_54 rfl ?_
      refine G_mmin C lk_X2_45 ms_min mi_math mc_min (Nat.le_of_ble_eq_true rfl) dX2_childrenAt_55 ?_
      refine G_mmax C lk_X2_51 ms_max mi_math mc_max (Nat.le_of_ble_eq_true rfl) dX2_childrenAt_58 ?_
      exact G_retR C dX2_childrenAt_61 (by rw [ho, ← hE, ← hb]; simp only [s_kid]; grind) rfl
    · have hlt : j < n := n_gt hn h80 hj (by decide) h11
      have hj8 : j < 80 := by omega
      refine G_aload_r C dX2_childrenAt_14 rfl ?_
      refine G_getR C fo_X2_9 rfl rfl dX2_childrenAt_15 ?_
      refine G_iload C dX2_childrenAt_18 rfl ?_
      refine G_ialdN C rfl (by assumption) (by decide) dX2_childrenAt_20 ?_
      refine G_iconst C (2) dX2_childrenAt_21 (by decide) ?_
      refine G_icmp_ne C 46 dX2_childrenAt_22 (by decide) (fun h22 => ?_) (fun h22 => ?_)
      · refine G_iincN C dX2_childrenAt_46 (by decide) rfl ?_
        refine G_goto C 5 dX2_childrenAt_49 (by decide) ?_
        refine G_sub [(0, _), (1, _), (2, _), (3, _), (4, _)] (by repeat (first | refine And.intro rfl ?_ | exact True.intro)) ?_
        exact ih (j + 1) _ (by omega) (by omega) (hb.trans (s_sum_f (by simp only [xhold] at *; simp; grind)).symm)
      · refine G_aload_r C dX2_childrenAt_25 rfl ?_
        refine G_iload C dX2_childrenAt_26 rfl ?_
        refine G_iload_n C dX2_childrenAt_28 rfl ?_
        refine G_iload_n C dX2_childrenAt_29 rfl ?_
        refine G_cVr3 C ok_X2_counts lk_X2_41 rfl rfl (c_X2_counts hj8) (Nat.le_of_ble_eq_true rfl) dX2_childrenAt_30 ?_
        refine G_if_eq C 46 dX2_childrenAt_33 (by decide) (fun h33 => ?_) (fun h33 => ?_)
        · rw [bl_z] at h33
          refine G_iincN C dX2_childrenAt_46 (by decide) rfl ?_
          refine G_goto C 5 dX2_childrenAt_49 (by decide) ?_
          refine G_sub [(0, _), (1, _), (2, _), (3, _), (4, _)] (by repeat (first | refine And.intro rfl ?_ | exact True.intro)) ?_
          exact ih (j + 1) _ (by omega) (by omega) (hb.trans (s_sum_f (by simp only [xhold] at *; simp; grind)).symm)
        · rw [bl_z] at h33
          refine G_iload_n C dX2_childrenAt_36 rfl ?_
          refine G_aload_r C dX2_childrenAt_37 rfl ?_
          refine G_getR C fo_X2_15 rfl rfl dX2_childrenAt_38 ?_
          refine G_iload C dX2_childrenAt_41 rfl ?_
          refine G_ialdN C rfl (by assumption) (by decide) dX2_childrenAt_43 ?_
          refine G_iadd C dX2_childrenAt_44 ?_
          refine G_istore_n C dX2_childrenAt_45 (by decide) ?_
          refine G_iincN C dX2_childrenAt_46 (by decide) rfl ?_
          refine G_goto C 5 dX2_childrenAt_49 (by decide) ?_
          refine G_sub [(0, _), (1, _), (2, _), (3, _), (4, _)] (by repeat (first | refine And.intro rfl ?_ | exact True.intro)) ?_
          exact ih (j + 1) _ (by omega) (by omega) ((by rw [hb]; rfl : _ = _).trans (s_sum_t (by simp only [xhold] at *; simp; grind)).symm)
set_option maxHeartbeats 4000000 in
set_option maxRecDepth 100000 in
theorem c_X2_childrenAt {K : Kt} {d : Nat} {M : Mem} {n : Nat} {k w : Int32} (hn : M 1 5 = nI n) (h80 : n ≤ 80) : Ri K (d + 1) mX2_childrenAt [rf K 1, .int k, .int w] M (s_kid (xkids M n k w)) M := by
  refine Ri_int RX2 [(0, rf K 1), (1, .int k), (2, .int w)] rfl (by decide) rfl (Nat.le_of_ble_eq_true rfl) rfl (fun x C => ?_)
  refine G_iconst C (0) dX2_childrenAt_0 (by decide) ?_
  refine G_istore_n C dX2_childrenAt_1 (by decide) ?_
  refine G_iconst C (nI 0) dX2_childrenAt_2 (by decide) ?_
  refine G_istore C dX2_childrenAt_3 (by decide) ?_
  refine G_sub [(0, _), (1, _), (2, _), (3, _), (4, _)] (by repeat (first | refine And.intro rfl ?_ | exact True.intro)) ?_
  exact L_X2_childrenAt hn h80 rfl C (n + 1) 0 0 (by omega) (by omega) rfl
set_option maxHeartbeats 4000000 in
set_option maxRecDepth 100000 in
theorem L_X10_children {K : Kt} {d : Nat} {M : Mem} {n : Nat} {k w : Int32} {x : Cx} {o : Int32} (hn : M 36 1 = nI n) (h80 : n ≤ 80) (ho : o = s_kid (mkids M n k w)) (C : Cok K x RX10 cX10_children 5 (d + 1) (RI (fun v N => v = o ∧ N = M))) :
    ∀ (t j : Nat) (b : Int32), n < j + t → j ≤ n → b = mkids M j k w → G K x 5 5 [(0, rf K 36), (1, .int k), (2, .int w), (3, .int b), (4, .int (nI j))] [] M := by
  intro t
  induction t with
  | zero => intro j b h1 h2; omega
  | succ t ih =>
    intro j b h1 h2 hb
    have hj : j ≤ 80 := by omega
    refine G_iload C dX10_children_5 rfl ?_
    refine G_aload_r C dX10_children_7 rfl ?_
    refine G_getI C fo_X10_107 rfl rfl dX10_children_8 ?_
    refine G_icmp_ge C 56 dX10_children_11 (by decide) (fun h11 => ?_) (fun h11 => ?_)
    · have hE : j = n := by have := n_le hn h80 hj (by decide) h11; omega
      refine G_iload_n C dX10_children_56 rfl ?_
      refine G_if_ge C 64 dX10_children_57 (by decide) (fun h57 => ?_) (fun h57 => ?_)
      · refine G_iload_n C dX10_children_64 rfl ?_
        refine G_iconst C (4) dX10_children_65 (by decide) ?_
        refine G_icmp_le C 73 dX10_children_66 (by decide) (fun h66 => ?_) (fun h66 => ?_)
        · refine G_iload_n C dX10_children_73 rfl ?_
          exact G_retR C dX10_children_74 (by rw [ho, ← hE, ← hb]; simp only [s_kid]; grind) rfl
        · refine G_iconst C (4) dX10_children_69 (by decide) ?_
          refine G_goto C 74 dX10_children_70 (by decide) ?_
          exact G_retR C dX10_children_74 (by rw [ho, ← hE, ← hb]; simp only [s_kid]; grind) rfl
      · refine G_iconst C (0) dX10_children_60 (by decide) ?_
        refine G_goto C 74 dX10_children_61 (by decide) ?_
        exact G_retR C dX10_children_74 (by rw [ho, ← hE, ← hb]; simp only [s_kid]; grind) rfl
    · have hlt : j < n := n_gt hn h80 hj (by decide) h11
      have hj8 : j < 80 := by omega
      refine G_iload_n C dX10_children_14 rfl ?_
      refine G_aload_r C dX10_children_15 rfl ?_
      refine G_getR C fo_X10_7 rfl rfl dX10_children_16 ?_
      refine G_iload C dX10_children_19 rfl ?_
      refine G_ialdN C rfl (by assumption) (by decide) dX10_children_21 ?_
      refine G_iconst C (2) dX10_children_22 (by decide) ?_
      refine G_icmp_ne C 47 dX10_children_23 (by decide) (fun h23 => ?_) (fun h23 => ?_)
      · refine G_iconst C (0) dX10_children_47 (by decide) ?_
        refine G_iadd C dX10_children_48 ?_
        refine G_istore_n C dX10_children_49 (by decide) ?_
        refine G_iincN C dX10_children_50 (by decide) rfl ?_
        refine G_goto C 5 dX10_children_53 (by decide) ?_
        refine G_sub [(0, _), (1, _), (2, _), (3, _), (4, _)] (by repeat (first | refine And.intro rfl ?_ | exact True.intro)) ?_
        exact ih (j + 1) _ (by omega) (by omega) ((by simp [hb]; rfl : _ = _).trans (s_sum_f (by simp only [mhold] at *; simp; grind)).symm)
      · refine G_aload_r C dX10_children_26 rfl ?_
        refine G_iload C dX10_children_27 rfl ?_
        refine G_iload_n C dX10_children_29 rfl ?_
        refine G_iload_n C dX10_children_30 rfl ?_
        refine G_cVr3 C ok_X10_holds lk_X10_116 rfl rfl (c_X10_holds hj8) (Nat.le_of_ble_eq_true rfl) dX10_children_31 ?_
        refine G_if_eq C 47 dX10_children_34 (by decide) (fun h34 => ?_) (fun h34 => ?_)
        · rw [bl_z] at h34
          refine G_iconst C (0) dX10_children_47 (by decide) ?_
          refine G_iadd C dX10_children_48 ?_
          refine G_istore_n C dX10_children_49 (by decide) ?_
          refine G_iincN C dX10_children_50 (by decide) rfl ?_
          refine G_goto C 5 dX10_children_53 (by decide) ?_
          refine G_sub [(0, _), (1, _), (2, _), (3, _), (4, _)] (by repeat (first | refine And.intro rfl ?_ | exact True.intro)) ?_
          exact ih (j + 1) _ (by omega) (by omega) ((by simp [hb]; rfl : _ = _).trans (s_sum_f (by simp only [mhold] at *; simp; grind)).symm)
        · rw [bl_z] at h34
          refine G_aload_r C dX10_children_37 rfl ?_
          refine G_getR C fo_X10_13 rfl rfl dX10_children_38 ?_
          refine G_iload C dX10_children_41 rfl ?_
          refine G_ialdN C rfl (by assumption) (by decide) dX10_children_43 ?_
          refine G_goto C 48 dX10_children_44 (by decide) ?_
          refine G_iadd C dX10_children_48 ?_
          refine G_istore_n C dX10_children_49 (by decide) ?_
          refine G_iincN C dX10_children_50 (by decide) rfl ?_
          refine G_goto C 5 dX10_children_53 (by decide) ?_
          refine G_sub [(0, _), (1, _), (2, _), (3, _), (4, _)] (by repeat (first | refine And.intro rfl ?_ | exact True.intro)) ?_
          exact ih (j + 1) _ (by omega) (by omega) ((by rw [hb]; rfl : _ = _).trans (s_sum_t (by simp only [mhold] at *; simp; grind)).symm)
set_option maxHeartbeats 4000000 in
set_option maxRecDepth 100000 in
theorem c_X10_children {K : Kt} {d : Nat} {M : Mem} {n : Nat} {k w : Int32} (hn : M 36 1 = nI n) (h80 : n ≤ 80) : Ri K (d + 1) mX10_children [rf K 36, .int k, .int w] M (s_kid (mkids M n k w)) M := by
  refine Ri_int RX10 [(0, rf K 36), (1, .int k), (2, .int w)] rfl (by decide) rfl (Nat.le_of_ble_eq_true rfl) rfl (fun x C => ?_)
  refine G_iconst C (0) dX10_children_0 (by decide) ?_
  refine G_istore_n C dX10_children_1 (by decide) ?_
  refine G_iconst C (nI 0) dX10_children_2 (by decide) ?_
  refine G_istore C dX10_children_3 (by decide) ?_
  refine G_sub [(0, _), (1, _), (2, _), (3, _), (4, _)] (by repeat (first | refine And.intro rfl ?_ | exact True.intro)) ?_
  exact L_X10_children hn h80 rfl C (n + 1) 0 0 (by omega) (by omega) rfl
end
section
def otold (sz : Int32) (pl : Nat → Int32) (w : Nat) : Option Int32 := if nI w < sz ∧ 0 ≤ pl w ∧ pl w ≤ 7 then some (pl w) else none
def ov (o : Option Int32) : Int32 := o.getD (-2000000005)
def om (o : Option Int32) : Int32 := o.getD (-1)
def s_end (s a b : Option Int32) (g : Bool) : Int32 := match s with
  | some v => v
  | none => match a, b with
    | none, none => 0
    | none, some y => y
    | some x, none => x
    | some x, some y => bif g then (if x < y then y else x) else (if y < x then y else x)
def xsch (M : Mem) (w : Nat) : Option Int32 := if M 27 w = -2000000005 then none else some (M 27 w)
def msch (M : Mem) (w : Nat) : Option Int32 := if M 42 w < 0 then none else some (M 42 w)
def xtold (M : Mem) (s w : Nat) : Option Int32 := otold (M (23 + s) 1) (M (25 + s)) w
def mtold (M : Mem) (s w : Nat) : Option Int32 := otold (M 56 s) (fun w => M 57 (120 * s + w)) w
def xend (M : Mem) (w : Nat) (g : Bool) : Int32 := s_end (xsch M w) (xtold M 0 w) (xtold M 1 w) g
def mend (M : Mem) (w : Nat) (g : Bool) : Int32 := s_end (msch M w) (mtold M 0 w) (mtold M 1 w) g
theorem otold_r {sz : Int32} {pl : Nat → Int32} {w : Nat} {v : Int32} (h : otold sz pl w = some v) : 0 ≤ v ∧ v ≤ 7 := by
  unfold otold at h
  split at h
  next hc => simp at h; subst h; exact hc.2
  next => cases h
theorem ov_no {sz : Int32} {pl : Nat → Int32} {w : Nat} : ov (otold sz pl w) = -2000000005 ↔ otold sz pl w = none := by
  cases h : otold sz pl w with
  | none => simp [ov]
  | some v =>
    have := otold_r h
    simp only [ov, Option.getD_some]
    constructor
    · intro e; rw [e] at this; exact absurd this.1 (by decide)
    · intro e; cases e
theorem om_no {sz : Int32} {pl : Nat → Int32} {w : Nat} : om (otold sz pl w) < 0 ↔ otold sz pl w = none := by
  cases h : otold sz pl w with
  | none => simp [om]
  | some v =>
    have := otold_r h
    simp only [om, Option.getD_some]
    constructor
    · intro e; exact absurd e (by grind)
    · intro e; cases e
set_option maxHeartbeats 4000000 in
set_option maxRecDepth 100000 in
theorem c_X7_toldFor_0 {K : Kt} {d : Nat} {M : Mem} {w : Nat} (hw : w < 120) : Ri K (d + 1) mX7_toldFor [rf K 23, .int (nI w)] M (ov (xtold M 0 w)) M := by
  refine Ri_int RX7 [(0, rf K 23), (1, .int (nI w))] rfl (by decide) rfl (Nat.le_of_ble_eq_true rfl) rfl (fun x C => ?_)
  have hw0 : 0 ≤ nI w := nI_pos' (by omega)
  refine G_iload_n C dX7_toldFor_0 rfl ?_
  refine G_aload_r C dX7_toldFor_1 rfl ?_
  refine G_getI C fo_X7_15 rfl rfl dX7_toldFor_2 ?_
  refine G_cNr2 C ok_X9_isBelow lk_X7_25 (c_X9_isBelow) (Nat.le_of_ble_eq_true rfl) dX7_toldFor_5 ?_
  refine G_if_eq C 23 dX7_toldFor_8 (by decide) (fun h8 => ?_) (fun h8 => ?_)
  · rw [bl_z] at h8
    refine G_ldc C kc_X7_33 dX7_toldFor_23 ?_
    exact G_retR C dX7_toldFor_25 (by simp only [ov, xtold, otold]; grind) rfl
  · rw [bl_z] at h8
    refine G_aload_r C dX7_toldFor_11 rfl ?_
    refine G_getR C fo_X7_9 rfl rfl dX7_toldFor_12 ?_
    refine G_iload_n C dX7_toldFor_15 rfl ?_
    refine G_baldN C rfl (by assumption) (by decide) dX7_toldFor_16 ?_
    refine G_cNr1 C ok_X9_areNights lk_X7_29 (c_X9_areNights) (Nat.le_of_ble_eq_true rfl) dX7_toldFor_17 ?_
    refine G_if_ne C 26 dX7_toldFor_20 (by decide) (fun h20 => ?_) (fun h20 => ?_)
    · rw [bl_z] at h20
      refine G_aload_r C dX7_toldFor_26 rfl ?_
      refine G_getR C fo_X7_9 rfl rfl dX7_toldFor_27 ?_
      refine G_iload_n C dX7_toldFor_30 rfl ?_
      refine G_baldN C rfl (by assumption) (by decide) dX7_toldFor_31 ?_
      exact G_retR C dX7_toldFor_32 (by simp only [ov, xtold, otold]; grind) rfl
    · rw [bl_z] at h20
      refine G_ldc C kc_X7_33 dX7_toldFor_23 ?_
      exact G_retR C dX7_toldFor_25 (by simp only [ov, xtold, otold]; grind) rfl
set_option maxHeartbeats 4000000 in
set_option maxRecDepth 100000 in
theorem c_X7_toldFor_1 {K : Kt} {d : Nat} {M : Mem} {w : Nat} (hw : w < 120) : Ri K (d + 1) mX7_toldFor [rf K 24, .int (nI w)] M (ov (xtold M 1 w)) M := by
  refine Ri_int RX7 [(0, rf K 24), (1, .int (nI w))] rfl (by decide) rfl (Nat.le_of_ble_eq_true rfl) rfl (fun x C => ?_)
  have hw0 : 0 ≤ nI w := nI_pos' (by omega)
  refine G_iload_n C dX7_toldFor_0 rfl ?_
  refine G_aload_r C dX7_toldFor_1 rfl ?_
  refine G_getI C fo_X7_15 rfl rfl dX7_toldFor_2 ?_
  refine G_cNr2 C ok_X9_isBelow lk_X7_25 (c_X9_isBelow) (Nat.le_of_ble_eq_true rfl) dX7_toldFor_5 ?_
  refine G_if_eq C 23 dX7_toldFor_8 (by decide) (fun h8 => ?_) (fun h8 => ?_)
  · rw [bl_z] at h8
    refine G_ldc C kc_X7_33 dX7_toldFor_23 ?_
    exact G_retR C dX7_toldFor_25 (by simp only [ov, xtold, otold]; grind) rfl
  · rw [bl_z] at h8
    refine G_aload_r C dX7_toldFor_11 rfl ?_
    refine G_getR C fo_X7_9 rfl rfl dX7_toldFor_12 ?_
    refine G_iload_n C dX7_toldFor_15 rfl ?_
    refine G_baldN C rfl (by assumption) (by decide) dX7_toldFor_16 ?_
    refine G_cNr1 C ok_X9_areNights lk_X7_29 (c_X9_areNights) (Nat.le_of_ble_eq_true rfl) dX7_toldFor_17 ?_
    refine G_if_ne C 26 dX7_toldFor_20 (by decide) (fun h20 => ?_) (fun h20 => ?_)
    · rw [bl_z] at h20
      refine G_aload_r C dX7_toldFor_26 rfl ?_
      refine G_getR C fo_X7_9 rfl rfl dX7_toldFor_27 ?_
      refine G_iload_n C dX7_toldFor_30 rfl ?_
      refine G_baldN C rfl (by assumption) (by decide) dX7_toldFor_31 ?_
      exact G_retR C dX7_toldFor_32 (by simp only [ov, xtold, otold]; grind) rfl
    · rw [bl_z] at h20
      refine G_ldc C kc_X7_33 dX7_toldFor_23 ?_
      exact G_retR C dX7_toldFor_25 (by simp only [ov, xtold, otold]; grind) rfl
set_option maxHeartbeats 4000000 in
set_option maxRecDepth 100000 in
theorem c_X10_diary {K : Kt} {d : Nat} {M : Mem} {s w : Nat} (hs : s < 2) (hw : w < 120) : Ri K (d + 1) mX10_diary [rf K 36, .int (nI s), .int (nI w)] M (om (mtold M s w)) M := by
  refine Ri_int RX10 [(0, rf K 36), (1, .int (nI s)), (2, .int (nI w))] rfl (by decide) rfl (Nat.le_of_ble_eq_true rfl) rfl (fun x C => ?_)
  refine G_iload_n C dX10_diary_0 rfl ?_
  refine G_aload_r C dX10_diary_1 rfl ?_
  refine G_getR C fo_X10_72 rfl rfl dX10_diary_2 ?_
  refine G_iload_n C dX10_diary_5 rfl ?_
  refine G_ialdN C rfl (by assumption) (by decide) dX10_diary_6 ?_
  refine G_icmp_lt C 12 dX10_diary_7 (by decide) (fun h7 => ?_) (fun h7 => ?_)
  · refine G_aload_r C dX10_diary_12 rfl ?_
    refine G_getR C fo_X10_75 rfl rfl dX10_diary_13 ?_
    refine G_bipush C (nI 120) dX10_diary_16 (by decide) ?_
    refine G_iload_n C dX10_diary_18 rfl ?_
    refine G_imul C dX10_diary_19 ?_
    refine G_iload_n C dX10_diary_20 rfl ?_
    refine G_iadd C dX10_diary_21 ?_
    rw [pk_mul, nI_add]
    refine G_ialdN C rfl (by omega) (by decide) dX10_diary_22 ?_
    refine G_istore_n C dX10_diary_23 (by decide) ?_
    refine G_iload_n C dX10_diary_24 rfl ?_
    refine G_iconst C (0) dX10_diary_25 (by decide) ?_
    refine G_bipush C (7) dX10_diary_26 (by decide) ?_
    refine G_cSr3 C ok_X10_isIn lk_X10_90 (c_X10_isIn) (Nat.le_of_ble_eq_true rfl) dX10_diary_28 ?_
    refine G_if_eq C 38 dX10_diary_31 (by decide) (fun h31 => ?_) (fun h31 => ?_)
    · rw [bl_z] at h31
      refine G_iconst C (-1) dX10_diary_38 (by decide) ?_
      exact G_retR C dX10_diary_39 (by simp only [om, mtold, otold]; grind) rfl
    · rw [bl_z] at h31
      refine G_iload_n C dX10_diary_34 rfl ?_
      refine G_goto C 39 dX10_diary_35 (by decide) ?_
      exact G_retR C dX10_diary_39 (by simp only [om, mtold, otold]; grind) rfl
  · refine G_iconst C (-1) dX10_diary_10 (by decide) ?_
    exact G_retR C dX10_diary_11 (by simp only [om, mtold, otold]; grind) rfl
set_option maxHeartbeats 4000000 in
set_option maxRecDepth 100000 in
theorem c_X5_atEnd {K : Kt} {d : Nat} {M : Mem} {w : Nat} {g : Int32} (hw : w < 120) : Ri K (d + 2) mX5_atEnd [rf K 21, .int (nI w), .int g] M (xend M w (decide (¬ g = 0))) M := by
  refine Ri_int RX5 [(0, rf K 21), (1, .int (nI w)), (2, .int g)] rfl (by decide) rfl (Nat.le_of_ble_eq_true rfl) rfl (fun x C => ?_)
  have n0 : ov (xtold M 0 w) = -2000000005 ↔ xtold M 0 w = none := ov_no
  have n1 : ov (xtold M 1 w) = -2000000005 ↔ xtold M 1 w = none := ov_no
  refine G_aload_r C dX5_atEnd_0 rfl ?_
  refine G_getR C fo_X5_18 rfl rfl dX5_atEnd_1 ?_
  refine G_iload_n C dX5_atEnd_4 rfl ?_
  refine G_ialdN C rfl (by assumption) (by decide) dX5_atEnd_5 ?_
  refine G_ldc C kc_X5_22 dX5_atEnd_6 ?_
  refine G_icmp_eq C 18 dX5_atEnd_8 (by decide) (fun h8 => ?_) (fun h8 => ?_)
  · refine G_aload_r C dX5_atEnd_18 rfl ?_
    refine G_getR C fo_X5_12 rfl rfl dX5_atEnd_19 ?_
    refine G_iconst C (nI 0) dX5_atEnd_22 (by decide) ?_
    refine G_aald C rfl (by decide) (vp_in_nI (by decide) (by decide)) rfl dX5_atEnd_23 ?_
    refine G_iload_n C dX5_atEnd_24 rfl ?_
    refine G_cVr1 C ok_X7_toldFor lk_X5_44 rfl rfl (c_X7_toldFor_0 hw) (Nat.le_of_ble_eq_true rfl) dX5_atEnd_25 ?_
    refine G_istore_n C dX5_atEnd_28 (by decide) ?_
    refine G_aload_r C dX5_atEnd_29 rfl ?_
    refine G_getR C fo_X5_12 rfl rfl dX5_atEnd_30 ?_
    refine G_iconst C (nI 1) dX5_atEnd_33 (by decide) ?_
    refine G_aald C rfl (by decide) (vp_in_nI (by decide) (by decide)) rfl dX5_atEnd_34 ?_
    refine G_iload_n C dX5_atEnd_35 rfl ?_
    refine G_cVr1 C ok_X7_toldFor lk_X5_44 rfl rfl (c_X7_toldFor_1 hw) (Nat.le_of_ble_eq_true rfl) dX5_atEnd_36 ?_
    refine G_istore C dX5_atEnd_39 (by decide) ?_
    refine G_iload_n C dX5_atEnd_41 rfl ?_
    refine G_ldc C kc_X5_22 dX5_atEnd_42 ?_
    refine G_icmp_ne C 56 dX5_atEnd_44 (by decide) (fun h44 => ?_) (fun h44 => ?_)
    · refine G_iload_n C dX5_atEnd_56 rfl ?_
      refine G_ldc C kc_X5_22 dX5_atEnd_57 ?_
      refine G_icmp_ne C 65 dX5_atEnd_59 (by decide) (fun h59 => ?_) (fun h59 => ?_)
      · refine G_iload C dX5_atEnd_65 rfl ?_
        refine G_ldc C kc_X5_22 dX5_atEnd_67 ?_
        refine G_icmp_ne C 74 dX5_atEnd_69 (by decide) (fun h69 => ?_) (fun h69 => ?_)
        · refine G_iload_n C dX5_atEnd_74 rfl ?_
          refine G_if_eq C 87 dX5_atEnd_75 (by decide) (fun h75 => ?_) (fun h75 => ?_)
          · refine G_iload_n C dX5_atEnd_87 rfl ?_
            refine G_iload C dX5_atEnd_88 rfl ?_
            refine G_mmin C lk_X5_53 ms_min mi_math mc_min (Nat.le_of_ble_eq_true rfl) dX5_atEnd_90 ?_
            exact G_retR C dX5_atEnd_93 (by clear C; simp only [xend, xsch]; cases e0 : xtold M 0 w <;> cases e1 : xtold M 1 w <;> simp_all [s_end, ov] <;> grind) rfl
          · refine G_iload_n C dX5_atEnd_78 rfl ?_
            refine G_iload C dX5_atEnd_79 rfl ?_
            refine G_mmax C lk_X5_47 ms_max mi_math mc_max (Nat.le_of_ble_eq_true rfl) dX5_atEnd_81 ?_
            refine G_goto C 93 dX5_atEnd_84 (by decide) ?_
            exact G_retR C dX5_atEnd_93 (by clear C; simp only [xend, xsch]; cases e0 : xtold M 0 w <;> cases e1 : xtold M 1 w <;> simp_all [s_end, ov] <;> grind) rfl
        · refine G_iload_n C dX5_atEnd_72 rfl ?_
          exact G_retR C dX5_atEnd_73 (by clear C; simp only [xend, xsch]; cases e0 : xtold M 0 w <;> cases e1 : xtold M 1 w <;> simp_all [s_end, ov] <;> grind) rfl
      · refine G_iload C dX5_atEnd_62 rfl ?_
        exact G_retR C dX5_atEnd_64 (by clear C; simp only [xend, xsch]; cases e0 : xtold M 0 w <;> cases e1 : xtold M 1 w <;> simp_all [s_end, ov] <;> grind) rfl
    · refine G_iload C dX5_atEnd_47 rfl ?_
      refine G_ldc C kc_X5_22 dX5_atEnd_49 ?_
      refine G_icmp_ne C 56 dX5_atEnd_51 (by decide) (fun h51 => ?_) (fun h51 => ?_)
      · refine G_iload_n C dX5_atEnd_56 rfl ?_
        refine G_ldc C kc_X5_22 dX5_atEnd_57 ?_
        refine G_icmp_ne C 65 dX5_atEnd_59 (by decide) (fun h59 => ?_) (fun h59 => ?_)
        · refine G_iload C dX5_atEnd_65 rfl ?_
          refine G_ldc C kc_X5_22 dX5_atEnd_67 ?_
          refine G_icmp_ne C 74 dX5_atEnd_69 (by decide) (fun h69 => ?_) (fun h69 => ?_)
          · refine G_iload_n C dX5_atEnd_74 rfl ?_
            refine G_if_eq C 87 dX5_atEnd_75 (by decide) (fun h75 => ?_) (fun h75 => ?_)
            · refine G_iload_n C dX5_atEnd_87 rfl ?_
              refine G_iload C dX5_atEnd_88 rfl ?_
              refine G_mmin C lk_X5_53 ms_min mi_math mc_min (Nat.le_of_ble_eq_true rfl) dX5_atEnd_90 ?_
              exact G_retR C dX5_atEnd_93 (by clear C; simp only [xend, xsch]; cases e0 : xtold M 0 w <;> cases e1 : xtold M 1 w <;> simp_all [s_end, ov] <;> grind) rfl
            · refine G_iload_n C dX5_atEnd_78 rfl ?_
              refine G_iload C dX5_atEnd_79 rfl ?_
              refine G_mmax C lk_X5_47 ms_max mi_math mc_max (Nat.le_of_ble_eq_true rfl) dX5_atEnd_81 ?_
              refine G_goto C 93 dX5_atEnd_84 (by decide) ?_
              exact G_retR C dX5_atEnd_93 (by clear C; simp only [xend, xsch]; cases e0 : xtold M 0 w <;> cases e1 : xtold M 1 w <;> simp_all [s_end, ov] <;> grind) rfl
          · refine G_iload_n C dX5_atEnd_72 rfl ?_
            exact G_retR C dX5_atEnd_73 (by clear C; simp only [xend, xsch]; cases e0 : xtold M 0 w <;> cases e1 : xtold M 1 w <;> simp_all [s_end, ov] <;> grind) rfl
        · refine G_iload C dX5_atEnd_62 rfl ?_
          exact G_retR C dX5_atEnd_64 (by clear C; simp only [xend, xsch]; cases e0 : xtold M 0 w <;> cases e1 : xtold M 1 w <;> simp_all [s_end, ov] <;> grind) rfl
      · refine G_iconst C (0) dX5_atEnd_54 (by decide) ?_
        exact G_retR C dX5_atEnd_55 (by clear C; simp only [xend, xsch]; cases e0 : xtold M 0 w <;> cases e1 : xtold M 1 w <;> simp_all [s_end, ov] <;> grind) rfl
  · refine G_aload_r C dX5_atEnd_11 rfl ?_
    refine G_getR C fo_X5_18 rfl rfl dX5_atEnd_12 ?_
    refine G_iload_n C dX5_atEnd_15 rfl ?_
    refine G_ialdN C rfl (by assumption) (by decide) dX5_atEnd_16 ?_
    exact G_retR C dX5_atEnd_17 (by clear C; simp only [xend, xsch]; cases e0 : xtold M 0 w <;> cases e1 : xtold M 1 w <;> simp_all [s_end, ov] <;> grind) rfl
set_option maxHeartbeats 4000000 in
set_option maxRecDepth 100000 in
theorem c_X5_lesser {K : Kt} {d : Nat} {M : Mem} {w : Nat} (hw : w < 120) : Ri K (d + 3) mX5_lesser [rf K 21, .int (nI w)] M (xend M w false) M := by
  refine Ri_int RX5 [(0, rf K 21), (1, .int (nI w))] rfl (by decide) rfl (Nat.le_of_ble_eq_true rfl) rfl (fun x C => ?_)
  refine G_aload_r C dX5_lesser_0 rfl ?_
  refine G_iload_n C dX5_lesser_1 rfl ?_
  refine G_iconst C (0) dX5_lesser_2 (by decide) ?_
  refine G_cVr2 C ok_X5_atEnd lk_X5_29 rfl rfl (c_X5_atEnd hw) (Nat.le_of_ble_eq_true rfl) dX5_lesser_3 ?_
  exact G_retR C dX5_lesser_6 (by simp) rfl
set_option maxHeartbeats 4000000 in
set_option maxRecDepth 100000 in
theorem c_X5_greater {K : Kt} {d : Nat} {M : Mem} {w : Nat} (hw : w < 120) : Ri K (d + 3) mX5_greater [rf K 21, .int (nI w)] M (xend M w true) M := by
  refine Ri_int RX5 [(0, rf K 21), (1, .int (nI w))] rfl (by decide) rfl (Nat.le_of_ble_eq_true rfl) rfl (fun x C => ?_)
  refine G_aload_r C dX5_greater_0 rfl ?_
  refine G_iload_n C dX5_greater_1 rfl ?_
  refine G_iconst C (1) dX5_greater_2 (by decide) ?_
  refine G_cVr2 C ok_X5_atEnd lk_X5_29 rfl rfl (c_X5_atEnd hw) (Nat.le_of_ble_eq_true rfl) dX5_greater_3 ?_
  exact G_retR C dX5_greater_6 (by simp) rfl
set_option maxHeartbeats 4000000 in
set_option maxRecDepth 100000 in
theorem c_X5_areUnlike {K : Kt} {d : Nat} {M : Mem} {w : Nat} (hw : w < 120) : Ri K (d + 4) mX5_areUnlike [rf K 21, .int (nI w)] M (bl (¬ xend M w false = xend M w true)) M := by
  refine Ri_bool RX5 [(0, rf K 21), (1, .int (nI w))] rfl (by decide) rfl (Nat.le_of_ble_eq_true rfl) rfl bl_or (fun x C => ?_)
  refine G_aload_r C dX5_areUnlike_0 rfl ?_
  refine G_iload_n C dX5_areUnlike_1 rfl ?_
  refine G_cVr1 C ok_X5_lesser lk_X5_33 rfl rfl (c_X5_lesser hw) (Nat.le_of_ble_eq_true rfl) dX5_areUnlike_2 ?_
  refine G_aload_r C dX5_areUnlike_5 rfl ?_
  refine G_iload_n C dX5_areUnlike_6 rfl ?_
  refine G_cVr1 C ok_X5_greater lk_X5_37 rfl rfl (c_X5_greater hw) (Nat.le_of_ble_eq_true rfl) dX5_areUnlike_7 ?_
  refine G_icmp_eq C 17 dX5_areUnlike_10 (by decide) (fun h10 => ?_) (fun h10 => ?_)
  · refine G_iconst C (0) dX5_areUnlike_17 (by decide) ?_
    exact G_retR C dX5_areUnlike_18 (by first | exact (bl_t (by assumption)).symm | exact (bl_f (by simp; assumption)).symm) rfl
  · refine G_iconst C (1) dX5_areUnlike_13 (by decide) ?_
    refine G_goto C 18 dX5_areUnlike_14 (by decide) ?_
    exact G_retR C dX5_areUnlike_18 (by first | exact (bl_t (by assumption)).symm | exact (bl_f (by simp; assumption)).symm) rfl
def s_cnt (p : Nat → Bool) : Nat → Int32
  | 0 => 0
  | n + 1 => bif p n then s_cnt p n + 1 else s_cnt p n
theorem s_cnt_t {p : Nat → Bool} {n : Nat} (h : p n = true) : s_cnt p (n + 1) = s_cnt p n + 1 := by simp [s_cnt, h]
theorem s_cnt_f {p : Nat → Bool} {n : Nat} (h : p n = false) : s_cnt p (n + 1) = s_cnt p n := by simp [s_cnt, h]
theorem s_cnt_cong {p q : Nat → Bool} : ∀ {n : Nat}, (∀ i, i < n → p i = q i) → s_cnt p n = s_cnt q n
  | 0, _ => rfl
  | n + 1, h => by
    simp only [s_cnt]
    rw [s_cnt_cong (n := n) (fun i hi => h i (by omega)), h n (by omega)]
set_option maxHeartbeats 4000000 in
set_option maxRecDepth 100000 in
theorem L_X5_unlikeWeeks {K : Kt} {d : Nat} {M : Mem} {n : Nat} {x : Cx} {o : Int32} (h120 : n < 120) (ho : o = s_cnt (fun w => decide (¬ xend M w false = xend M w true)) (n + 1)) (C : Cok K x RX5 cX5_unlikeWeeks 4 (d + 5) (RI (fun v N => v = o ∧ N = M))) :
    ∀ (t j : Nat) (b : Int32), n + 1 < j + t → j ≤ n + 1 → b = s_cnt (fun w => decide (¬ xend M w false = xend M w true)) j → G K x 4 4 [(0, rf K 21), (1, .int (nI n)), (2, .int b), (3, .int (nI j))] [] M := by
  intro t
  induction t with
  | zero => intro j b h1 h2; omega
  | succ t ih =>
    intro j b h1 h2 hb
    refine G_iload_n C dX5_unlikeWeeks_4 rfl ?_
    refine G_iload_n C dX5_unlikeWeeks_5 rfl ?_
    refine G_icmp_gt C 26 dX5_unlikeWeeks_6 (by decide) (fun h6 => ?_) (fun h6 => ?_)
    · have hE : j = n + 1 := by have := (nI_ltI (a := n) (b := j) (by omega) (by omega)).mp h6; omega
      refine G_iload_n C dX5_unlikeWeeks_26 rfl ?_
      exact G_retR C dX5_unlikeWeeks_27 (by rw [ho, hb, hE]) rfl
    · have hlt : j < n + 1 := by rcases Nat.lt_or_ge n j with q | q; exact absurd ((nI_ltI (by omega) (by omega)).mpr q) h6; omega
      refine G_aload_r C dX5_unlikeWeeks_9 rfl ?_
      refine G_iload_n C dX5_unlikeWeeks_10 rfl ?_
      refine G_cVr1 C ok_X5_areUnlike lk_X5_40 rfl rfl (c_X5_areUnlike (by omega)) (Nat.le_of_ble_eq_true rfl) dX5_unlikeWeeks_11 ?_
      refine G_if_eq C 20 dX5_unlikeWeeks_14 (by decide) (fun h14 => ?_) (fun h14 => ?_)
      · rw [bl_z] at h14
        refine G_iincN C dX5_unlikeWeeks_20 (by decide) rfl ?_
        refine G_goto C 4 dX5_unlikeWeeks_23 (by decide) ?_
        refine G_sub [(0, _), (1, _), (2, _), (3, _)] (by repeat (first | refine And.intro rfl ?_ | exact True.intro)) ?_
        exact ih (j + 1) _ (by omega) (by omega) (hb.trans (s_cnt_f (by simpa using h14)).symm)
      · rw [bl_z] at h14
        refine G_iinc C dX5_unlikeWeeks_17 (by decide) rfl rfl ?_
        refine G_iincN C dX5_unlikeWeeks_20 (by decide) rfl ?_
        refine G_goto C 4 dX5_unlikeWeeks_23 (by decide) ?_
        refine G_sub [(0, _), (1, _), (2, _), (3, _)] (by repeat (first | refine And.intro rfl ?_ | exact True.intro)) ?_
        exact ih (j + 1) _ (by omega) (by omega) ((by rw [hb]; rfl : _ = _).trans (s_cnt_t (by simpa using h14)).symm)
set_option maxHeartbeats 4000000 in
set_option maxRecDepth 100000 in
theorem c_X5_unlikeWeeks {K : Kt} {d : Nat} {M : Mem} {n : Nat} (h120 : n < 120) : Ri K (d + 5) mX5_unlikeWeeks [rf K 21, .int (nI n)] M (s_cnt (fun w => decide (¬ xend M w false = xend M w true)) (n + 1)) M := by
  refine Ri_int RX5 [(0, rf K 21), (1, .int (nI n))] rfl (by decide) rfl (Nat.le_of_ble_eq_true rfl) rfl (fun x C => ?_)
  refine G_iconst C (0) dX5_unlikeWeeks_0 (by decide) ?_
  refine G_istore_n C dX5_unlikeWeeks_1 (by decide) ?_
  refine G_iconst C (nI 0) dX5_unlikeWeeks_2 (by decide) ?_
  refine G_istore_n C dX5_unlikeWeeks_3 (by decide) ?_
  refine G_sub [(0, _), (1, _), (2, _), (3, _)] (by repeat (first | refine And.intro rfl ?_ | exact True.intro)) ?_
  exact L_X5_unlikeWeeks h120 rfl C (n + 2) 0 0 (by omega) (by omega) rfl
set_option maxHeartbeats 4000000 in
set_option maxRecDepth 100000 in
theorem c_X10_end {K : Kt} {d : Nat} {M : Mem} {w : Nat} {g : Int32} (hw : w < 120) (hg : g = 0 ∨ g = 1) : Ri K (d + 2) mX10_end [rf K 36, .int (nI w), .int g] M (mend M w (decide (g = 1))) M := by
  refine Ri_int RX10 [(0, rf K 36), (1, .int (nI w)), (2, .int g)] rfl (by decide) rfl (Nat.le_of_ble_eq_true rfl) rfl (fun x C => ?_)
  have n0 : om (mtold M 0 w) < 0 ↔ mtold M 0 w = none := om_no
  have n1 : om (mtold M 1 w) < 0 ↔ mtold M 1 w = none := om_no
  refine G_aload_r C dX10_end_0 rfl ?_
  refine G_getR C fo_X10_25 rfl rfl dX10_end_1 ?_
  refine G_iload_n C dX10_end_4 rfl ?_
  refine G_ialdN C rfl (by assumption) (by decide) dX10_end_5 ?_
  refine G_if_lt C 16 dX10_end_6 (by decide) (fun h6 => ?_) (fun h6 => ?_)
  · refine G_aload_r C dX10_end_16 rfl ?_
    refine G_iconst C (nI 0) dX10_end_17 (by decide) ?_
    refine G_iload_n C dX10_end_18 rfl ?_
    refine G_cVr2 C ok_X10_diary lk_X10_136 rfl rfl (c_X10_diary (by decide) hw) (Nat.le_of_ble_eq_true rfl) dX10_end_19 ?_
    refine G_istore_n C dX10_end_22 (by decide) ?_
    refine G_aload_r C dX10_end_23 rfl ?_
    refine G_iconst C (nI 1) dX10_end_24 (by decide) ?_
    refine G_iload_n C dX10_end_25 rfl ?_
    refine G_cVr2 C ok_X10_diary lk_X10_136 rfl rfl (c_X10_diary (by decide) hw) (Nat.le_of_ble_eq_true rfl) dX10_end_26 ?_
    refine G_istore C dX10_end_29 (by decide) ?_
    refine G_iload_n C dX10_end_31 rfl ?_
    refine G_if_lt C 40 dX10_end_32 (by decide) (fun h32 => ?_) (fun h32 => ?_)
    · refine G_iload_n C dX10_end_40 rfl ?_
      refine G_if_ge C 49 dX10_end_41 (by decide) (fun h41 => ?_) (fun h41 => ?_)
      · refine G_iload_n C dX10_end_49 rfl ?_
        refine G_istore C dX10_end_50 (by decide) ?_
        refine G_iload C dX10_end_52 rfl ?_
        refine G_if_ge C 61 dX10_end_54 (by decide) (fun h54 => ?_) (fun h54 => ?_)
        · refine G_iload C dX10_end_61 rfl ?_
          exact G_retR C dX10_end_63 (by clear C; simp only [mend, msch]; cases e0 : mtold M 0 w <;> cases e1 : mtold M 1 w <;> simp_all [s_end, om] <;> grind) rfl
        · refine G_iconst C (0) dX10_end_57 (by decide) ?_
          refine G_goto C 63 dX10_end_58 (by decide) ?_
          exact G_retR C dX10_end_63 (by clear C; simp only [mend, msch]; cases e0 : mtold M 0 w <;> cases e1 : mtold M 1 w <;> simp_all [s_end, om] <;> grind) rfl
      · refine G_iload C dX10_end_44 rfl ?_
        refine G_goto C 50 dX10_end_46 (by decide) ?_
        refine G_istore C dX10_end_50 (by decide) ?_
        refine G_iload C dX10_end_52 rfl ?_
        refine G_if_ge C 61 dX10_end_54 (by decide) (fun h54 => ?_) (fun h54 => ?_)
        · refine G_iload C dX10_end_61 rfl ?_
          exact G_retR C dX10_end_63 (by clear C; simp only [mend, msch]; cases e0 : mtold M 0 w <;> cases e1 : mtold M 1 w <;> simp_all [s_end, om] <;> grind) rfl
        · refine G_iconst C (0) dX10_end_57 (by decide) ?_
          refine G_goto C 63 dX10_end_58 (by decide) ?_
          exact G_retR C dX10_end_63 (by clear C; simp only [mend, msch]; cases e0 : mtold M 0 w <;> cases e1 : mtold M 1 w <;> simp_all [s_end, om] <;> grind) rfl
    · refine G_iload C dX10_end_35 rfl ?_
      refine G_if_ge C 64 dX10_end_37 (by decide) (fun h37 => ?_) (fun h37 => ?_)
      · refine G_iload_n C dX10_end_64 rfl ?_
        refine G_iload C dX10_end_65 rfl ?_
        refine G_icmp_ge C 74 dX10_end_67 (by decide) (fun h67 => ?_) (fun h67 => ?_)
        · refine G_iconst C (0) dX10_end_74 (by decide) ?_
          refine G_iload_n C dX10_end_75 rfl ?_
          refine G_icmp_ne C 84 dX10_end_76 (by decide) (fun h76 => ?_) (fun h76 => ?_)
          · refine G_iload_n C dX10_end_84 rfl ?_
            exact G_retR C dX10_end_85 (by clear C; simp only [mend, msch]; cases e0 : mtold M 0 w <;> cases e1 : mtold M 1 w <;> simp_all [s_end, om] <;> grind) rfl
          · refine G_iload C dX10_end_79 rfl ?_
            refine G_goto C 85 dX10_end_81 (by decide) ?_
            exact G_retR C dX10_end_85 (by clear C; simp only [mend, msch]; cases e0 : mtold M 0 w <;> cases e1 : mtold M 1 w <;> simp_all [s_end, om] <;> grind) rfl
        · refine G_iconst C (1) dX10_end_70 (by decide) ?_
          refine G_goto C 75 dX10_end_71 (by decide) ?_
          refine G_iload_n C dX10_end_75 rfl ?_
          refine G_icmp_ne C 84 dX10_end_76 (by decide) (fun h76 => ?_) (fun h76 => ?_)
          · refine G_iload_n C dX10_end_84 rfl ?_
            exact G_retR C dX10_end_85 (by clear C; simp only [mend, msch]; cases e0 : mtold M 0 w <;> cases e1 : mtold M 1 w <;> simp_all [s_end, om] <;> grind) rfl
          · refine G_iload C dX10_end_79 rfl ?_
            refine G_goto C 85 dX10_end_81 (by decide) ?_
            exact G_retR C dX10_end_85 (by clear C; simp only [mend, msch]; cases e0 : mtold M 0 w <;> cases e1 : mtold M 1 w <;> simp_all [s_end, om] <;> grind) rfl
      · refine G_iload_n C dX10_end_40 rfl ?_
        refine G_if_ge C 49 dX10_end_41 (by decide) (fun h41 => ?_) (fun h41 => ?_)
        · refine G_iload_n C dX10_end_49 rfl ?_
          refine G_istore C dX10_end_50 (by decide) ?_
          refine G_iload C dX10_end_52 rfl ?_
          refine G_if_ge C 61 dX10_end_54 (by decide) (fun h54 => ?_) (fun h54 => ?_)
          · refine G_iload C dX10_end_61 rfl ?_
            exact G_retR C dX10_end_63 (by clear C; simp only [mend, msch]; cases e0 : mtold M 0 w <;> cases e1 : mtold M 1 w <;> simp_all [s_end, om] <;> grind) rfl
          · refine G_iconst C (0) dX10_end_57 (by decide) ?_
            refine G_goto C 63 dX10_end_58 (by decide) ?_
            exact G_retR C dX10_end_63 (by clear C; simp only [mend, msch]; cases e0 : mtold M 0 w <;> cases e1 : mtold M 1 w <;> simp_all [s_end, om] <;> grind) rfl
        · refine G_iload C dX10_end_44 rfl ?_
          refine G_goto C 50 dX10_end_46 (by decide) ?_
          refine G_istore C dX10_end_50 (by decide) ?_
          refine G_iload C dX10_end_52 rfl ?_
          refine G_if_ge C 61 dX10_end_54 (by decide) (fun h54 => ?_) (fun h54 => ?_)
          · refine G_iload C dX10_end_61 rfl ?_
            exact G_retR C dX10_end_63 (by clear C; simp only [mend, msch]; cases e0 : mtold M 0 w <;> cases e1 : mtold M 1 w <;> simp_all [s_end, om] <;> grind) rfl
          · refine G_iconst C (0) dX10_end_57 (by decide) ?_
            refine G_goto C 63 dX10_end_58 (by decide) ?_
            exact G_retR C dX10_end_63 (by clear C; simp only [mend, msch]; cases e0 : mtold M 0 w <;> cases e1 : mtold M 1 w <;> simp_all [s_end, om] <;> grind) rfl
  · refine G_aload_r C dX10_end_9 rfl ?_
    refine G_getR C fo_X10_25 rfl rfl dX10_end_10 ?_
    refine G_iload_n C dX10_end_13 rfl ?_
    refine G_ialdN C rfl (by assumption) (by decide) dX10_end_14 ?_
    exact G_retR C dX10_end_15 (by clear C; simp only [mend, msch]; cases e0 : mtold M 0 w <;> cases e1 : mtold M 1 w <;> simp_all [s_end, om] <;> grind) rfl
end
section
theorem G_join {K : Kt} {x : Cx} {nL pc : Nat} {lv : List (Nat × Value)} {st : List Value} {M : Mem} (pc' : Nat) (st' : List Value) (h : G K x nL pc' lv st' M → G K x nL pc lv st M) (k : G K x nL pc' lv st' M) : G K x nL pc lv st M := h k
theorem G_top {K : Kt} {x : Cx} {nL pc : Nat} {lv : List (Nat × Value)} {st : List Value} {M : Mem} {v : Int32} (k : ∀ y : Int32, y = v → G K x nL pc lv (.int y :: st) M) : G K x nL pc lv (.int v :: st) M := k v rfl
theorem lay_law : ∀ j, j < 9 → layL[12 + j]? = some (.inl (3, [none, none, none, none, none, none, none, none]))
  | 0, _ => rfl
  | 1, _ => rfl
  | 2, _ => rfl
  | 3, _ => rfl
  | 4, _ => rfl
  | 5, _ => rfl
  | 6, _ => rfl
  | 7, _ => rfl
  | 8, _ => rfl
  | n + 9, h => by omega
theorem row_law : ∀ j, j < 9 → ([12, 13, 14, 15, 16, 17, 18, 19, 20] : List Nat)[j]? = some (12 + j) := by decide
theorem G_law {K : Kt} {x : Cx} {own : String} {cc : ByteArray} {nL d : Nat} {Rp : Option Int32 → Mem → Prop} {pc : Nat} {lv : List (Nat × Value)} {st : List Value} {M : Mem} (C : Cok K x own cc nL d Rp) {j : Nat} (hj : j < 9) (hd : decode cc pc = .ok (.aaload, 1)) (k9 : G K x nL (pc + 1) lv (rf K (12 + j) :: st) M) : G K x nL pc lv (.int (nI j) :: rf K 11 :: st) M :=
  G_aald C (rs := [12, 13, 14, 15, 16, 17, 18, 19, 20]) rfl (Or.inl rfl) (vp_in_nI hj (by decide)) (by rw [nI_clamp (by omega)]; exact row_law j hj) hd k9
def xlb (M : Mem) (n : Nat) (w : Int32) : Option Nat := s_best (fun i => decide (M (12 + i) 0 ≤ w)) (fun i => M (12 + i) 0) n
def mlb (M : Mem) (n : Nat) (w : Int32) : Option Nat := s_best (fun i => decide (M 44 i ≤ w)) (M 44) n
set_option maxHeartbeats 4000000 in
set_option maxRecDepth 100000 in
theorem L_X4_numberAt {K : Kt} {d : Nat} {M : Mem} {n : Nat} {w : Int32} {x : Cx} {o : Option Nat} (hn : M 10 1 = nI n) (h8 : n ≤ 8) (ho : o = xlb M n w) (C : Cok K x RX4 cX4_numberAt 4 d (RI (fun v N => v = ixv o ∧ N = M))) :
    ∀ (t j : Nat) (b : Option Nat), n < j + t → j ≤ n → b = xlb M j w → G K x 4 5 [(0, rf K 10), (1, .int w), (2, .int (ixv b)), (3, .int (nI j))] [] M := by
  intro t
  induction t with
  | zero => intro j b h1 h2; omega
  | succ t ih =>
    intro j b h1 h2 hb
    have hj : j ≤ 8 := by omega
    have hbl : ∀ q, b = some q → q < j := fun q hq => s_best_lt (hb.symm.trans hq)
    have hbn : ixv b = -2000000005 ↔ b = none := ixv_none (fun q hq => by have := hbl q hq; omega)
    refine G_iload_n C dX4_numberAt_5 rfl ?_
    refine G_aload_r C dX4_numberAt_6 rfl ?_
    refine G_getI C fo_X4_19 rfl rfl dX4_numberAt_7 ?_
    refine G_icmp_ge C 64 dX4_numberAt_10 (by decide) (fun h10 => ?_) (fun h10 => ?_)
    · have hE : j = n := by have := n_le hn h8 hj (by decide) h10; omega
      refine G_iload_n C dX4_numberAt_64 rfl ?_
      exact G_retR C dX4_numberAt_65 (by rw [ho, hb, hE]) rfl
    · have hlt : j < n := n_gt hn h8 hj (by decide) h10
      have hj8 : j < 8 := by omega
      refine G_aload_r C dX4_numberAt_13 rfl ?_
      refine G_getR C fo_X4_11 rfl rfl dX4_numberAt_14 ?_
      refine G_iload_n C dX4_numberAt_17 rfl ?_
      refine G_law C (j := j) (by omega) dX4_numberAt_18 ?_
      refine G_getI C fo_X4_23 (lay_law j (by omega)) rfl dX4_numberAt_19 ?_
      refine G_iload_n C dX4_numberAt_22 rfl ?_
      refine G_icmp_le C 29 dX4_numberAt_23 (by decide) (fun h23 => ?_) (fun h23 => ?_)
      · refine G_iload_n C dX4_numberAt_29 rfl ?_
        refine G_ldc C kc_X4_18 dX4_numberAt_30 ?_
        refine G_icmp_eq C 56 dX4_numberAt_32 (by decide) (fun h32 => ?_) (fun h32 => ?_)
        · rw [hbn] at h32
          refine G_iload_n C dX4_numberAt_56 rfl ?_
          refine G_istore_n C dX4_numberAt_57 (by decide) ?_
          refine G_iincN C dX4_numberAt_58 (by decide) rfl ?_
          refine G_goto C 5 dX4_numberAt_61 (by decide) ?_
          refine G_sub [(0, _), (1, _), (2, _), (3, _)] (by repeat (first | refine And.intro rfl ?_ | exact True.intro)) ?_
          exact ih (j + 1) (some j) (by omega) (by omega) (s_best_new (by simp; grind) (hb.symm.trans h32)).symm
        · rw [hbn] at h32
          obtain ⟨q, rfl⟩ : ∃ q, b = some q := by cases b with | none => exact absurd rfl h32 | some q => exact ⟨q, rfl⟩
          have hq8 : q < 8 := by have := hbl q rfl; omega
          simp only [ixv]
          refine G_aload_r C dX4_numberAt_35 rfl ?_
          refine G_getR C fo_X4_11 rfl rfl dX4_numberAt_36 ?_
          refine G_iload_n C dX4_numberAt_39 rfl ?_
          refine G_law C (j := j) (by omega) dX4_numberAt_40 ?_
          refine G_getI C fo_X4_23 (lay_law j (by omega)) rfl dX4_numberAt_41 ?_
          refine G_aload_r C dX4_numberAt_44 rfl ?_
          refine G_getR C fo_X4_11 rfl rfl dX4_numberAt_45 ?_
          refine G_iload_n C dX4_numberAt_48 rfl ?_
          refine G_law C (j := q) (by omega) dX4_numberAt_49 ?_
          refine G_getI C fo_X4_23 (lay_law q (by omega)) rfl dX4_numberAt_50 ?_
          refine G_icmp_lt C 58 dX4_numberAt_53 (by decide) (fun h53 => ?_) (fun h53 => ?_)
          · refine G_iincN C dX4_numberAt_58 (by decide) rfl ?_
            refine G_goto C 5 dX4_numberAt_61 (by decide) ?_
            refine G_sub [(0, _), (1, _), (2, _), (3, _)] (by repeat (first | refine And.intro rfl ?_ | exact True.intro)) ?_
            exact ih (j + 1) (some q) (by omega) (by omega) (s_best_old hb.symm (by grind)).symm
          · refine G_iload_n C dX4_numberAt_56 rfl ?_
            refine G_istore_n C dX4_numberAt_57 (by decide) ?_
            refine G_iincN C dX4_numberAt_58 (by decide) rfl ?_
            refine G_goto C 5 dX4_numberAt_61 (by decide) ?_
            refine G_sub [(0, _), (1, _), (2, _), (3, _)] (by repeat (first | refine And.intro rfl ?_ | exact True.intro)) ?_
            exact ih (j + 1) (some j) (by omega) (by omega) (s_best_up (by simp; grind) hb.symm (by grind)).symm
      · refine G_goto C 58 dX4_numberAt_26 (by decide) ?_
        refine G_iincN C dX4_numberAt_58 (by decide) rfl ?_
        refine G_goto C 5 dX4_numberAt_61 (by decide) ?_
        refine G_sub [(0, _), (1, _), (2, _), (3, _)] (by repeat (first | refine And.intro rfl ?_ | exact True.intro)) ?_
        exact ih (j + 1) b (by omega) (by omega) (hb.trans (s_best_no (by simp; grind)).symm)
set_option maxHeartbeats 4000000 in
set_option maxRecDepth 100000 in
theorem c_X4_numberAt {K : Kt} {d : Nat} {M : Mem} {n : Nat} {w : Int32} (hn : M 10 1 = nI n) (h8 : n ≤ 8) : Ri K d mX4_numberAt [rf K 10, .int w] M (ixv (xlb M n w)) M := by
  refine Ri_int RX4 [(0, rf K 10), (1, .int w)] rfl (by decide) rfl (Nat.le_of_ble_eq_true rfl) rfl (fun x C => ?_)
  refine G_ldc C kc_X4_18 dX4_numberAt_0 ?_
  refine G_istore_n C dX4_numberAt_2 (by decide) ?_
  refine G_iconst C (nI 0) dX4_numberAt_3 (by decide) ?_
  refine G_istore_n C dX4_numberAt_4 (by decide) ?_
  refine G_sub [(0, _), (1, _), (2, _), (3, _)] (by repeat (first | refine And.intro rfl ?_ | exact True.intro)) ?_
  exact L_X4_numberAt hn h8 rfl C (n + 1) 0 none (by omega) (by omega) rfl
set_option maxHeartbeats 4000000 in
set_option maxRecDepth 100000 in
theorem L_X10_lawOf {K : Kt} {d : Nat} {M : Mem} {n : Nat} {w : Int32} {x : Cx} {o : Option Nat} (hn : M 36 9 = nI n) (h8 : n ≤ 8) (ho : o = mlb M n w) (C : Cok K x RX10 cX10_lawOf 4 d (RI (fun v N => v = ixm o ∧ N = M))) :
    ∀ (t j : Nat) (b : Option Nat), n < j + t → j ≤ n → b = mlb M j w → G K x 4 4 [(0, rf K 36), (1, .int w), (2, .int (ixm b)), (3, .int (nI j))] [] M := by
  intro t
  induction t with
  | zero => intro j b h1 h2; omega
  | succ t ih =>
    intro j b h1 h2 hb
    have hj : j ≤ 8 := by omega
    have hbl : ∀ q, b = some q → q < j := fun q hq => s_best_lt (hb.symm.trans hq)
    have hbn : ixm b < 0 ↔ b = none := ixm_neg (fun q hq => by have := hbl q hq; omega)
    refine G_iload_n C dX10_lawOf_4 rfl ?_
    refine G_aload_r C dX10_lawOf_5 rfl ?_
    refine G_getI C fo_X10_184 rfl rfl dX10_lawOf_6 ?_
    refine G_icmp_ge C 49 dX10_lawOf_9 (by decide) (fun h9 => ?_) (fun h9 => ?_)
    · have hE : j = n := by have := n_le hn h8 hj (by decide) h9; omega
      refine G_iload_n C dX10_lawOf_49 rfl ?_
      exact G_retR C dX10_lawOf_50 (by rw [ho, hb, hE]) rfl
    · have hlt : j < n := n_gt hn h8 hj (by decide) h9
      have hj8 : j < 8 := by omega
      refine G_aload_r C dX10_lawOf_12 rfl ?_
      refine G_getR C fo_X10_32 rfl rfl dX10_lawOf_13 ?_
      refine G_iload_n C dX10_lawOf_16 rfl ?_
      refine G_ialdN C rfl (by assumption) (by decide) dX10_lawOf_17 ?_
      refine G_iload_n C dX10_lawOf_18 rfl ?_
      refine G_icmp_gt C 43 dX10_lawOf_19 (by decide) (fun h19 => ?_) (fun h19 => ?_)
      · refine G_iincN C dX10_lawOf_43 (by decide) rfl ?_
        refine G_goto C 4 dX10_lawOf_46 (by decide) ?_
        refine G_sub [(0, _), (1, _), (2, _), (3, _)] (by repeat (first | refine And.intro rfl ?_ | exact True.intro)) ?_
        exact ih (j + 1) b (by omega) (by omega) (hb.trans (s_best_no (by simp; grind)).symm)
      · refine G_iload_n C dX10_lawOf_22 rfl ?_
        refine G_if_lt C 41 dX10_lawOf_23 (by decide) (fun h23 => ?_) (fun h23 => ?_)
        · rw [hbn] at h23
          refine G_iload_n C dX10_lawOf_41 rfl ?_
          refine G_istore_n C dX10_lawOf_42 (by decide) ?_
          refine G_iincN C dX10_lawOf_43 (by decide) rfl ?_
          refine G_goto C 4 dX10_lawOf_46 (by decide) ?_
          refine G_sub [(0, _), (1, _), (2, _), (3, _)] (by repeat (first | refine And.intro rfl ?_ | exact True.intro)) ?_
          exact ih (j + 1) (some j) (by omega) (by omega) (s_best_new (by simp; grind) (hb.symm.trans h23)).symm
        · rw [hbn] at h23
          obtain ⟨q, rfl⟩ : ∃ q, b = some q := by cases b with | none => exact absurd rfl h23 | some q => exact ⟨q, rfl⟩
          have hq8 : q < 8 := by have := hbl q rfl; omega
          simp only [ixm]
          refine G_aload_r C dX10_lawOf_26 rfl ?_
          refine G_getR C fo_X10_32 rfl rfl dX10_lawOf_27 ?_
          refine G_iload_n C dX10_lawOf_30 rfl ?_
          refine G_ialdN C rfl (by assumption) (by decide) dX10_lawOf_31 ?_
          refine G_aload_r C dX10_lawOf_32 rfl ?_
          refine G_getR C fo_X10_32 rfl rfl dX10_lawOf_33 ?_
          refine G_iload_n C dX10_lawOf_36 rfl ?_
          refine G_ialdN C rfl (by assumption) (by decide) dX10_lawOf_37 ?_
          refine G_icmp_lt C 43 dX10_lawOf_38 (by decide) (fun h38 => ?_) (fun h38 => ?_)
          · refine G_iincN C dX10_lawOf_43 (by decide) rfl ?_
            refine G_goto C 4 dX10_lawOf_46 (by decide) ?_
            refine G_sub [(0, _), (1, _), (2, _), (3, _)] (by repeat (first | refine And.intro rfl ?_ | exact True.intro)) ?_
            exact ih (j + 1) (some q) (by omega) (by omega) (s_best_old hb.symm (by grind)).symm
          · refine G_iload_n C dX10_lawOf_41 rfl ?_
            refine G_istore_n C dX10_lawOf_42 (by decide) ?_
            refine G_iincN C dX10_lawOf_43 (by decide) rfl ?_
            refine G_goto C 4 dX10_lawOf_46 (by decide) ?_
            refine G_sub [(0, _), (1, _), (2, _), (3, _)] (by repeat (first | refine And.intro rfl ?_ | exact True.intro)) ?_
            exact ih (j + 1) (some j) (by omega) (by omega) (s_best_up (by simp; grind) hb.symm (by grind)).symm
set_option maxHeartbeats 4000000 in
set_option maxRecDepth 100000 in
theorem c_X10_lawOf {K : Kt} {d : Nat} {M : Mem} {n : Nat} {w : Int32} (hn : M 36 9 = nI n) (h8 : n ≤ 8) : Ri K d mX10_lawOf [rf K 36, .int w] M (ixm (mlb M n w)) M := by
  refine Ri_int RX10 [(0, rf K 36), (1, .int w)] rfl (by decide) rfl (Nat.le_of_ble_eq_true rfl) rfl (fun x C => ?_)
  refine G_iconst C (-1) dX10_lawOf_0 (by decide) ?_
  refine G_istore_n C dX10_lawOf_1 (by decide) ?_
  refine G_iconst C (nI 0) dX10_lawOf_2 (by decide) ?_
  refine G_istore_n C dX10_lawOf_3 (by decide) ?_
  refine G_sub [(0, _), (1, _), (2, _), (3, _)] (by repeat (first | refine And.intro rfl ?_ | exact True.intro)) ?_
  exact L_X10_lawOf hn h8 rfl C (n + 1) 0 none (by omega) (by omega) rfl
def x_inc (inc oth po : Int32) : Int32 := if 0 < inc - oth * (inc * po / 100) then inc - oth * (inc * po / 100) else 0
def x_low (inc bo : Int32) : Int32 := if bo < inc then bo else inc
def x_chi (inc c sh bo sa : Int32) : Int32 := (x_low inc bo * sh / 100 + (inc - x_low inc bo) * sa / 100) * htab.getD c.toNatClampNeg 0 / 100
def x_les (am n pn : Int32) : Int32 := if 0 < am - n * (am * pn / 100) then am - n * (am * pn / 100) else 0
def x_lea (am n pn le : Int32) : Int32 := if le < x_les am n pn then x_les am n pn else le
def x_nig (am n pn le mo : Int32) : Int32 := if x_lea am n pn le < mo then x_lea am n pn le else mo
set_option maxHeartbeats 4000000 in
set_option maxRecDepth 100000 in
theorem c_X3_incomeLess {K : Kt} {d : Nat} {M : Mem} {j : Nat} {a b : Int32} (hj : j < 9) : Ri K (d + 1) mX3_incomeLess [rf K (12 + j), .int a, .int b] M (x_inc a b (M (12 + j) 5)) M := by
  refine Ri_int RX3 [(0, rf K (12 + j)), (1, .int a), (2, .int b)] rfl (by decide) rfl (Nat.le_of_ble_eq_true rfl) rfl (fun x C => ?_)
  refine G_iconst C (0) dX3_incomeLess_0 (by decide) ?_
  refine G_iload_n C dX3_incomeLess_1 rfl ?_
  refine G_iload_n C dX3_incomeLess_2 rfl ?_
  refine G_iload_n C dX3_incomeLess_3 rfl ?_
  refine G_aload_r C dX3_incomeLess_4 rfl ?_
  refine G_getI C fo_X3_7 (lay_law j (by omega)) rfl dX3_incomeLess_5 ?_
  refine G_imul C dX3_incomeLess_8 ?_
  refine G_bipush C (100) dX3_incomeLess_9 (by decide) ?_
  refine G_idiv C dX3_incomeLess_11 (by decide) ?_
  refine G_imul C dX3_incomeLess_12 ?_
  refine G_isub C dX3_incomeLess_13 ?_
  refine G_mmax C lk_X3_13 ms_max mi_math mc_max (Nat.le_of_ble_eq_true rfl) dX3_incomeLess_14 ?_
  exact G_retR C dX3_incomeLess_17 rfl rfl
set_option maxHeartbeats 4000000 in
set_option maxRecDepth 100000 in
theorem c_X3_withNights {K : Kt} {d : Nat} {M : Mem} {j : Nat} {a b : Int32} (hj : j < 9) : Ri K (d + 1) mX3_withNights [rf K (12 + j), .int a, .int b] M (x_nig a b (M (12 + j) 4) (M (12 + j) 6) (M (12 + j) 7)) M := by
  refine Ri_int RX3 [(0, rf K (12 + j)), (1, .int a), (2, .int b)] rfl (by decide) rfl (Nat.le_of_ble_eq_true rfl) rfl (fun x C => ?_)
  refine G_iconst C (0) dX3_withNights_0 (by decide) ?_
  refine G_iload_n C dX3_withNights_1 rfl ?_
  refine G_iload_n C dX3_withNights_2 rfl ?_
  refine G_iload_n C dX3_withNights_3 rfl ?_
  refine G_aload_r C dX3_withNights_4 rfl ?_
  refine G_getI C fo_X3_41 (lay_law j (by omega)) rfl dX3_withNights_5 ?_
  refine G_imul C dX3_withNights_8 ?_
  refine G_bipush C (100) dX3_withNights_9 (by decide) ?_
  refine G_idiv C dX3_withNights_11 (by decide) ?_
  refine G_imul C dX3_withNights_12 ?_
  refine G_isub C dX3_withNights_13 ?_
  refine G_mmax C lk_X3_13 ms_max mi_math mc_max (Nat.le_of_ble_eq_true rfl) dX3_withNights_14 ?_
  refine G_istore_n C dX3_withNights_17 (by decide) ?_
  refine G_aload_r C dX3_withNights_18 rfl ?_
  refine G_getI C fo_X3_44 (lay_law j (by omega)) rfl dX3_withNights_19 ?_
  refine G_aload_r C dX3_withNights_22 rfl ?_
  refine G_getI C fo_X3_47 (lay_law j (by omega)) rfl dX3_withNights_23 ?_
  refine G_iload_n C dX3_withNights_26 rfl ?_
  refine G_mmax C lk_X3_13 ms_max mi_math mc_max (Nat.le_of_ble_eq_true rfl) dX3_withNights_27 ?_
  refine G_mmin C lk_X3_32 ms_min mi_math mc_min (Nat.le_of_ble_eq_true rfl) dX3_withNights_30 ?_
  exact G_retR C dX3_withNights_33 rfl rfl
set_option maxHeartbeats 4000000 in
set_option maxRecDepth 100000 in
theorem c_X3_forChildren {K : Kt} {d : Nat} {M : Mem} {j : Nat} {a c : Int32} (hj : j < 9) (hc : 0 ≤ c ∧ c < 5) : Ri K (d + 1) mX3_forChildren [rf K (12 + j), .int a, .int c] M (x_chi a c (M (12 + j) 1) (M (12 + j) 2) (M (12 + j) 3)) M := by
  refine Ri_int RX3 [(0, rf K (12 + j)), (1, .int a), (2, .int c)] rfl (by decide) rfl (Nat.le_of_ble_eq_true rfl) rfl (fun x C => ?_)
  refine G_iload_n C dX3_forChildren_0 rfl ?_
  refine G_getH C dX3_forChildren_1 ?_
  refine G_alenH C dX3_forChildren_4 ?_
  refine G_cNr2 C ok_X9_isBelow lk_X3_25 (c_X9_isBelow) (Nat.le_of_ble_eq_true rfl) dX3_forChildren_5 ?_
  refine G_if_ne C 13 dX3_forChildren_8 (by decide) (fun h8 => ?_) (fun h8 => ?_)
  · refine G_iload_n C dX3_forChildren_13 rfl ?_
    refine G_aload_r C dX3_forChildren_14 rfl ?_
    refine G_getI C fo_X3_29 (lay_law j (by omega)) rfl dX3_forChildren_15 ?_
    refine G_mmin C lk_X3_32 ms_min mi_math mc_min (Nat.le_of_ble_eq_true rfl) dX3_forChildren_18 ?_
    refine G_istore_n C dX3_forChildren_21 (by decide) ?_
    refine G_iload_n C dX3_forChildren_22 rfl ?_
    refine G_aload_r C dX3_forChildren_23 rfl ?_
    refine G_getI C fo_X3_35 (lay_law j (by omega)) rfl dX3_forChildren_24 ?_
    refine G_imul C dX3_forChildren_27 ?_
    refine G_bipush C (100) dX3_forChildren_28 (by decide) ?_
    refine G_idiv C dX3_forChildren_30 (by decide) ?_
    refine G_iload_n C dX3_forChildren_31 rfl ?_
    refine G_iload_n C dX3_forChildren_32 rfl ?_
    refine G_isub C dX3_forChildren_33 ?_
    refine G_aload_r C dX3_forChildren_34 rfl ?_
    refine G_getI C fo_X3_38 (lay_law j (by omega)) rfl dX3_forChildren_35 ?_
    refine G_imul C dX3_forChildren_38 ?_
    refine G_bipush C (100) dX3_forChildren_39 (by decide) ?_
    refine G_idiv C dX3_forChildren_41 (by decide) ?_
    refine G_iadd C dX3_forChildren_42 ?_
    refine G_istore C dX3_forChildren_43 (by decide) ?_
    refine G_iload C dX3_forChildren_45 rfl ?_
    refine G_getH C dX3_forChildren_47 ?_
    refine G_iload_n C dX3_forChildren_50 rfl ?_
    refine G_aldH C (by rw [vp_in_iff]; have h1 := (fa_le 0 c).mp hc.1; have h2 := (fa_lt c 5).mp hc.2; exact ⟨h1, h2⟩) dX3_forChildren_51 ?_
    refine G_imul C dX3_forChildren_52 ?_
    refine G_bipush C (100) dX3_forChildren_53 (by decide) ?_
    refine G_idiv C dX3_forChildren_55 (by decide) ?_
    exact G_retR C dX3_forChildren_56 rfl rfl
  · exact absurd hc (bl_z.mp h8)
theorem s_kid_r (v : Int32) : 0 ≤ s_kid v ∧ s_kid v < 5 := by simp only [s_kid]; grind
def xsumv (M : Mem) (nl nc : Nat) (w n k : Int32) : Int32 := match xlb M nl w with
  | none => 0
  | some l => if s_kid (xkids M nc k w) = 0 then 0 else x_nig (x_chi (x_inc (s_inc (M 3) (xbest M nc 3 k w) (xbest M nc 1 k w)) (s_oth (M 3) (xbest M nc 0 k w)) (M (12 + l) 5)) (s_kid (xkids M nc k w)) (M (12 + l) 1) (M (12 + l) 2) (M (12 + l) 3)) n (M (12 + l) 4) (M (12 + l) 6) (M (12 + l) 7)
set_option maxHeartbeats 4000000 in
set_option maxRecDepth 100000 in
theorem c_X9_sumOf {K : Kt} {d : Nat} {M : Mem} {nl nc : Nat} {w n k : Int32} (hl : M 10 1 = nI nl) (hl8 : nl ≤ 8) (hn : M 1 5 = nI nc) (h80 : nc ≤ 80) : Ri K (d + 3) mX9_sumOf [rf K 0, .int w, .int n, .int k] M (xsumv M nl nc w n k) M := by
  refine Ri_int RX9 [(0, rf K 0), (1, .int w), (2, .int n), (3, .int k)] rfl (by decide) rfl (Nat.le_of_ble_eq_true rfl) rfl (fun x C => ?_)
  have hbl : ∀ q, xlb M nl w = some q → q < nl := fun q hq => s_best_lt hq
  have hbn : ixv (xlb M nl w) = -2000000005 ↔ xlb M nl w = none := ixv_none (fun q hq => by have := hbl q hq; omega)
  refine G_aload_r C dX9_sumOf_0 rfl ?_
  refine G_getR C fo_X9_35 rfl rfl dX9_sumOf_1 ?_
  refine G_iload_n C dX9_sumOf_4 rfl ?_
  refine G_cVr1 C ok_X4_numberAt lk_X9_163 rfl rfl (c_X4_numberAt hl hl8) (Nat.le_of_ble_eq_true rfl) dX9_sumOf_5 ?_
  refine G_istore C dX9_sumOf_8 (by decide) ?_
  refine G_iload C dX9_sumOf_10 rfl ?_
  refine G_ldc C kc_X9_98 dX9_sumOf_12 ?_
  refine G_icmp_ne C 19 dX9_sumOf_14 (by decide) (fun h14 => ?_) (fun h14 => ?_)
  · rw [hbn] at h14
    obtain ⟨j, hj⟩ : ∃ j, xlb M nl w = some j := by cases e : xlb M nl w with | none => exact absurd e h14 | some j => exact ⟨j, rfl⟩
    have hj9 : j < 9 := by have := hbl j hj; omega
    rw [hj]
    simp only [ixv]
    refine G_aload_r C dX9_sumOf_19 rfl ?_
    refine G_getR C fo_X9_10 rfl rfl dX9_sumOf_20 ?_
    refine G_iload_n C dX9_sumOf_23 rfl ?_
    refine G_iload_n C dX9_sumOf_24 rfl ?_
    refine G_cVr2 C ok_X2_childrenAt lk_X9_119 rfl rfl (c_X2_childrenAt hn h80) (Nat.le_of_ble_eq_true rfl) dX9_sumOf_25 ?_
    refine G_istore C dX9_sumOf_28 (by decide) ?_
    refine G_iload C dX9_sumOf_30 rfl ?_
    refine G_if_ne C 37 dX9_sumOf_32 (by decide) (fun h32 => ?_) (fun h32 => ?_)
    · refine G_aload_r C dX9_sumOf_37 rfl ?_
      refine G_getR C fo_X9_35 rfl rfl dX9_sumOf_38 ?_
      refine G_getR C fo_X9_149 rfl rfl dX9_sumOf_41 ?_
      refine G_iload C dX9_sumOf_44 rfl ?_
      refine G_law C (j := j) hj9 dX9_sumOf_46 ?_
      refine G_astore C dX9_sumOf_47 (by decide) ?_
      refine G_aload C dX9_sumOf_49 rfl ?_
      refine G_aload_r C dX9_sumOf_51 rfl ?_
      refine G_getR C fo_X9_10 rfl rfl dX9_sumOf_52 ?_
      refine G_iload_n C dX9_sumOf_55 rfl ?_
      refine G_iload_n C dX9_sumOf_56 rfl ?_
      refine G_cVr2 C ok_X2_incomeAt lk_X9_115 rfl rfl (c_X2_incomeAt hn h80) (Nat.le_of_ble_eq_true rfl) dX9_sumOf_57 ?_
      refine G_aload_r C dX9_sumOf_60 rfl ?_
      refine G_getR C fo_X9_10 rfl rfl dX9_sumOf_61 ?_
      refine G_iload_n C dX9_sumOf_64 rfl ?_
      refine G_iload_n C dX9_sumOf_65 rfl ?_
      refine G_cVr2 C ok_X2_othersAt lk_X9_122 rfl rfl (c_X2_othersAt hn h80) (Nat.le_of_ble_eq_true rfl) dX9_sumOf_66 ?_
      refine G_cVr2 C ok_X3_incomeLess lk_X9_173 (lay_law j hj9) rfl (c_X3_incomeLess hj9) (Nat.le_of_ble_eq_true rfl) dX9_sumOf_69 ?_
      refine G_istore C dX9_sumOf_72 (by decide) ?_
      refine G_aload C dX9_sumOf_74 rfl ?_
      refine G_aload C dX9_sumOf_76 rfl ?_
      refine G_iload C dX9_sumOf_78 rfl ?_
      refine G_iload C dX9_sumOf_80 rfl ?_
      refine G_cVr2 C ok_X3_forChildren lk_X9_176 (lay_law j hj9) rfl (c_X3_forChildren hj9 (s_kid_r _)) (Nat.le_of_ble_eq_true rfl) dX9_sumOf_82 ?_
      refine G_iload_n C dX9_sumOf_85 rfl ?_
      refine G_cVr2 C ok_X3_withNights lk_X9_179 (lay_law j hj9) rfl (c_X3_withNights hj9) (Nat.le_of_ble_eq_true rfl) dX9_sumOf_86 ?_
      exact G_retR C dX9_sumOf_89 (by first | (simp only [xsumv, *]; done) | (simp [xsumv, *]; done) | (simp only [xsumv, *]; rfl)) rfl
    · refine G_iconst C (0) dX9_sumOf_35 (by decide) ?_
      exact G_retR C dX9_sumOf_36 (by first | (simp only [xsumv, *]; done) | (simp [xsumv, *]; done) | (simp only [xsumv, *]; rfl)) rfl
  · rw [hbn] at h14
    refine G_iconst C (0) dX9_sumOf_17 (by decide) ?_
    exact G_retR C dX9_sumOf_18 (by first | (simp only [xsumv, *]; done) | (simp [xsumv, *]; done) | (simp only [xsumv, *]; rfl)) rfl
def xduev (M : Mem) (nl nc : Nat) (side k : Int32) (w : Nat) : Int32 := if M 35 w = 0 then (if side = 1 then (if xsumv M nl nc (nI w) (xend M w false) k < xsumv M nl nc (nI w) (xend M w true) k then xsumv M nl nc (nI w) (xend M w true) k else xsumv M nl nc (nI w) (xend M w false) k) else (if xsumv M nl nc (nI w) (xend M w true) k < xsumv M nl nc (nI w) (xend M w false) k then xsumv M nl nc (nI w) (xend M w true) k else xsumv M nl nc (nI w) (xend M w false) k)) else 0
set_option maxHeartbeats 4000000 in
set_option maxRecDepth 100000 in
theorem c_X9_dueOf {K : Kt} {d : Nat} {M : Mem} {nl nc w : Nat} {side k : Int32} (hl : M 10 1 = nI nl) (hl8 : nl ≤ 8) (hn : M 1 5 = nI nc) (h80 : nc ≤ 80) (hw : w < 120) : Ri K (d + 4) mX9_dueOf [rf K 0, .int (nI w), .int side, .int k] M (xduev M nl nc side k w) M := by
  refine Ri_int RX9 [(0, rf K 0), (1, .int (nI w)), (2, .int side), (3, .int k)] rfl (by decide) rfl (Nat.le_of_ble_eq_true rfl) rfl (fun x C => ?_)
  refine G_aload_r C dX9_dueOf_0 rfl ?_
  refine G_getR C fo_X9_60 rfl rfl dX9_dueOf_1 ?_
  refine G_iload_n C dX9_dueOf_4 rfl ?_
  refine G_zaldN C rfl (by assumption) (by decide) dX9_dueOf_5 ?_
  refine G_if_eq C 11 dX9_dueOf_6 (by decide) (fun h6 => ?_) (fun h6 => ?_)
  · refine G_aload_r C dX9_dueOf_11 rfl ?_
    refine G_getR C fo_X9_42 rfl rfl dX9_dueOf_12 ?_
    refine G_iload_n C dX9_dueOf_15 rfl ?_
    refine G_cVr1 C ok_X5_lesser lk_X9_131 rfl rfl (c_X5_lesser hw) (Nat.le_of_ble_eq_true rfl) dX9_dueOf_16 ?_
    refine G_istore C dX9_dueOf_19 (by decide) ?_
    refine G_aload_r C dX9_dueOf_21 rfl ?_
    refine G_getR C fo_X9_42 rfl rfl dX9_dueOf_22 ?_
    refine G_iload_n C dX9_dueOf_25 rfl ?_
    refine G_cVr1 C ok_X5_greater lk_X9_135 rfl rfl (c_X5_greater hw) (Nat.le_of_ble_eq_true rfl) dX9_dueOf_26 ?_
    refine G_istore C dX9_dueOf_29 (by decide) ?_
    refine G_aload_r C dX9_dueOf_31 rfl ?_
    refine G_iload_n C dX9_dueOf_32 rfl ?_
    refine G_iload C dX9_dueOf_33 rfl ?_
    refine G_iload_n C dX9_dueOf_35 rfl ?_
    refine G_cVr3 C ok_X9_sumOf lk_X9_166 rfl rfl (c_X9_sumOf hl hl8 hn h80) (Nat.le_of_ble_eq_true rfl) dX9_dueOf_36 ?_
    refine G_istore C dX9_dueOf_39 (by decide) ?_
    refine G_iload C dX9_dueOf_41 rfl ?_
    refine G_iload C dX9_dueOf_43 rfl ?_
    refine G_icmp_ne C 51 dX9_dueOf_45 (by decide) (fun h45 => ?_) (fun h45 => ?_)
    · refine G_aload_r C dX9_dueOf_51 rfl ?_
      refine G_iload_n C dX9_dueOf_52 rfl ?_
      refine G_iload C dX9_dueOf_53 rfl ?_
      refine G_iload_n C dX9_dueOf_55 rfl ?_
      refine G_cVr3 C ok_X9_sumOf lk_X9_166 rfl rfl (c_X9_sumOf hl hl8 hn h80) (Nat.le_of_ble_eq_true rfl) dX9_dueOf_56 ?_
      refine G_istore C dX9_dueOf_59 (by decide) ?_
      refine G_iload_n C dX9_dueOf_61 rfl ?_
      refine G_iconst C (1) dX9_dueOf_62 (by decide) ?_
      refine G_icmp_ne C 76 dX9_dueOf_63 (by decide) (fun h63 => ?_) (fun h63 => ?_)
      · refine G_iload C dX9_dueOf_76 rfl ?_
        refine G_iload C dX9_dueOf_78 rfl ?_
        refine G_mmin C lk_X9_187 ms_min mi_math mc_min (Nat.le_of_ble_eq_true rfl) dX9_dueOf_80 ?_
        exact G_retR C dX9_dueOf_83 (by simp only [xduev]; first | (simp [*]; done) | grind) rfl
      · refine G_iload C dX9_dueOf_66 rfl ?_
        refine G_iload C dX9_dueOf_68 rfl ?_
        refine G_mmax C lk_X9_182 ms_max mi_math mc_max (Nat.le_of_ble_eq_true rfl) dX9_dueOf_70 ?_
        refine G_goto C 83 dX9_dueOf_73 (by decide) ?_
        exact G_retR C dX9_dueOf_83 (by simp only [xduev]; first | (simp [*]; done) | grind) rfl
    · refine G_iload C dX9_dueOf_48 rfl ?_
      exact G_retR C dX9_dueOf_50 (by simp only [xduev]; first | (simp [*]; done) | grind) rfl
  · refine G_iconst C (0) dX9_dueOf_9 (by decide) ?_
    exact G_retR C dX9_dueOf_10 (by simp only [xduev]; first | (simp [*]; done) | grind) rfl
def m_ilo (inc oth ot : Int32) : Int32 := if 0 ≤ inc - oth * (inc * ot / 100) then inc - oth * (inc * ot / 100) else 0
def m_low (i2 ov : Int32) : Int32 := if ov < 0 ∨ i2 < ov then i2 else ov
def m_mul (c : Int32) : Int32 := if c = 1 then 100 else if c = 2 then 150 else if c = 3 then 180 else 200
def m_chi (i2 c tk ov mo : Int32) : Int32 := (m_low i2 ov * tk / 100 + (i2 - m_low i2 ov) * mo / 100) * m_mul c / 100
def m_les (v n ni : Int32) : Int32 := v - n * (v * ni / 100)
def m_lea (v n ni le : Int32) : Int32 := if le ≤ m_les v n ni then m_les v n ni else le
def m_nig (v n ni le ms : Int32) : Int32 := if 0 ≤ ms ∧ ms < m_lea v n ni le then ms else m_lea v n ni le
def msumv (M : Mem) (nl nc : Nat) (w n k : Int32) : Int32 := match mlb M nl w with
  | none => 0
  | some l => if s_kid (mkids M nc k w) = 0 then 0 else m_nig (m_chi (m_ilo (s_inc (M 38) (mbest M nc 3 k w) (mbest M nc 1 k w)) (s_oth (M 38) (mbest M nc 0 k w)) (M 49 l)) (s_kid (mkids M nc k w)) (M 45 l) (M 46 l) (M 47 l)) n (M 48 l) (M 50 l) (M 51 l)
set_option maxHeartbeats 4000000 in
set_option maxRecDepth 100000 in
theorem c_X10_sumOf {K : Kt} {d : Nat} {M : Mem} {nl nc : Nat} {w n k : Int32} (hl : M 36 9 = nI nl) (hl8 : nl ≤ 8) (hn : M 36 1 = nI nc) (h80 : nc ≤ 80) (hv : ∀ i, i < nc → M 37 i ≠ 2 → 0 ≤ M 38 i) : Ri K (d + 3) mX10_sumOf [rf K 36, .int w, .int n, .int k] M (msumv M nl nc w n k) M := by
  refine Ri_int RX10 [(0, rf K 36), (1, .int w), (2, .int n), (3, .int k)] rfl (by decide) rfl (Nat.le_of_ble_eq_true rfl) rfl (fun x C => ?_)
  have hbl : ∀ q, mlb M nl w = some q → q < nl := fun q hq => s_best_lt hq
  have hbn : ixm (mlb M nl w) < 0 ↔ mlb M nl w = none := ixm_neg (fun q hq => by have := hbl q hq; omega)
  refine G_aload_r C dX10_sumOf_0 rfl ?_
  refine G_iload_n C dX10_sumOf_1 rfl ?_
  refine G_cVr1 C ok_X10_lawOf lk_X10_199 rfl rfl (c_X10_lawOf hl hl8) (Nat.le_of_ble_eq_true rfl) dX10_sumOf_2 ?_
  refine G_istore C dX10_sumOf_5 (by decide) ?_
  refine G_aload_r C dX10_sumOf_7 rfl ?_
  refine G_iload_n C dX10_sumOf_8 rfl ?_
  refine G_iload_n C dX10_sumOf_9 rfl ?_
  refine G_cVr2 C ok_X10_children lk_X10_130 rfl rfl (c_X10_children hn h80) (Nat.le_of_ble_eq_true rfl) dX10_sumOf_10 ?_
  refine G_top (fun kd ekd => ?_)
  refine G_istore C dX10_sumOf_13 (by decide) ?_
  refine G_iload C dX10_sumOf_15 rfl ?_
  refine G_if_lt C 25 dX10_sumOf_17 (by decide) (fun h17 => ?_) (fun h17 => ?_)
  · rw [hbn] at h17
    refine G_iconst C (0) dX10_sumOf_25 (by decide) ?_
    exact G_retR C dX10_sumOf_26 (by
      first
      | (simp only [msumv, h17]; done)
      | (simp only [msumv, hj]; rw [← ekd, if_pos h22]; done)
      | (have e2 : i2 = m_ilo i0 (s_oth (M 38) (mbest M nc 0 k w)) (M 49 j) := by rw [ei2, ei1]; rfl
         have e3 : v2 = m_chi i2 kd (M 45 j) (M 46 j) (M 47 j) := by rw [ev2, ev1, elo]; rfl
         have e4 : v4 = m_lea v2 n (M 48 j) (M 50 j) := by rw [ev4, ev3]; rfl
         simp only [msumv, hj]
         rw [← ekd, if_neg h22, ← ei0, ← e2, ← e3]
         simp only [m_nig]
         rw [← e4]
         grind)) rfl
  · rw [hbn] at h17
    obtain ⟨j, hj⟩ : ∃ j, mlb M nl w = some j := by cases e : mlb M nl w with | none => exact absurd e h17 | some j => exact ⟨j, rfl⟩
    have hj8 : j < 8 := by have := hbl j hj; omega
    rw [hj]
    simp only [ixm]
    refine G_iload C dX10_sumOf_20 rfl ?_
    refine G_if_ne C 27 dX10_sumOf_22 (by decide) (fun h22 => ?_) (fun h22 => ?_)
    · refine G_aload_r C dX10_sumOf_27 rfl ?_
      refine G_iload_n C dX10_sumOf_28 rfl ?_
      refine G_iload_n C dX10_sumOf_29 rfl ?_
      refine G_cVr2 C ok_X10_income lk_X10_126 rfl rfl (c_X10_income hn h80 hv) (Nat.le_of_ble_eq_true rfl) dX10_sumOf_30 ?_
      refine G_top (fun i0 ei0 => ?_)
      refine G_istore C dX10_sumOf_33 (by decide) ?_
      refine G_iload C dX10_sumOf_35 rfl ?_
      refine G_aload_r C dX10_sumOf_37 rfl ?_
      refine G_iload_n C dX10_sumOf_38 rfl ?_
      refine G_iload_n C dX10_sumOf_39 rfl ?_
      refine G_cVr2 C ok_X10_others lk_X10_133 rfl rfl (c_X10_others hn h80 hv) (Nat.le_of_ble_eq_true rfl) dX10_sumOf_40 ?_
      refine G_iload C dX10_sumOf_43 rfl ?_
      refine G_aload_r C dX10_sumOf_45 rfl ?_
      refine G_getR C fo_X10_47 rfl rfl dX10_sumOf_46 ?_
      refine G_iload C dX10_sumOf_49 rfl ?_
      refine G_ialdN C rfl (by assumption) (by decide) dX10_sumOf_51 ?_
      refine G_imul C dX10_sumOf_52 ?_
      refine G_bipush C (100) dX10_sumOf_53 (by decide) ?_
      refine G_idiv C dX10_sumOf_55 (by decide) ?_
      refine G_imul C dX10_sumOf_56 ?_
      refine G_isub C dX10_sumOf_57 ?_
      refine G_top (fun i1 ei1 => ?_)
      refine G_istore C dX10_sumOf_58 (by decide) ?_
      refine G_join 71 [.int (if 0 ≤ i1 then i1 else 0)] (fun J => ?_) ?_
      · refine G_iload C dX10_sumOf_60 rfl ?_
        refine G_if_ge C 69 dX10_sumOf_62 (by decide) (fun h62 => ?_) (fun h62 => ?_)
        · refine G_iload C dX10_sumOf_69 rfl ?_
          rw [if_pos h62] at J
          exact J
        · refine G_iconst C (0) dX10_sumOf_65 (by decide) ?_
          refine G_goto C 71 dX10_sumOf_66 (by decide) ?_
          rw [if_neg h62] at J
          exact J
      refine G_top (fun i2 ei2 => ?_)
      refine G_istore C dX10_sumOf_71 (by decide) ?_
      refine G_join 107 [.int (if M 46 j < 0 ∨ i2 < M 46 j then i2 else M 46 j)] (fun J => ?_) ?_
      · refine G_aload_r C dX10_sumOf_73 rfl ?_
        refine G_getR C fo_X10_38 rfl rfl dX10_sumOf_74 ?_
        refine G_iload C dX10_sumOf_77 rfl ?_
        refine G_ialdN C rfl (by assumption) (by decide) dX10_sumOf_79 ?_
        refine G_if_lt C 95 dX10_sumOf_80 (by decide) (fun h80 => ?_) (fun h80 => ?_)
        · refine G_iload C dX10_sumOf_95 rfl ?_
          refine G_goto C 107 dX10_sumOf_97 (by decide) ?_
          rw [if_pos (by grind)] at J
          exact J
        · refine G_iload C dX10_sumOf_83 rfl ?_
          refine G_aload_r C dX10_sumOf_85 rfl ?_
          refine G_getR C fo_X10_38 rfl rfl dX10_sumOf_86 ?_
          refine G_iload C dX10_sumOf_89 rfl ?_
          refine G_ialdN C rfl (by assumption) (by decide) dX10_sumOf_91 ?_
          refine G_icmp_ge C 100 dX10_sumOf_92 (by decide) (fun h92 => ?_) (fun h92 => ?_)
          · refine G_aload_r C dX10_sumOf_100 rfl ?_
            refine G_getR C fo_X10_38 rfl rfl dX10_sumOf_101 ?_
            refine G_iload C dX10_sumOf_104 rfl ?_
            refine G_ialdN C rfl (by assumption) (by decide) dX10_sumOf_106 ?_
            rw [if_neg (by grind)] at J
            exact J
          · refine G_iload C dX10_sumOf_95 rfl ?_
            refine G_goto C 107 dX10_sumOf_97 (by decide) ?_
            rw [if_pos (by grind)] at J
            exact J
      refine G_top (fun lo elo => ?_)
      refine G_istore C dX10_sumOf_107 (by decide) ?_
      refine G_iload C dX10_sumOf_109 rfl ?_
      refine G_aload_r C dX10_sumOf_111 rfl ?_
      refine G_getR C fo_X10_35 rfl rfl dX10_sumOf_112 ?_
      refine G_iload C dX10_sumOf_115 rfl ?_
      refine G_ialdN C rfl (by assumption) (by decide) dX10_sumOf_117 ?_
      refine G_imul C dX10_sumOf_118 ?_
      refine G_bipush C (100) dX10_sumOf_119 (by decide) ?_
      refine G_idiv C dX10_sumOf_121 (by decide) ?_
      refine G_iload C dX10_sumOf_122 rfl ?_
      refine G_iload C dX10_sumOf_124 rfl ?_
      refine G_isub C dX10_sumOf_126 ?_
      refine G_aload_r C dX10_sumOf_127 rfl ?_
      refine G_getR C fo_X10_41 rfl rfl dX10_sumOf_128 ?_
      refine G_iload C dX10_sumOf_131 rfl ?_
      refine G_ialdN C rfl (by assumption) (by decide) dX10_sumOf_133 ?_
      refine G_imul C dX10_sumOf_134 ?_
      refine G_bipush C (100) dX10_sumOf_135 (by decide) ?_
      refine G_idiv C dX10_sumOf_137 (by decide) ?_
      refine G_iadd C dX10_sumOf_138 ?_
      refine G_top (fun v1 ev1 => ?_)
      refine G_istore C dX10_sumOf_139 (by decide) ?_
      refine G_iload C dX10_sumOf_141 rfl ?_
      refine G_join 181 [.int (m_mul kd), .int v1] (fun J => ?_) ?_
      · refine G_iload C dX10_sumOf_143 rfl ?_
        refine G_iconst C (1) dX10_sumOf_145 (by decide) ?_
        refine G_icmp_ne C 154 dX10_sumOf_146 (by decide) (fun h146 => ?_) (fun h146 => ?_)
        · refine G_iload C dX10_sumOf_154 rfl ?_
          refine G_iconst C (2) dX10_sumOf_156 (by decide) ?_
          refine G_icmp_ne C 166 dX10_sumOf_157 (by decide) (fun h157 => ?_) (fun h157 => ?_)
          · refine G_iload C dX10_sumOf_166 rfl ?_
            refine G_iconst C (3) dX10_sumOf_168 (by decide) ?_
            refine G_icmp_ne C 178 dX10_sumOf_169 (by decide) (fun h169 => ?_) (fun h169 => ?_)
            · refine G_sipush C (200) dX10_sumOf_178 (by decide) ?_
              rw [show m_mul kd = 200 from by simp [m_mul, h146, h157, h169]] at J
              exact J
            · refine G_sipush C (180) dX10_sumOf_172 (by decide) ?_
              refine G_goto C 181 dX10_sumOf_175 (by decide) ?_
              rw [show m_mul kd = 180 from by simp [m_mul, h169]] at J
              exact J
          · refine G_sipush C (150) dX10_sumOf_160 (by decide) ?_
            refine G_goto C 181 dX10_sumOf_163 (by decide) ?_
            rw [show m_mul kd = 150 from by simp [m_mul, h157]] at J
            exact J
        · refine G_bipush C (100) dX10_sumOf_149 (by decide) ?_
          refine G_goto C 181 dX10_sumOf_151 (by decide) ?_
          rw [show m_mul kd = 100 from by simp [m_mul, h146]] at J
          exact J
      refine G_imul C dX10_sumOf_181 ?_
      refine G_bipush C (100) dX10_sumOf_182 (by decide) ?_
      refine G_idiv C dX10_sumOf_184 (by decide) ?_
      refine G_top (fun v2 ev2 => ?_)
      refine G_istore C dX10_sumOf_185 (by decide) ?_
      refine G_iload C dX10_sumOf_187 rfl ?_
      refine G_iload_n C dX10_sumOf_189 rfl ?_
      refine G_iload C dX10_sumOf_190 rfl ?_
      refine G_aload_r C dX10_sumOf_192 rfl ?_
      refine G_getR C fo_X10_44 rfl rfl dX10_sumOf_193 ?_
      refine G_iload C dX10_sumOf_196 rfl ?_
      refine G_ialdN C rfl (by assumption) (by decide) dX10_sumOf_198 ?_
      refine G_imul C dX10_sumOf_199 ?_
      refine G_bipush C (100) dX10_sumOf_200 (by decide) ?_
      refine G_idiv C dX10_sumOf_202 (by decide) ?_
      refine G_imul C dX10_sumOf_203 ?_
      refine G_isub C dX10_sumOf_204 ?_
      refine G_top (fun v3 ev3 => ?_)
      refine G_istore C dX10_sumOf_205 (by decide) ?_
      refine G_join 231 [.int (if M 50 j ≤ v3 then v3 else M 50 j)] (fun J => ?_) ?_
      · refine G_iload C dX10_sumOf_207 rfl ?_
        refine G_aload_r C dX10_sumOf_209 rfl ?_
        refine G_getR C fo_X10_50 rfl rfl dX10_sumOf_210 ?_
        refine G_iload C dX10_sumOf_213 rfl ?_
        refine G_ialdN C rfl (by assumption) (by decide) dX10_sumOf_215 ?_
        refine G_icmp_ge C 229 dX10_sumOf_216 (by decide) (fun h216 => ?_) (fun h216 => ?_)
        · refine G_iload C dX10_sumOf_229 rfl ?_
          rw [if_pos h216] at J
          exact J
        · refine G_aload_r C dX10_sumOf_219 rfl ?_
          refine G_getR C fo_X10_50 rfl rfl dX10_sumOf_220 ?_
          refine G_iload C dX10_sumOf_223 rfl ?_
          refine G_ialdN C rfl (by assumption) (by decide) dX10_sumOf_225 ?_
          refine G_goto C 231 dX10_sumOf_226 (by decide) ?_
          rw [if_neg h216] at J
          exact J
      refine G_top (fun v4 ev4 => ?_)
      refine G_istore C dX10_sumOf_231 (by decide) ?_
      refine G_aload_r C dX10_sumOf_233 rfl ?_
      refine G_getR C fo_X10_53 rfl rfl dX10_sumOf_234 ?_
      refine G_iload C dX10_sumOf_237 rfl ?_
      refine G_ialdN C rfl (by assumption) (by decide) dX10_sumOf_239 ?_
      refine G_if_lt C 265 dX10_sumOf_240 (by decide) (fun h240 => ?_) (fun h240 => ?_)
      · refine G_iload C dX10_sumOf_265 rfl ?_
        exact G_retR C dX10_sumOf_267 (by
          first
          | (simp only [msumv, h17]; done)
          | (simp only [msumv, hj]; rw [← ekd, if_pos h22]; done)
          | (have e2 : i2 = m_ilo i0 (s_oth (M 38) (mbest M nc 0 k w)) (M 49 j) := by rw [ei2, ei1]; rfl
             have e3 : v2 = m_chi i2 kd (M 45 j) (M 46 j) (M 47 j) := by rw [ev2, ev1, elo]; rfl
             have e4 : v4 = m_lea v2 n (M 48 j) (M 50 j) := by rw [ev4, ev3]; rfl
             simp only [msumv, hj]
             rw [← ekd, if_neg h22, ← ei0, ← e2, ← e3]
             simp only [m_nig]
             rw [← e4]
             grind)) rfl
      · refine G_iload C dX10_sumOf_243 rfl ?_
        refine G_aload_r C dX10_sumOf_245 rfl ?_
        refine G_getR C fo_X10_53 rfl rfl dX10_sumOf_246 ?_
        refine G_iload C dX10_sumOf_249 rfl ?_
        refine G_ialdN C rfl (by assumption) (by decide) dX10_sumOf_251 ?_
        refine G_icmp_le C 265 dX10_sumOf_252 (by decide) (fun h252 => ?_) (fun h252 => ?_)
        · refine G_iload C dX10_sumOf_265 rfl ?_
          exact G_retR C dX10_sumOf_267 (by
            first
            | (simp only [msumv, h17]; done)
            | (simp only [msumv, hj]; rw [← ekd, if_pos h22]; done)
            | (have e2 : i2 = m_ilo i0 (s_oth (M 38) (mbest M nc 0 k w)) (M 49 j) := by rw [ei2, ei1]; rfl
               have e3 : v2 = m_chi i2 kd (M 45 j) (M 46 j) (M 47 j) := by rw [ev2, ev1, elo]; rfl
               have e4 : v4 = m_lea v2 n (M 48 j) (M 50 j) := by rw [ev4, ev3]; rfl
               simp only [msumv, hj]
               rw [← ekd, if_neg h22, ← ei0, ← e2, ← e3]
               simp only [m_nig]
               rw [← e4]
               grind)) rfl
        · refine G_aload_r C dX10_sumOf_255 rfl ?_
          refine G_getR C fo_X10_53 rfl rfl dX10_sumOf_256 ?_
          refine G_iload C dX10_sumOf_259 rfl ?_
          refine G_ialdN C rfl (by assumption) (by decide) dX10_sumOf_261 ?_
          refine G_goto C 267 dX10_sumOf_262 (by decide) ?_
          exact G_retR C dX10_sumOf_267 (by
            first
            | (simp only [msumv, h17]; done)
            | (simp only [msumv, hj]; rw [← ekd, if_pos h22]; done)
            | (have e2 : i2 = m_ilo i0 (s_oth (M 38) (mbest M nc 0 k w)) (M 49 j) := by rw [ei2, ei1]; rfl
               have e3 : v2 = m_chi i2 kd (M 45 j) (M 46 j) (M 47 j) := by rw [ev2, ev1, elo]; rfl
               have e4 : v4 = m_lea v2 n (M 48 j) (M 50 j) := by rw [ev4, ev3]; rfl
               simp only [msumv, hj]
               rw [← ekd, if_neg h22, ← ei0, ← e2, ← e3]
               simp only [m_nig]
               rw [← e4]
               grind)) rfl
    · refine G_iconst C (0) dX10_sumOf_25 (by decide) ?_
      exact G_retR C dX10_sumOf_26 (by
        first
        | (simp only [msumv, h17]; done)
        | (simp only [msumv, hj]; rw [← ekd, if_pos h22]; done)
        | (have e2 : i2 = m_ilo i0 (s_oth (M 38) (mbest M nc 0 k w)) (M 49 j) := by rw [ei2, ei1]; rfl
           have e3 : v2 = m_chi i2 kd (M 45 j) (M 46 j) (M 47 j) := by rw [ev2, ev1, elo]; rfl
           have e4 : v4 = m_lea v2 n (M 48 j) (M 50 j) := by rw [ev4, ev3]; rfl
           simp only [msumv, hj]
           rw [← ekd, if_neg h22, ← ei0, ← e2, ← e3]
           simp only [m_nig]
           rw [← e4]
           grind)) rfl
def mduev (M : Mem) (nl nc : Nat) (side k : Int32) (w : Nat) : Int32 := if M 43 w = 0 then (if side = 1 then (if msumv M nl nc (nI w) (mend M w false) k < msumv M nl nc (nI w) (mend M w true) k then msumv M nl nc (nI w) (mend M w true) k else msumv M nl nc (nI w) (mend M w false) k) else (if msumv M nl nc (nI w) (mend M w true) k < msumv M nl nc (nI w) (mend M w false) k then msumv M nl nc (nI w) (mend M w true) k else msumv M nl nc (nI w) (mend M w false) k)) else 0
set_option maxHeartbeats 4000000 in
set_option maxRecDepth 100000 in
theorem c_X10_dueOf {K : Kt} {d : Nat} {M : Mem} {nl nc w : Nat} {side k : Int32} (hl : M 36 9 = nI nl) (hl8 : nl ≤ 8) (hn : M 36 1 = nI nc) (h80 : nc ≤ 80) (hv : ∀ i, i < nc → M 37 i ≠ 2 → 0 ≤ M 38 i) (hw : w < 120) : Ri K (d + 4) mX10_dueOf [rf K 36, .int (nI w), .int side, .int k] M (mduev M nl nc side k w) M := by
  refine Ri_int RX10 [(0, rf K 36), (1, .int (nI w)), (2, .int side), (3, .int k)] rfl (by decide) rfl (Nat.le_of_ble_eq_true rfl) rfl (fun x C => ?_)
  refine G_aload_r C dX10_dueOf_0 rfl ?_
  refine G_getR C fo_X10_28 rfl rfl dX10_dueOf_1 ?_
  refine G_iload_n C dX10_dueOf_4 rfl ?_
  refine G_zaldN C rfl (by assumption) (by decide) dX10_dueOf_5 ?_
  refine G_if_eq C 11 dX10_dueOf_6 (by decide) (fun h6 => ?_) (fun h6 => ?_)
  · refine G_aload_r C dX10_dueOf_11 rfl ?_
    refine G_iload_n C dX10_dueOf_12 rfl ?_
    refine G_aload_r C dX10_dueOf_13 rfl ?_
    refine G_iload_n C dX10_dueOf_14 rfl ?_
    refine G_iconst C (0) dX10_dueOf_15 (by decide) ?_
    refine G_cVr2 C ok_X10_end lk_X10_139 rfl rfl (c_X10_end hw (Or.inl rfl)) (Nat.le_of_ble_eq_true rfl) dX10_dueOf_16 ?_
    refine G_iload_n C dX10_dueOf_19 rfl ?_
    refine G_cVr3 C ok_X10_sumOf lk_X10_203 rfl rfl (c_X10_sumOf hl hl8 hn h80 hv) (Nat.le_of_ble_eq_true rfl) dX10_dueOf_20 ?_
    refine G_istore C dX10_dueOf_23 (by decide) ?_
    refine G_aload_r C dX10_dueOf_25 rfl ?_
    refine G_iload_n C dX10_dueOf_26 rfl ?_
    refine G_aload_r C dX10_dueOf_27 rfl ?_
    refine G_iload_n C dX10_dueOf_28 rfl ?_
    refine G_iconst C (1) dX10_dueOf_29 (by decide) ?_
    refine G_cVr2 C ok_X10_end lk_X10_139 rfl rfl (c_X10_end hw (Or.inr rfl)) (Nat.le_of_ble_eq_true rfl) dX10_dueOf_30 ?_
    refine G_iload_n C dX10_dueOf_33 rfl ?_
    refine G_cVr3 C ok_X10_sumOf lk_X10_203 rfl rfl (c_X10_sumOf hl hl8 hn h80 hv) (Nat.le_of_ble_eq_true rfl) dX10_dueOf_34 ?_
    refine G_istore C dX10_dueOf_37 (by decide) ?_
    refine G_iload C dX10_dueOf_39 rfl ?_
    refine G_iload C dX10_dueOf_41 rfl ?_
    refine G_icmp_ge C 50 dX10_dueOf_43 (by decide) (fun h43 => ?_) (fun h43 => ?_)
    · refine G_iconst C (0) dX10_dueOf_50 (by decide) ?_
      refine G_iload_n C dX10_dueOf_51 rfl ?_
      refine G_iconst C (1) dX10_dueOf_52 (by decide) ?_
      refine G_icmp_ne C 60 dX10_dueOf_53 (by decide) (fun h53 => ?_) (fun h53 => ?_)
      · refine G_iconst C (0) dX10_dueOf_60 (by decide) ?_
        refine G_icmp_ne C 69 dX10_dueOf_61 (by decide) (fun h61 => ?_) (fun h61 => ?_)
        · refine G_iload C dX10_dueOf_69 rfl ?_
          exact G_retR C dX10_dueOf_71 (by first | (simp only [mduev]; simp [*]; done) | (simp only [mduev]; simp at *; done) | (simp only [mduev]; simp at *; grind) | (simp at *; done)) rfl
        · refine G_iload C dX10_dueOf_64 rfl ?_
          refine G_goto C 71 dX10_dueOf_66 (by decide) ?_
          exact G_retR C dX10_dueOf_71 (by first | (simp only [mduev]; simp [*]; done) | (simp only [mduev]; simp at *; done) | (simp only [mduev]; simp at *; grind) | (simp at *; done)) rfl
      · refine G_iconst C (1) dX10_dueOf_56 (by decide) ?_
        refine G_goto C 61 dX10_dueOf_57 (by decide) ?_
        refine G_icmp_ne C 69 dX10_dueOf_61 (by decide) (fun h61 => ?_) (fun h61 => ?_)
        · refine G_iload C dX10_dueOf_69 rfl ?_
          exact G_retR C dX10_dueOf_71 (by first | (simp only [mduev]; simp [*]; done) | (simp only [mduev]; simp at *; done) | (simp only [mduev]; simp at *; grind) | (simp at *; done)) rfl
        · refine G_iload C dX10_dueOf_64 rfl ?_
          refine G_goto C 71 dX10_dueOf_66 (by decide) ?_
          exact G_retR C dX10_dueOf_71 (by first | (simp only [mduev]; simp [*]; done) | (simp only [mduev]; simp at *; done) | (simp only [mduev]; simp at *; grind) | (simp at *; done)) rfl
    · refine G_iconst C (1) dX10_dueOf_46 (by decide) ?_
      refine G_goto C 51 dX10_dueOf_47 (by decide) ?_
      refine G_iload_n C dX10_dueOf_51 rfl ?_
      refine G_iconst C (1) dX10_dueOf_52 (by decide) ?_
      refine G_icmp_ne C 60 dX10_dueOf_53 (by decide) (fun h53 => ?_) (fun h53 => ?_)
      · refine G_iconst C (0) dX10_dueOf_60 (by decide) ?_
        refine G_icmp_ne C 69 dX10_dueOf_61 (by decide) (fun h61 => ?_) (fun h61 => ?_)
        · refine G_iload C dX10_dueOf_69 rfl ?_
          exact G_retR C dX10_dueOf_71 (by first | (simp only [mduev]; simp [*]; done) | (simp only [mduev]; simp at *; done) | (simp only [mduev]; simp at *; grind) | (simp at *; done)) rfl
        · refine G_iload C dX10_dueOf_64 rfl ?_
          refine G_goto C 71 dX10_dueOf_66 (by decide) ?_
          exact G_retR C dX10_dueOf_71 (by first | (simp only [mduev]; simp [*]; done) | (simp only [mduev]; simp at *; done) | (simp only [mduev]; simp at *; grind) | (simp at *; done)) rfl
      · refine G_iconst C (1) dX10_dueOf_56 (by decide) ?_
        refine G_goto C 61 dX10_dueOf_57 (by decide) ?_
        refine G_icmp_ne C 69 dX10_dueOf_61 (by decide) (fun h61 => ?_) (fun h61 => ?_)
        · refine G_iload C dX10_dueOf_69 rfl ?_
          exact G_retR C dX10_dueOf_71 (by first | (simp only [mduev]; simp [*]; done) | (simp only [mduev]; simp at *; done) | (simp only [mduev]; simp at *; grind) | (simp at *; done)) rfl
        · refine G_iload C dX10_dueOf_64 rfl ?_
          refine G_goto C 71 dX10_dueOf_66 (by decide) ?_
          exact G_retR C dX10_dueOf_71 (by first | (simp only [mduev]; simp [*]; done) | (simp only [mduev]; simp at *; done) | (simp only [mduev]; simp at *; grind) | (simp at *; done)) rfl
  · refine G_iconst C (0) dX10_dueOf_9 (by decide) ?_
    exact G_retR C dX10_dueOf_10 (by first | (simp only [mduev]; simp [*]; done) | (simp only [mduev]; simp at *; done) | (simp only [mduev]; simp at *; grind) | (simp at *; done)) rfl
end
section
def s_pays (wk co mk : Nat → Int32) (set w : Int32) (n : Nat) : Int32 := s_sum (fun i => decide (wk i ≤ w) && payb set mk i) co n
theorem s_pays_t {wk co mk : Nat → Int32} {set w : Int32} {n : Nat} (h : wk n ≤ w) (h2 : payb set mk n = true) : s_pays wk co mk set w n + co n = s_pays wk co mk set w (n + 1) := (s_sum_t (by simp [h, h2])).symm
theorem s_pays_f {wk co mk : Nat → Int32} {set w : Int32} {n : Nat} (h : ¬ (wk n ≤ w ∧ payb set mk n = true)) : s_pays wk co mk set w n = s_pays wk co mk set w (n + 1) := (s_sum_f (by simp; intro h1; cases hp : payb set mk n with | false => rfl | true => exact absurd ⟨h1, hp⟩ h)).symm
def xpays (M : Mem) (w : Int32) (n : Nat) : Int32 := s_pays (M 29) (M 30) (M 31) (M 28 4) w n
def mpays (M : Mem) (w : Int32) (n : Nat) : Int32 := s_pays (M 52) (M 53) (M 54) (M 36 22) w n
def s_coin (wk co mk : Nat → Int32) (set w : Int32) (g : Bool) (n : Nat) : Int32 := s_sum (fun i => decide (wk i = w) && (payb set mk i == g)) co n
def s_tot (f : Nat → Int32) : Nat → Int32
  | 0 => 0
  | n + 1 => s_tot f n + f n
theorem s_tot_cong {f g : Nat → Int32} : ∀ {n : Nat}, (∀ i, i < n → f i = g i) → s_tot f n = s_tot g n
  | 0, _ => rfl
  | n + 1, h => by
    simp only [s_tot]
    rw [s_tot_cong (n := n) (fun i hi => h i (by omega)), h n (by omega)]
theorem n_gtE {n j N : Nat} (hn : n ≤ N) (hj : j ≤ N) (hN : N < 2 ^ 31) (h : nI n < nI j) : n < j := (nI_ltI (Nat.lt_of_le_of_lt hn hN) (Nat.lt_of_le_of_lt hj hN)).mp h
theorem n_leE {n j N : Nat} (hn : n ≤ N) (hj : j ≤ N) (hN : N < 2 ^ 31) (h : ¬ nI n < nI j) : j ≤ n := by
  rcases Nat.lt_or_ge n j with q | q
  · exact absurd ((nI_ltI (Nat.lt_of_le_of_lt hn hN) (Nat.lt_of_le_of_lt hj hN)).mpr q) h
  · exact q
set_option maxHeartbeats 4000000 in
set_option maxRecDepth 100000 in
theorem L_X1_paysUpTo {K : Kt} {d : Nat} {M : Mem} {n : Nat} {w : Int32} {x : Cx} {o : Int32} (hn : M 28 3 = nI n) (hN : n ≤ 100) (ho : o = xpays M w n) (C : Cok K x RX1 cX1_paysUpTo 4 (d + 1) (RI (fun v N => v = o ∧ N = M))) :
    ∀ (t j : Nat) (b : Int32), n < j + t → j ≤ n → b = xpays M w j → G K x 4 4 [(0, rf K 28), (1, .int w), (2, .int b), (3, .int (nI j))] [] M := by
  intro t
  induction t with
  | zero => intro j b h1 h2; omega
  | succ t ih =>
    intro j b h1 h2 hb
    have hj : j ≤ 100 := by omega
    refine G_iload_n C dX1_paysUpTo_4 rfl ?_
    refine G_aload_r C dX1_paysUpTo_5 rfl ?_
    refine G_getI C fo_X1_25 rfl rfl dX1_paysUpTo_6 ?_
    refine G_icmp_ge C 45 dX1_paysUpTo_9 (by decide) (fun h9 => ?_) (fun h9 => ?_)
    · have hE : j = n := by have := n_le hn hN hj (by decide) h9; omega
      refine G_iload_n C dX1_paysUpTo_45 rfl ?_
      exact G_retR C dX1_paysUpTo_46 (by rw [ho, hb, hE]) rfl
    · have hlt : j < n := n_gt hn hN hj (by decide) h9
      have hj8 : j < 100 := by omega
      refine G_aload_r C dX1_paysUpTo_12 rfl ?_
      refine G_getR C fo_X1_9 rfl rfl dX1_paysUpTo_13 ?_
      refine G_iload_n C dX1_paysUpTo_16 rfl ?_
      refine G_ialdN C rfl (by assumption) (by decide) dX1_paysUpTo_17 ?_
      refine G_iload_n C dX1_paysUpTo_18 rfl ?_
      refine G_icmp_gt C 39 dX1_paysUpTo_19 (by decide) (fun h19 => ?_) (fun h19 => ?_)
      · refine G_iincN C dX1_paysUpTo_39 (by decide) rfl ?_
        refine G_goto C 4 dX1_paysUpTo_42 (by decide) ?_
        refine G_sub [(0, _), (1, _), (2, _), (3, _)] (by repeat (first | refine And.intro rfl ?_ | exact True.intro)) ?_
        exact ih (j + 1) _ (by omega) (by omega) (hb.trans (s_pays_f (by grind)))
      · refine G_aload_r C dX1_paysUpTo_22 rfl ?_
        refine G_iload_n C dX1_paysUpTo_23 rfl ?_
        refine G_cVr1 C ok_X1_isPay lk_X1_28 rfl rfl (c_X1_isPay hj8) (Nat.le_of_ble_eq_true rfl) dX1_paysUpTo_24 ?_
        refine G_if_eq C 39 dX1_paysUpTo_27 (by decide) (fun h27 => ?_) (fun h27 => ?_)
        · rw [bl_z] at h27
          refine G_iincN C dX1_paysUpTo_39 (by decide) rfl ?_
          refine G_goto C 4 dX1_paysUpTo_42 (by decide) ?_
          refine G_sub [(0, _), (1, _), (2, _), (3, _)] (by repeat (first | refine And.intro rfl ?_ | exact True.intro)) ?_
          exact ih (j + 1) _ (by omega) (by omega) (hb.trans (s_pays_f (by grind)))
        · rw [bl_z] at h27
          refine G_iload_n C dX1_paysUpTo_30 rfl ?_
          refine G_aload_r C dX1_paysUpTo_31 rfl ?_
          refine G_getR C fo_X1_15 rfl rfl dX1_paysUpTo_32 ?_
          refine G_iload_n C dX1_paysUpTo_35 rfl ?_
          refine G_ialdN C rfl (by assumption) (by decide) dX1_paysUpTo_36 ?_
          refine G_iadd C dX1_paysUpTo_37 ?_
          refine G_istore_n C dX1_paysUpTo_38 (by decide) ?_
          refine G_iincN C dX1_paysUpTo_39 (by decide) rfl ?_
          refine G_goto C 4 dX1_paysUpTo_42 (by decide) ?_
          refine G_sub [(0, _), (1, _), (2, _), (3, _)] (by repeat (first | refine And.intro rfl ?_ | exact True.intro)) ?_
          exact ih (j + 1) _ (by omega) (by omega) (by rw [hb]; exact s_pays_t (by grind) (by grind))
set_option maxHeartbeats 4000000 in
set_option maxRecDepth 100000 in
theorem c_X1_paysUpTo {K : Kt} {d : Nat} {M : Mem} {n : Nat} {w : Int32} (hn : M 28 3 = nI n) (hN : n ≤ 100) : Ri K (d + 1) mX1_paysUpTo [rf K 28, .int w] M (xpays M w n) M := by
  refine Ri_int RX1 [(0, rf K 28), (1, .int w)] rfl (by decide) rfl (Nat.le_of_ble_eq_true rfl) rfl (fun x C => ?_)
  refine G_iconst C (0) dX1_paysUpTo_0 (by decide) ?_
  refine G_istore_n C dX1_paysUpTo_1 (by decide) ?_
  refine G_iconst C (nI 0) dX1_paysUpTo_2 (by decide) ?_
  refine G_istore_n C dX1_paysUpTo_3 (by decide) ?_
  refine G_sub [(0, _), (1, _), (2, _), (3, _)] (by repeat (first | refine And.intro rfl ?_ | exact True.intro)) ?_
  exact L_X1_paysUpTo hn hN rfl C (n + 1) 0 0 (by omega) (by omega) rfl
set_option maxHeartbeats 4000000 in
set_option maxRecDepth 100000 in
theorem L_X10_paysUpTo {K : Kt} {d : Nat} {M : Mem} {n : Nat} {w : Int32} {x : Cx} {o : Int32} (hn : M 36 18 = nI n) (hN : n ≤ 100) (ho : o = mpays M w n) (C : Cok K x RX10 cX10_paysUpTo 4 (d + 1) (RI (fun v N => v = o ∧ N = M))) :
    ∀ (t j : Nat) (b : Int32), n < j + t → j ≤ n → b = mpays M w j → G K x 4 4 [(0, rf K 36), (1, .int w), (2, .int b), (3, .int (nI j))] [] M := by
  intro t
  induction t with
  | zero => intro j b h1 h2; omega
  | succ t ih =>
    intro j b h1 h2 hb
    have hj : j ≤ 100 := by omega
    refine G_iload_n C dX10_paysUpTo_4 rfl ?_
    refine G_aload_r C dX10_paysUpTo_5 rfl ?_
    refine G_getI C fo_X10_212 rfl rfl dX10_paysUpTo_6 ?_
    refine G_icmp_ge C 49 dX10_paysUpTo_9 (by decide) (fun h9 => ?_) (fun h9 => ?_)
    · have hE : j = n := by have := n_le hn hN hj (by decide) h9; omega
      refine G_iload_n C dX10_paysUpTo_49 rfl ?_
      exact G_retR C dX10_paysUpTo_50 (by rw [ho, hb, hE]) rfl
    · have hlt : j < n := n_gt hn hN hj (by decide) h9
      have hj8 : j < 100 := by omega
      refine G_iload_n C dX10_paysUpTo_12 rfl ?_
      refine G_aload_r C dX10_paysUpTo_13 rfl ?_
      refine G_getR C fo_X10_56 rfl rfl dX10_paysUpTo_14 ?_
      refine G_iload_n C dX10_paysUpTo_17 rfl ?_
      refine G_ialdN C rfl (by assumption) (by decide) dX10_paysUpTo_18 ?_
      refine G_iload_n C dX10_paysUpTo_19 rfl ?_
      refine G_icmp_gt C 40 dX10_paysUpTo_20 (by decide) (fun h20 => ?_) (fun h20 => ?_)
      · refine G_iconst C (0) dX10_paysUpTo_40 (by decide) ?_
        refine G_iadd C dX10_paysUpTo_41 ?_
        refine G_istore_n C dX10_paysUpTo_42 (by decide) ?_
        refine G_iincN C dX10_paysUpTo_43 (by decide) rfl ?_
        refine G_goto C 4 dX10_paysUpTo_46 (by decide) ?_
        refine G_sub [(0, _), (1, _), (2, _), (3, _)] (by repeat (first | refine And.intro rfl ?_ | exact True.intro)) ?_
        exact ih (j + 1) _ (by omega) (by omega) ((Int32.add_zero b).trans (hb.trans (s_pays_f (by grind))))
      · refine G_aload_r C dX10_paysUpTo_23 rfl ?_
        refine G_iload_n C dX10_paysUpTo_24 rfl ?_
        refine G_cVr1 C ok_X10_isPay lk_X10_215 rfl rfl (c_X10_isPay hj8) (Nat.le_of_ble_eq_true rfl) dX10_paysUpTo_25 ?_
        refine G_if_eq C 40 dX10_paysUpTo_28 (by decide) (fun h28 => ?_) (fun h28 => ?_)
        · rw [bl_z] at h28
          refine G_iconst C (0) dX10_paysUpTo_40 (by decide) ?_
          refine G_iadd C dX10_paysUpTo_41 ?_
          refine G_istore_n C dX10_paysUpTo_42 (by decide) ?_
          refine G_iincN C dX10_paysUpTo_43 (by decide) rfl ?_
          refine G_goto C 4 dX10_paysUpTo_46 (by decide) ?_
          refine G_sub [(0, _), (1, _), (2, _), (3, _)] (by repeat (first | refine And.intro rfl ?_ | exact True.intro)) ?_
          exact ih (j + 1) _ (by omega) (by omega) ((Int32.add_zero b).trans (hb.trans (s_pays_f (by grind))))
        · rw [bl_z] at h28
          refine G_aload_r C dX10_paysUpTo_31 rfl ?_
          refine G_getR C fo_X10_59 rfl rfl dX10_paysUpTo_32 ?_
          refine G_iload_n C dX10_paysUpTo_35 rfl ?_
          refine G_ialdN C rfl (by assumption) (by decide) dX10_paysUpTo_36 ?_
          refine G_goto C 41 dX10_paysUpTo_37 (by decide) ?_
          refine G_iadd C dX10_paysUpTo_41 ?_
          refine G_istore_n C dX10_paysUpTo_42 (by decide) ?_
          refine G_iincN C dX10_paysUpTo_43 (by decide) rfl ?_
          refine G_goto C 4 dX10_paysUpTo_46 (by decide) ?_
          refine G_sub [(0, _), (1, _), (2, _), (3, _)] (by repeat (first | refine And.intro rfl ?_ | exact True.intro)) ?_
          exact ih (j + 1) _ (by omega) (by omega) (by rw [hb]; exact s_pays_t (by grind) (by grind))
set_option maxHeartbeats 4000000 in
set_option maxRecDepth 100000 in
theorem c_X10_paysUpTo {K : Kt} {d : Nat} {M : Mem} {n : Nat} {w : Int32} (hn : M 36 18 = nI n) (hN : n ≤ 100) : Ri K (d + 1) mX10_paysUpTo [rf K 36, .int w] M (mpays M w n) M := by
  refine Ri_int RX10 [(0, rf K 36), (1, .int w)] rfl (by decide) rfl (Nat.le_of_ble_eq_true rfl) rfl (fun x C => ?_)
  refine G_iconst C (0) dX10_paysUpTo_0 (by decide) ?_
  refine G_istore_n C dX10_paysUpTo_1 (by decide) ?_
  refine G_iconst C (nI 0) dX10_paysUpTo_2 (by decide) ?_
  refine G_istore_n C dX10_paysUpTo_3 (by decide) ?_
  refine G_sub [(0, _), (1, _), (2, _), (3, _)] (by repeat (first | refine And.intro rfl ?_ | exact True.intro)) ?_
  exact L_X10_paysUpTo hn hN rfl C (n + 1) 0 0 (by omega) (by omega) rfl
set_option maxHeartbeats 4000000 in
set_option maxRecDepth 100000 in
theorem L_X1_coinsIn {K : Kt} {d : Nat} {M : Mem} {n : Nat} {w : Int32} {g : Bool} {x : Cx} {o : Int32} (hn : M 28 3 = nI n) (hN : n ≤ 100) (ho : o = s_coin (M 29) (M 30) (M 31) (M 28 4) w g n) (C : Cok K x RX1 cX1_coinsIn 5 (d + 1) (RI (fun v N => v = o ∧ N = M))) :
    ∀ (t j : Nat) (b : Int32), n < j + t → j ≤ n → b = s_coin (M 29) (M 30) (M 31) (M 28 4) w g j → G K x 5 5 [(0, rf K 28), (1, .int w), (2, .int (bl (g = true))), (3, .int b), (4, .int (nI j))] [] M := by
  intro t
  induction t with
  | zero => intro j b h1 h2; omega
  | succ t ih =>
    intro j b h1 h2 hb
    have hj : j ≤ 100 := by omega
    refine G_iload C dX1_coinsIn_5 rfl ?_
    refine G_aload_r C dX1_coinsIn_7 rfl ?_
    refine G_getI C fo_X1_25 rfl rfl dX1_coinsIn_8 ?_
    refine G_icmp_ge C 51 dX1_coinsIn_11 (by decide) (fun h11 => ?_) (fun h11 => ?_)
    · have hE : j = n := by have := n_le hn hN hj (by decide) h11; omega
      refine G_iload_n C dX1_coinsIn_51 rfl ?_
      exact G_retR C dX1_coinsIn_52 (by rw [ho, hb, hE]) rfl
    · have hlt : j < n := n_gt hn hN hj (by decide) h11
      have hj8 : j < 100 := by omega
      refine G_aload_r C dX1_coinsIn_14 rfl ?_
      refine G_getR C fo_X1_9 rfl rfl dX1_coinsIn_15 ?_
      refine G_iload C dX1_coinsIn_18 rfl ?_
      refine G_ialdN C rfl (by assumption) (by decide) dX1_coinsIn_20 ?_
      refine G_iload_n C dX1_coinsIn_21 rfl ?_
      refine G_icmp_ne C 45 dX1_coinsIn_22 (by decide) (fun h22 => ?_) (fun h22 => ?_)
      · refine G_iincN C dX1_coinsIn_45 (by decide) rfl ?_
        refine G_goto C 5 dX1_coinsIn_48 (by decide) ?_
        refine G_sub [(0, _), (1, _), (2, _), (3, _), (4, _)] (by repeat (first | refine And.intro rfl ?_ | exact True.intro)) ?_
        exact ih (j + 1) _ (by omega) (by omega) (hb.trans (s_sum_f (by cases g <;> cases hp : payb (M 28 4) (M 31) j <;> simp_all [bl])).symm)
      · refine G_aload_r C dX1_coinsIn_25 rfl ?_
        refine G_iload C dX1_coinsIn_26 rfl ?_
        refine G_cVr1 C ok_X1_isPay lk_X1_28 rfl rfl (c_X1_isPay hj8) (Nat.le_of_ble_eq_true rfl) dX1_coinsIn_28 ?_
        refine G_iload_n C dX1_coinsIn_31 rfl ?_
        refine G_icmp_ne C 45 dX1_coinsIn_32 (by decide) (fun h32 => ?_) (fun h32 => ?_)
        · refine G_iincN C dX1_coinsIn_45 (by decide) rfl ?_
          refine G_goto C 5 dX1_coinsIn_48 (by decide) ?_
          refine G_sub [(0, _), (1, _), (2, _), (3, _), (4, _)] (by repeat (first | refine And.intro rfl ?_ | exact True.intro)) ?_
          exact ih (j + 1) _ (by omega) (by omega) (hb.trans (s_sum_f (by cases g <;> cases hp : payb (M 28 4) (M 31) j <;> simp_all [bl])).symm)
        · refine G_iload_n C dX1_coinsIn_35 rfl ?_
          refine G_aload_r C dX1_coinsIn_36 rfl ?_
          refine G_getR C fo_X1_15 rfl rfl dX1_coinsIn_37 ?_
          refine G_iload C dX1_coinsIn_40 rfl ?_
          refine G_ialdN C rfl (by assumption) (by decide) dX1_coinsIn_42 ?_
          refine G_iadd C dX1_coinsIn_43 ?_
          refine G_istore_n C dX1_coinsIn_44 (by decide) ?_
          refine G_iincN C dX1_coinsIn_45 (by decide) rfl ?_
          refine G_goto C 5 dX1_coinsIn_48 (by decide) ?_
          refine G_sub [(0, _), (1, _), (2, _), (3, _), (4, _)] (by repeat (first | refine And.intro rfl ?_ | exact True.intro)) ?_
          exact ih (j + 1) _ (by omega) (by omega) ((by rw [hb]; rfl : _ = _).trans (s_sum_t (by cases g <;> cases hp : payb (M 28 4) (M 31) j <;> simp_all [bl])).symm)
set_option maxHeartbeats 4000000 in
set_option maxRecDepth 100000 in
theorem c_X1_coinsIn {K : Kt} {d : Nat} {M : Mem} {n : Nat} {w : Int32} {g : Bool} (hn : M 28 3 = nI n) (hN : n ≤ 100) : Ri K (d + 1) mX1_coinsIn [rf K 28, .int w, .int (bl (g = true))] M (s_coin (M 29) (M 30) (M 31) (M 28 4) w g n) M := by
  refine Ri_int RX1 [(0, rf K 28), (1, .int w), (2, .int (bl (g = true)))] rfl (by decide) rfl (Nat.le_of_ble_eq_true rfl) rfl (fun x C => ?_)
  refine G_iconst C (0) dX1_coinsIn_0 (by decide) ?_
  refine G_istore_n C dX1_coinsIn_1 (by decide) ?_
  refine G_iconst C (nI 0) dX1_coinsIn_2 (by decide) ?_
  refine G_istore C dX1_coinsIn_3 (by decide) ?_
  refine G_sub [(0, _), (1, _), (2, _), (3, _), (4, _)] (by repeat (first | refine And.intro rfl ?_ | exact True.intro)) ?_
  exact L_X1_coinsIn hn hN rfl C (n + 1) 0 0 (by omega) (by omega) rfl
def s_part (r du : Int32) : Int32 := if du < r then du else r
def s_rest (du : Nat → Int32) (c : Int32) : Nat → Int32
  | 0 => c
  | n + 1 => s_rest du c n - s_part (s_rest du c n) (du n)
def s_lft (du : Nat → Int32) (c : Int32) (n : Nat) : Int32 := du n - s_part (s_rest du c n) (du n)
def Pay (M : Mem) (c : Int32) (n : Nat) (N : Mem) : Prop := (∀ i, i ≠ 32 → i ≠ 34 → N i = M i) ∧ (∀ b, b ≠ 3 → N 32 b = M 32 b) ∧ N 32 3 = s_rest (M 33) c n ∧ ∀ i, i < n → N 34 i = s_lft (M 33) c i
theorem Pay.step {M N : Mem} {c : Int32} {j : Nat} (h : Pay M c j N) {a b : Int32} (ha : a = s_lft (M 33) c j) (hb : b = s_rest (M 33) c (j + 1)) : Pay M c (j + 1) (wr (wr N 34 j a) 32 3 b) := by
  obtain ⟨h1, h2, h3, h4⟩ := h
  refine ⟨fun i hi1 hi2 => ?_, fun q hq => ?_, ?_, fun i hi => ?_⟩
  · rw [wr_c hi1, wr_c hi2]; exact h1 i hi1 hi2
  · rw [wr_f hq, wr_c (by decide)]; exact h2 q hq
  · rw [wr_s]; exact hb
  · rw [wr_c (by decide)]
    rcases Nat.lt_or_ge i j with q | q
    · rw [wr_f (by omega)]; exact h4 i q
    · have e : i = j := by omega
      subst e
      rw [wr_s]; exact ha
set_option maxHeartbeats 4000000 in
set_option maxRecDepth 100000 in
theorem L_X0_payOldestFirst {K : Kt} {d : Nat} {M : Mem} {n : Nat} {c : Int32} {x : Cx} (hn : M 32 2 = nI n) (hN : n ≤ 120) (C : Cok K x RX0 cX0_payOldestFirst 4 (d + 1) (RV (Pay M c n))) :
    ∀ (t j : Nat) (N : Mem), n < j + t → j ≤ n → Pay M c j N → G K x 4 7 [(0, rf K 32), (2, .int (nI j))] [] N := by
  intro t
  induction t with
  | zero => intro j N h1 h2; omega
  | succ t ih =>
    intro j N h1 h2 hb
    have hj : j ≤ 120 := by omega
    have hn2 : N 32 2 = nI n := (hb.2.1 2 (by decide)).trans hn
    have e33 : N 33 = M 33 := hb.1 33 (by decide) (by decide)
    refine G_iload_n C dX0_payOldestFirst_7 rfl ?_
    refine G_aload_r C dX0_payOldestFirst_8 rfl ?_
    refine G_getI C fo_X0_22 rfl rfl dX0_payOldestFirst_9 ?_
    refine G_icmp_ge C 59 dX0_payOldestFirst_12 (by decide) (fun h12 => ?_) (fun h12 => ?_)
    · have hE : j = n := by have := n_le hn2 hN hj (by decide) h12; omega
      exact G_vret C dX0_payOldestFirst_59 (by rw [hE] at hb; exact hb)
    · have hlt : j < n := n_gt hn2 hN hj (by decide) h12
      have hj8 : j < 120 := by omega
      refine G_aload_r C dX0_payOldestFirst_15 rfl ?_
      refine G_getI C fo_X0_18 rfl rfl dX0_payOldestFirst_16 ?_
      refine G_aload_r C dX0_payOldestFirst_19 rfl ?_
      refine G_getR C fo_X0_9 rfl rfl dX0_payOldestFirst_20 ?_
      refine G_iload_n C dX0_payOldestFirst_23 rfl ?_
      refine G_ialdN C rfl (by assumption) (by decide) dX0_payOldestFirst_24 ?_
      refine G_mmin C lk_X0_25 ms_min mi_math mc_min (Nat.le_of_ble_eq_true rfl) dX0_payOldestFirst_25 ?_
      refine G_istore_n C dX0_payOldestFirst_28 (by decide) ?_
      refine G_aload_r C dX0_payOldestFirst_29 rfl ?_
      refine G_getR C fo_X0_15 rfl rfl dX0_payOldestFirst_30 ?_
      refine G_iload_n C dX0_payOldestFirst_33 rfl ?_
      refine G_aload_r C dX0_payOldestFirst_34 rfl ?_
      refine G_getR C fo_X0_9 rfl rfl dX0_payOldestFirst_35 ?_
      refine G_iload_n C dX0_payOldestFirst_38 rfl ?_
      refine G_ialdN C rfl (by assumption) (by decide) dX0_payOldestFirst_39 ?_
      refine G_iload_n C dX0_payOldestFirst_40 rfl ?_
      refine G_isub C dX0_payOldestFirst_41 ?_
      refine G_iastN C rfl (by assumption) (by decide) dX0_payOldestFirst_42 ?_
      refine G_aload_r C dX0_payOldestFirst_43 rfl ?_
      refine G_dup C dX0_payOldestFirst_44 rfl ?_
      refine G_getI C fo_X0_18 rfl rfl dX0_payOldestFirst_45 ?_
      refine G_iload_n C dX0_payOldestFirst_48 rfl ?_
      refine G_isub C dX0_payOldestFirst_49 ?_
      refine G_putI C fp_X0_18 rfl rfl dX0_payOldestFirst_50 ?_
      refine G_iincN C dX0_payOldestFirst_53 (by decide) rfl ?_
      refine G_goto C 7 dX0_payOldestFirst_56 (by decide) ?_
      refine G_sub [(0, _), (2, _)] (by repeat (first | refine And.intro rfl ?_ | exact True.intro)) ?_
      exact ih (j + 1) _ (by omega) (by omega) (hb.step (by simp only [s_lft, s_part]; rw [e33, hb.2.2.1]) (by simp only [s_rest, s_part]; rw [wr_c (by decide), e33, hb.2.2.1]))
set_option maxHeartbeats 4000000 in
set_option maxRecDepth 100000 in
theorem c_X0_payOldestFirst {K : Kt} {d : Nat} {M : Mem} {n : Nat} {c : Int32} (hn : M 32 2 = nI n) (hN : n ≤ 120) : Cv K (d + 1) mX0_payOldestFirst [rf K 32, .int c] M (Pay M c n) := by
  refine Cv_of RX0 [(0, rf K 32), (1, .int c)] rfl (by decide) rfl (Nat.le_of_ble_eq_true rfl) rfl (fun x C => ?_)
  refine G_aload_r C dX0_payOldestFirst_0 rfl ?_
  refine G_iload_n C dX0_payOldestFirst_1 rfl ?_
  refine G_putI C fp_X0_18 rfl rfl dX0_payOldestFirst_2 ?_
  refine G_iconst C (nI 0) dX0_payOldestFirst_5 (by decide) ?_
  refine G_istore_n C dX0_payOldestFirst_6 (by decide) ?_
  refine G_sub [(0, _), (2, _)] (by repeat (first | refine And.intro rfl ?_ | exact True.intro)) ?_
  exact L_X0_payOldestFirst hn hN C (n + 1) 0 _ (by omega) (by omega) ⟨fun i h1 h2 => wr_c h1, fun b hb => wr_f hb, wr_s, fun i hi => absurd hi (by omega)⟩
set_option maxHeartbeats 4000000 in
set_option maxRecDepth 100000 in
theorem L_X0_dueUpTo {K : Kt} {d : Nat} {M : Mem} {n : Nat} {x : Cx} {o : Int32} (hN : n < 120) (ho : o = s_tot (M 33) (n + 1)) (C : Cok K x RX0 cX0_dueUpTo 4 d (RI (fun v N => v = o ∧ N = M))) :
    ∀ (t j : Nat) (b : Int32), n + 1 < j + t → j ≤ n + 1 → b = s_tot (M 33) j → G K x 4 4 [(0, rf K 32), (1, .int (nI n)), (2, .int b), (3, .int (nI j))] [] M := by
  intro t
  induction t with
  | zero => intro j b h1 h2; omega
  | succ t ih =>
    intro j b h1 h2 hb
    refine G_iload_n C dX0_dueUpTo_4 rfl ?_
    refine G_iload_n C dX0_dueUpTo_5 rfl ?_
    refine G_icmp_gt C 24 dX0_dueUpTo_6 (by decide) (fun h6 => ?_) (fun h6 => ?_)
    · have hE : j = n + 1 := by have := n_gtE (N := 200) (by omega) (by omega) (by decide) h6; omega
      refine G_iload_n C dX0_dueUpTo_24 rfl ?_
      exact G_retR C dX0_dueUpTo_25 (by rw [ho, hb, hE]) rfl
    · have hlt : j ≤ n := n_leE (N := 200) (by omega) (by omega) (by decide) h6
      have hj8 : j < 120 := by omega
      refine G_iload_n C dX0_dueUpTo_9 rfl ?_
      refine G_aload_r C dX0_dueUpTo_10 rfl ?_
      refine G_getR C fo_X0_9 rfl rfl dX0_dueUpTo_11 ?_
      refine G_iload_n C dX0_dueUpTo_14 rfl ?_
      refine G_ialdN C rfl (by assumption) (by decide) dX0_dueUpTo_15 ?_
      refine G_iadd C dX0_dueUpTo_16 ?_
      refine G_istore_n C dX0_dueUpTo_17 (by decide) ?_
      refine G_iincN C dX0_dueUpTo_18 (by decide) rfl ?_
      refine G_goto C 4 dX0_dueUpTo_21 (by decide) ?_
      refine G_sub [(0, _), (1, _), (2, _), (3, _)] (by repeat (first | refine And.intro rfl ?_ | exact True.intro)) ?_
      exact ih (j + 1) _ (by omega) (by omega) (by rw [hb]; rfl)
set_option maxHeartbeats 4000000 in
set_option maxRecDepth 100000 in
theorem c_X0_dueUpTo {K : Kt} {d : Nat} {M : Mem} {n : Nat} (hN : n < 120) : Ri K d mX0_dueUpTo [rf K 32, .int (nI n)] M (s_tot (M 33) (n + 1)) M := by
  refine Ri_int RX0 [(0, rf K 32), (1, .int (nI n))] rfl (by decide) rfl (Nat.le_of_ble_eq_true rfl) rfl (fun x C => ?_)
  refine G_iconst C (0) dX0_dueUpTo_0 (by decide) ?_
  refine G_istore_n C dX0_dueUpTo_1 (by decide) ?_
  refine G_iconst C (nI 0) dX0_dueUpTo_2 (by decide) ?_
  refine G_istore_n C dX0_dueUpTo_3 (by decide) ?_
  refine G_sub [(0, _), (1, _), (2, _), (3, _)] (by repeat (first | refine And.intro rfl ?_ | exact True.intro)) ?_
  exact L_X0_dueUpTo hN rfl C (n + 2) 0 0 (by omega) (by omega) rfl
set_option maxHeartbeats 4000000 in
set_option maxRecDepth 100000 in
theorem L_X0_leftInAll {K : Kt} {d : Nat} {M : Mem} {n : Nat} {x : Cx} {o : Int32} (hn : M 32 2 = nI n) (hN : n ≤ 120) (ho : o = s_tot (M 34) n) (C : Cok K x RX0 cX0_leftInAll 3 d (RI (fun v N => v = o ∧ N = M))) :
    ∀ (t j : Nat) (b : Int32), n < j + t → j ≤ n → b = s_tot (M 34) j → G K x 3 4 [(0, rf K 32), (1, .int b), (2, .int (nI j))] [] M := by
  intro t
  induction t with
  | zero => intro j b h1 h2; omega
  | succ t ih =>
    intro j b h1 h2 hb
    have hj : j ≤ 120 := by omega
    refine G_iload_n C dX0_leftInAll_4 rfl ?_
    refine G_aload_r C dX0_leftInAll_5 rfl ?_
    refine G_getI C fo_X0_22 rfl rfl dX0_leftInAll_6 ?_
    refine G_icmp_ge C 27 dX0_leftInAll_9 (by decide) (fun h9 => ?_) (fun h9 => ?_)
    · have hE : j = n := by have := n_le hn hN hj (by decide) h9; omega
      refine G_iload_n C dX0_leftInAll_27 rfl ?_
      exact G_retR C dX0_leftInAll_28 (by rw [ho, hb, hE]) rfl
    · have hlt : j < n := n_gt hn hN hj (by decide) h9
      have hj8 : j < 120 := by omega
      refine G_iload_n C dX0_leftInAll_12 rfl ?_
      refine G_aload_r C dX0_leftInAll_13 rfl ?_
      refine G_getR C fo_X0_15 rfl rfl dX0_leftInAll_14 ?_
      refine G_iload_n C dX0_leftInAll_17 rfl ?_
      refine G_ialdN C rfl (by assumption) (by decide) dX0_leftInAll_18 ?_
      refine G_iadd C dX0_leftInAll_19 ?_
      refine G_istore_n C dX0_leftInAll_20 (by decide) ?_
      refine G_iincN C dX0_leftInAll_21 (by decide) rfl ?_
      refine G_goto C 4 dX0_leftInAll_24 (by decide) ?_
      refine G_sub [(0, _), (1, _), (2, _)] (by repeat (first | refine And.intro rfl ?_ | exact True.intro)) ?_
      exact ih (j + 1) _ (by omega) (by omega) (by rw [hb]; rfl)
set_option maxHeartbeats 4000000 in
set_option maxRecDepth 100000 in
theorem c_X0_leftInAll {K : Kt} {d : Nat} {M : Mem} {n : Nat} (hn : M 32 2 = nI n) (hN : n ≤ 120) : Ri K d mX0_leftInAll [rf K 32] M (s_tot (M 34) n) M := by
  refine Ri_int RX0 [(0, rf K 32)] rfl (by decide) rfl (Nat.le_of_ble_eq_true rfl) rfl (fun x C => ?_)
  refine G_iconst C (0) dX0_leftInAll_0 (by decide) ?_
  refine G_istore_n C dX0_leftInAll_1 (by decide) ?_
  refine G_iconst C (nI 0) dX0_leftInAll_2 (by decide) ?_
  refine G_istore_n C dX0_leftInAll_3 (by decide) ?_
  refine G_sub [(0, _), (1, _), (2, _)] (by repeat (first | refine And.intro rfl ?_ | exact True.intro)) ?_
  exact L_X0_leftInAll hn hN rfl C (n + 1) 0 0 (by omega) (by omega) rfl
def s_fst (f : Nat → Int32) : Nat → Nat → Option Nat
  | 0, _ => none
  | t + 1, j => if 0 < f j then some j else s_fst f t (j + 1)
set_option maxHeartbeats 4000000 in
set_option maxRecDepth 100000 in
theorem L_X0_firstLeft {K : Kt} {d : Nat} {M : Mem} {n : Nat} {x : Cx} {o : Option Nat} (hn : M 32 2 = nI n) (hN : n ≤ 120) (C : Cok K x RX0 cX0_firstLeft 2 d (RI (fun v N => v = ixv o ∧ N = M))) :
    ∀ (t j : Nat), j + t = n → o = s_fst (M 34) t j → G K x 2 2 [(0, rf K 32), (1, .int (nI j))] [] M := by
  intro t
  induction t with
  | zero =>
    intro j h1 ho
    have hj : j ≤ 120 := by omega
    refine G_iload_n C dX0_firstLeft_2 rfl ?_
    refine G_aload_r C dX0_firstLeft_3 rfl ?_
    refine G_getI C fo_X0_22 rfl rfl dX0_firstLeft_4 ?_
    refine G_icmp_ge C 27 dX0_firstLeft_7 (by decide) (fun h7 => ?_) (fun h7 => ?_)
    · refine G_ldc C kc_X0_31 dX0_firstLeft_27 ?_
      exact G_retR C dX0_firstLeft_29 (by rw [ho]; rfl) rfl
    · exact absurd (n_gt hn hN hj (by decide) h7) (by omega)
  | succ t ih =>
    intro j h1 ho
    have hj : j ≤ 120 := by omega
    have hj8 : j < 120 := by omega
    refine G_iload_n C dX0_firstLeft_2 rfl ?_
    refine G_aload_r C dX0_firstLeft_3 rfl ?_
    refine G_getI C fo_X0_22 rfl rfl dX0_firstLeft_4 ?_
    refine G_icmp_ge C 27 dX0_firstLeft_7 (by decide) (fun h7 => ?_) (fun h7 => ?_)
    · exact absurd (n_le hn hN hj (by decide) h7) (by omega)
    · refine G_aload_r C dX0_firstLeft_10 rfl ?_
      refine G_getR C fo_X0_15 rfl rfl dX0_firstLeft_11 ?_
      refine G_iload_n C dX0_firstLeft_14 rfl ?_
      refine G_ialdN C rfl (by assumption) (by decide) dX0_firstLeft_15 ?_
      refine G_if_le C 21 dX0_firstLeft_16 (by decide) (fun h16 => ?_) (fun h16 => ?_)
      · refine G_iincN C dX0_firstLeft_21 (by decide) rfl ?_
        refine G_goto C 2 dX0_firstLeft_24 (by decide) ?_
        refine G_sub [(0, _), (1, _)] (by repeat (first | refine And.intro rfl ?_ | exact True.intro)) ?_
        exact ih (j + 1) (by omega) (by rw [ho]; simp only [s_fst]; rw [if_neg (by grind)])
      · refine G_iload_n C dX0_firstLeft_19 rfl ?_
        exact G_retR C dX0_firstLeft_20 (by rw [ho]; simp only [s_fst]; rw [if_pos (by grind)]; rfl) rfl
set_option maxHeartbeats 4000000 in
set_option maxRecDepth 100000 in
theorem c_X0_firstLeft {K : Kt} {d : Nat} {M : Mem} {n : Nat} (hn : M 32 2 = nI n) (hN : n ≤ 120) : Ri K d mX0_firstLeft [rf K 32] M (ixv (s_fst (M 34) n 0)) M := by
  refine Ri_int RX0 [(0, rf K 32)] rfl (by decide) rfl (Nat.le_of_ble_eq_true rfl) rfl (fun x C => ?_)
  refine G_iconst C (nI 0) dX0_firstLeft_0 (by decide) ?_
  refine G_istore_n C dX0_firstLeft_1 (by decide) ?_
  refine G_sub [(0, _), (1, _)] (by repeat (first | refine And.intro rfl ?_ | exact True.intro)) ?_
  exact L_X0_firstLeft hn hN C n 0 (by omega) rfl
def s_rt (r v : Int32) : Int32 := v * r / 10000
set_option maxHeartbeats 4000000 in
set_option maxRecDepth 100000 in
theorem L_X0_interestUpTo {K : Kt} {d : Nat} {M : Mem} {n : Nat} {r : Int32} {x : Cx} {o : Int32} (hN : n < 120) (ho : o = s_tot (fun j => s_rt r (M 34 j)) (n + 1)) (C : Cok K x RX0 cX0_interestUpTo 5 d (RI (fun v N => v = o ∧ N = M))) :
    ∀ (t j : Nat) (b : Int32), n + 1 < j + t → j ≤ n + 1 → b = s_tot (fun j => s_rt r (M 34 j)) j → G K x 5 5 [(0, rf K 32), (1, .int (nI n)), (2, .int r), (3, .int b), (4, .int (nI j))] [] M := by
  intro t
  induction t with
  | zero => intro j b h1 h2; omega
  | succ t ih =>
    intro j b h1 h2 hb
    refine G_iload C dX0_interestUpTo_5 rfl ?_
    refine G_iload_n C dX0_interestUpTo_7 rfl ?_
    refine G_icmp_gt C 33 dX0_interestUpTo_8 (by decide) (fun h8 => ?_) (fun h8 => ?_)
    · have hE : j = n + 1 := by have := n_gtE (N := 200) (by omega) (by omega) (by decide) h8; omega
      refine G_iload_n C dX0_interestUpTo_33 rfl ?_
      exact G_retR C dX0_interestUpTo_34 (by rw [ho, hb, hE]) rfl
    · have hlt : j ≤ n := n_leE (N := 200) (by omega) (by omega) (by decide) h8
      have hj8 : j < 120 := by omega
      refine G_iload_n C dX0_interestUpTo_11 rfl ?_
      refine G_aload_r C dX0_interestUpTo_12 rfl ?_
      refine G_getR C fo_X0_15 rfl rfl dX0_interestUpTo_13 ?_
      refine G_iload C dX0_interestUpTo_16 rfl ?_
      refine G_ialdN C rfl (by assumption) (by decide) dX0_interestUpTo_18 ?_
      refine G_iload_n C dX0_interestUpTo_19 rfl ?_
      refine G_imul C dX0_interestUpTo_20 ?_
      refine G_sipush C (10000) dX0_interestUpTo_21 (by decide) ?_
      refine G_idiv C dX0_interestUpTo_24 (by decide) ?_
      refine G_iadd C dX0_interestUpTo_25 ?_
      refine G_istore_n C dX0_interestUpTo_26 (by decide) ?_
      refine G_iincN C dX0_interestUpTo_27 (by decide) rfl ?_
      refine G_goto C 5 dX0_interestUpTo_30 (by decide) ?_
      refine G_sub [(0, _), (1, _), (2, _), (3, _), (4, _)] (by repeat (first | refine And.intro rfl ?_ | exact True.intro)) ?_
      exact ih (j + 1) _ (by omega) (by omega) (by rw [hb]; rfl)
set_option maxHeartbeats 4000000 in
set_option maxRecDepth 100000 in
theorem c_X0_interestUpTo {K : Kt} {d : Nat} {M : Mem} {n : Nat} {r : Int32} (hN : n < 120) : Ri K d mX0_interestUpTo [rf K 32, .int (nI n), .int r] M (s_tot (fun j => s_rt r (M 34 j)) (n + 1)) M := by
  refine Ri_int RX0 [(0, rf K 32), (1, .int (nI n)), (2, .int r)] rfl (by decide) rfl (Nat.le_of_ble_eq_true rfl) rfl (fun x C => ?_)
  refine G_iconst C (0) dX0_interestUpTo_0 (by decide) ?_
  refine G_istore_n C dX0_interestUpTo_1 (by decide) ?_
  refine G_iconst C (nI 0) dX0_interestUpTo_2 (by decide) ?_
  refine G_istore C dX0_interestUpTo_3 (by decide) ?_
  refine G_sub [(0, _), (1, _), (2, _), (3, _), (4, _)] (by repeat (first | refine And.intro rfl ?_ | exact True.intro)) ?_
  exact L_X0_interestUpTo hN rfl C (n + 2) 0 0 (by omega) (by omega) rfl
def s_lby (al du c : Int32) : Int32 := if 0 ≤ al - c then (if du ≤ al - c then du else al - c) else 0
set_option maxHeartbeats 4000000 in
set_option maxRecDepth 100000 in
theorem c_X10_leftBy {K : Kt} {d : Nat} {M : Mem} {w : Nat} {c : Int32} (hw : w < 120) : Ri K d mX10_leftBy [rf K 36, .int (nI w), .int c] M (s_lby (M 60 w) (M 59 w) c) M := by
  refine Ri_int RX10 [(0, rf K 36), (1, .int (nI w)), (2, .int c)] rfl (by decide) rfl (Nat.le_of_ble_eq_true rfl) rfl (fun x C => ?_)
  refine G_aload_r C dX10_leftBy_0 rfl ?_
  refine G_getR C fo_X10_84 rfl rfl dX10_leftBy_1 ?_
  refine G_iload_n C dX10_leftBy_4 rfl ?_
  refine G_ialdN C rfl (by assumption) (by decide) dX10_leftBy_5 ?_
  refine G_iload_n C dX10_leftBy_6 rfl ?_
  refine G_isub C dX10_leftBy_7 ?_
  refine G_istore_n C dX10_leftBy_8 (by decide) ?_
  refine G_iload_n C dX10_leftBy_9 rfl ?_
  refine G_if_ge C 17 dX10_leftBy_10 (by decide) (fun h10 => ?_) (fun h10 => ?_)
  · refine G_iload_n C dX10_leftBy_17 rfl ?_
    refine G_aload_r C dX10_leftBy_18 rfl ?_
    refine G_getR C fo_X10_81 rfl rfl dX10_leftBy_19 ?_
    refine G_iload_n C dX10_leftBy_22 rfl ?_
    refine G_ialdN C rfl (by assumption) (by decide) dX10_leftBy_23 ?_
    refine G_icmp_ge C 31 dX10_leftBy_24 (by decide) (fun h24 => ?_) (fun h24 => ?_)
    · refine G_aload_r C dX10_leftBy_31 rfl ?_
      refine G_getR C fo_X10_81 rfl rfl dX10_leftBy_32 ?_
      refine G_iload_n C dX10_leftBy_35 rfl ?_
      refine G_ialdN C rfl (by assumption) (by decide) dX10_leftBy_36 ?_
      exact G_retR C dX10_leftBy_37 (by simp only [s_lby]; grind) rfl
    · refine G_iload_n C dX10_leftBy_27 rfl ?_
      refine G_goto C 37 dX10_leftBy_28 (by decide) ?_
      exact G_retR C dX10_leftBy_37 (by simp only [s_lby]; grind) rfl
  · refine G_iconst C (0) dX10_leftBy_13 (by decide) ?_
    refine G_goto C 37 dX10_leftBy_14 (by decide) ?_
    exact G_retR C dX10_leftBy_37 (by simp only [s_lby]; grind) rfl
end
section
def Agx (M N : Mem) : Prop := ∀ i, i ≠ 32 → i ≠ 33 → i ≠ 34 → N i = M i
def Agm (M N : Mem) : Prop := ∀ i, i ≠ 59 → i ≠ 60 → N i = M i
theorem xhold_ag {M N : Mem} (h : Agx M N) : xhold N = xhold M := by
  funext k w j
  simp only [xhold]
  rw [h 4 (by decide) (by decide) (by decide), h 5 (by decide) (by decide) (by decide), h 6 (by decide) (by decide) (by decide)]
theorem xbest_ag {M N : Mem} (h : Agx M N) : xbest N = xbest M := by
  funext n kd k w
  simp only [xbest]
  rw [h 2 (by decide) (by decide) (by decide), h 4 (by decide) (by decide) (by decide), xhold_ag h]
theorem xkids_ag {M N : Mem} (h : Agx M N) : xkids N = xkids M := by
  funext n k w
  simp only [xkids]
  rw [h 2 (by decide) (by decide) (by decide), h 3 (by decide) (by decide) (by decide), xhold_ag h]
theorem xlb_ag {M N : Mem} (h : Agx M N) {nl : Nat} (hl : nl ≤ 8) (w : Int32) : xlb N nl w = xlb M nl w := by
  simp only [xlb]
  exact s_best_cong (fun i hi => by rw [h (12 + i) (by omega) (by omega) (by omega)]) (fun i hi => by rw [h (12 + i) (by omega) (by omega) (by omega)])
theorem xsumv_ag {M N : Mem} (h : Agx M N) {nl : Nat} (hl : nl ≤ 8) (nc : Nat) (w n k : Int32) : xsumv N nl nc w n k = xsumv M nl nc w n k := by
  simp only [xsumv]
  rw [xlb_ag h hl, xkids_ag h, xbest_ag h, h 3 (by decide) (by decide) (by decide)]
  cases e : xlb M nl w with
  | none => rfl
  | some l =>
    have hl' := s_best_lt e
    dsimp only
    rw [h (12 + l) (by omega) (by omega) (by omega)]
theorem xend_ag {M N : Mem} (h : Agx M N) : xend N = xend M := by
  funext w g
  simp only [xend, xsch, xtold]
  rw [h 27 (by decide) (by decide) (by decide), h (23 + 0) (by decide) (by decide) (by decide), h (23 + 1) (by decide) (by decide) (by decide), h (25 + 0) (by decide) (by decide) (by decide), h (25 + 1) (by decide) (by decide) (by decide)]
theorem xduev_ag {M N : Mem} (h : Agx M N) {nl : Nat} (hl : nl ≤ 8) (nc : Nat) (side k : Int32) (w : Nat) : xduev N nl nc side k w = xduev M nl nc side k w := by
  simp only [xduev]
  rw [xend_ag h, xsumv_ag h hl, xsumv_ag h hl, h 35 (by decide) (by decide) (by decide)]
theorem xpays_ag {M N : Mem} (h : Agx M N) : xpays N = xpays M := by
  funext w n
  simp only [xpays]
  rw [h 28 (by decide) (by decide) (by decide), h 29 (by decide) (by decide) (by decide), h 30 (by decide) (by decide) (by decide), h 31 (by decide) (by decide) (by decide)]
theorem mhold_ag {M N : Mem} (h : Agm M N) : mhold N = mhold M := by
  funext k w j
  simp only [mhold]
  rw [h 39 (by decide) (by decide), h 40 (by decide) (by decide), h 41 (by decide) (by decide)]
theorem mbest_ag {M N : Mem} (h : Agm M N) : mbest N = mbest M := by
  funext n kd k w
  simp only [mbest]
  rw [h 37 (by decide) (by decide), h 39 (by decide) (by decide), mhold_ag h]
theorem mkids_ag {M N : Mem} (h : Agm M N) : mkids N = mkids M := by
  funext n k w
  simp only [mkids]
  rw [h 37 (by decide) (by decide), h 38 (by decide) (by decide), mhold_ag h]
theorem msumv_ag {M N : Mem} (h : Agm M N) : msumv N = msumv M := by
  funext nl nc w n k
  simp only [msumv, mlb]
  rw [mkids_ag h, mbest_ag h, h 38 (by decide) (by decide), h 44 (by decide) (by decide), h 45 (by decide) (by decide), h 46 (by decide) (by decide), h 47 (by decide) (by decide), h 48 (by decide) (by decide), h 49 (by decide) (by decide), h 50 (by decide) (by decide), h 51 (by decide) (by decide)]
theorem mend_ag {M N : Mem} (h : Agm M N) : mend N = mend M := by
  funext w g
  simp only [mend, msch, mtold]
  rw [h 42 (by decide) (by decide), h 56 (by decide) (by decide), h 57 (by decide) (by decide)]
theorem mduev_ag {M N : Mem} (h : Agm M N) : mduev N = mduev M := by
  funext nl nc side k w
  simp only [mduev]
  rw [mend_ag h, msumv_ag h, h 43 (by decide) (by decide)]
theorem mpays_ag {M N : Mem} (h : Agm M N) : mpays N = mpays M := by
  funext w n
  simp only [mpays]
  rw [h 36 (by decide) (by decide), h 52 (by decide) (by decide), h 53 (by decide) (by decide), h 54 (by decide) (by decide)]
theorem s_rest_cong {f g : Nat → Int32} {c : Int32} : ∀ {n : Nat}, (∀ i, i < n → f i = g i) → s_rest f c n = s_rest g c n
  | 0, _ => rfl
  | n + 1, h => by
    simp only [s_rest]
    rw [s_rest_cong (n := n) (fun i hi => h i (by omega)), h n (by omega)]
theorem s_lft_cong {f g : Nat → Int32} {c : Int32} {n : Nat} (h : ∀ i, i ≤ n → f i = g i) : s_lft f c n = s_lft g c n := by
  simp only [s_lft]
  rw [s_rest_cong (n := n) (fun i hi => h i (by omega)), h n (by omega)]
def XS (M : Mem) (nc nl nb nw : Nat) : Prop := M 1 5 = nI nc ∧ nc ≤ 80 ∧ M 10 1 = nI nl ∧ nl ≤ 8 ∧ M 28 3 = nI nb ∧ nb ≤ 100 ∧ M 0 9 = nI nw ∧ nw < 120
def MS (M : Mem) (nc nl nb nw : Nat) : Prop := M 36 1 = nI nc ∧ nc ≤ 80 ∧ M 36 9 = nI nl ∧ nl ≤ 8 ∧ M 36 18 = nI nb ∧ nb ≤ 100 ∧ M 36 0 = nI nw ∧ nw < 120 ∧ ∀ i, i < nc → M 37 i ≠ 2 → 0 ≤ M 38 i
theorem XS.ag {M N : Mem} {nc nl nb nw : Nat} (h : XS M nc nl nb nw) (a : Agx M N) : XS N nc nl nb nw := by
  unfold XS at *
  rw [a 1 (by decide) (by decide) (by decide), a 10 (by decide) (by decide) (by decide), a 28 (by decide) (by decide) (by decide), a 0 (by decide) (by decide) (by decide)]
  exact h
theorem MS.ag {M N : Mem} {nc nl nb nw : Nat} (h : MS M nc nl nb nw) (a : Agm M N) : MS N nc nl nb nw := by
  unfold MS at *
  rw [a 36 (by decide) (by decide), a 37 (by decide) (by decide), a 38 (by decide) (by decide)]
  exact h
/-- behind settle: the dues of the weeks up to k, and what stays of them -/
def Settled (M : Mem) (D : Nat → Int32) (c : Int32) (k : Nat) (N : Mem) : Prop := Agx M N ∧ N 32 2 = nI (k + 1) ∧ (∀ i, i ≤ k → N 33 i = D i) ∧ N 32 3 = s_rest D c (k + 1) ∧ ∀ i, i ≤ k → N 34 i = s_lft D c i
def Found (M : Mem) (D : Nat → Int32) (k : Nat) (N : Mem) : Prop := Agm M N ∧ (∀ i, i ≤ k → N 59 i = D i) ∧ ∀ i, i ≤ k → N 60 i = s_tot D (i + 1)
set_option maxHeartbeats 4000000 in
set_option maxRecDepth 100000 in
theorem L_X9_settle {K : Kt} {d : Nat} {M : Mem} {nc nl nb nw : Nat} {side : Int32} {k : Nat} (hx : XS M nc nl nb nw) (hk : k < 120) {x : Cx} (C : Cok K x RX9 cX9_settle 4 (d + 5) (RV (Settled M (fun w => xduev M nl nc side (nI k) w) (xpays M (nI k) nb) k))) :
    ∀ (t j : Nat) (N : Mem), k + 1 < j + t → j ≤ k + 1 → (∀ i, i ≠ 33 → N i = M i) → (∀ i, i < j → N 33 i = xduev M nl nc side (nI k) i) → G K x 4 2 [(0, rf K 0), (1, .int side), (2, .int (nI k)), (3, .int (nI j))] [] N := by
  intro t
  induction t with
  | zero => intro j N h1 h2; omega
  | succ t ih =>
    intro j N h1 h2 h3 hd4
    have ha : Agx M N := fun i _ hi _ => h3 i hi
    have hxN := hx.ag ha
    have hxN' := hxN
    obtain ⟨hc, hc8, hl, hl8, hb, hb8, hw, hw8⟩ := hxN'
    refine G_iload_n C dX9_settle_2 rfl ?_
    refine G_iload_n C dX9_settle_3 rfl ?_
    refine G_icmp_gt C 29 dX9_settle_4 (by decide) (fun h4 => ?_) (fun h4 => ?_)
    · have hE : j = k + 1 := by have := n_gtE (N := 200) (by omega) (by omega) (by decide) h4; omega
      refine G_aload_r C dX9_settle_29 rfl ?_
      refine G_getR C fo_X9_56 rfl rfl dX9_settle_30 ?_
      refine G_iload_n C dX9_settle_33 rfl ?_
      refine G_iconst C (1) dX9_settle_34 (by decide) ?_
      refine G_iadd C dX9_settle_35 ?_
      rw [nI_1]
      refine G_putI C fp_X9_239 rfl rfl dX9_settle_36 ?_
      refine G_aload_r C dX9_settle_39 rfl ?_
      refine G_getR C fo_X9_56 rfl rfl dX9_settle_40 ?_
      refine G_aload_r C dX9_settle_43 rfl ?_
      refine G_getR C fo_X9_49 rfl rfl dX9_settle_44 ?_
      refine G_iload_n C dX9_settle_47 rfl ?_
      refine G_cVr1 C ok_X1_paysUpTo lk_X9_227 rfl rfl (c_X1_paysUpTo (n := nb) (by rw [wr_c (by decide)]; exact hb) hb8) (Nat.le_of_ble_eq_true rfl) dX9_settle_48 ?_
      refine G_cVv1 C ok_X0_payOldestFirst lk_X9_230 rfl rfl (c_X0_payOldestFirst (n := k + 1) wr_s (by omega)) (Nat.le_of_ble_eq_true rfl) dX9_settle_51 (fun N2 hq => ?_)
      refine G_vret C dX9_settle_54 ?_
      obtain ⟨q1, q2, q3, q4⟩ := hq
      have e33 : wr N 32 2 (nI (k + 1)) 33 = N 33 := wr_c (by decide)
      have ec : xpays (wr N 32 2 (nI (k + 1))) (nI k) nb = xpays M (nI k) nb := by rw [← xpays_ag ha]; exact congrFun (congrFun (xpays_ag (fun i hi _ _ => wr_c hi)) _) _
      have eD : ∀ i, i < k + 1 → wr N 32 2 (nI (k + 1)) 33 i = xduev M nl nc side (nI k) i := fun i hi => by rw [e33]; exact hd4 i (by omega)
      refine ⟨fun i h1 h2 h3' => ?_, ?_, fun i hi => ?_, ?_, fun i hi => ?_⟩
      · rw [q1 i h1 h3', wr_c h1]; exact h3 i h2
      · rw [q2 2 (by decide)]; exact wr_s
      · rw [q1 33 (by decide) (by decide)]; exact eD i (by omega)
      · rw [q3, ec]; exact s_rest_cong eD
      · rw [q4 i (by omega), ec]; exact s_lft_cong (fun q hq => eD q (by omega))
    · have hlt : j ≤ k := n_leE (N := 200) (by omega) (by omega) (by decide) h4
      have hj8 : j < 120 := by omega
      refine G_aload_r C dX9_settle_7 rfl ?_
      refine G_getR C fo_X9_56 rfl rfl dX9_settle_8 ?_
      refine G_getR C fo_X9_218 rfl rfl dX9_settle_11 ?_
      refine G_iload_n C dX9_settle_14 rfl ?_
      refine G_aload_r C dX9_settle_15 rfl ?_
      refine G_iload_n C dX9_settle_16 rfl ?_
      refine G_iload_n C dX9_settle_17 rfl ?_
      refine G_iload_n C dX9_settle_18 rfl ?_
      refine G_cVr3 C ok_X9_dueOf lk_X9_170 rfl rfl (c_X9_dueOf hl hl8 hc hc8 hj8) (Nat.le_of_ble_eq_true rfl) dX9_settle_19 ?_
      refine G_iastN C rfl (by assumption) (by decide) dX9_settle_22 ?_
      refine G_iincN C dX9_settle_23 (by decide) rfl ?_
      refine G_goto C 2 dX9_settle_26 (by decide) ?_
      refine G_sub [(0, _), (1, _), (2, _), (3, _)] (by repeat (first | refine And.intro rfl ?_ | exact True.intro)) ?_
      refine ih (j + 1) _ (by omega) (by omega) (fun i hi => (wr_c hi).trans (h3 i hi)) (fun i hi => ?_)
      rcases Nat.lt_or_ge i j with q | q
      · rw [wr_f (by omega)]; exact hd4 i q
      · have e : i = j := by omega
        subst e
        rw [wr_s]
        exact xduev_ag ha hl8 nc side (nI k) i
set_option maxHeartbeats 4000000 in
set_option maxRecDepth 100000 in
theorem c_X9_settle {K : Kt} {d : Nat} {M : Mem} {nc nl nb nw : Nat} {side : Int32} {k : Nat} (hx : XS M nc nl nb nw) (hk : k < 120) : Cv K (d + 5) mX9_settle [rf K 0, .int side, .int (nI k)] M (Settled M (fun w => xduev M nl nc side (nI k) w) (xpays M (nI k) nb) k) := by
  refine Cv_of RX9 [(0, rf K 0), (1, .int side), (2, .int (nI k))] rfl (by decide) rfl (Nat.le_of_ble_eq_true rfl) rfl (fun x C => ?_)
  refine G_iconst C (nI 0) dX9_settle_0 (by decide) ?_
  refine G_istore_n C dX9_settle_1 (by decide) ?_
  refine G_sub [(0, _), (1, _), (2, _), (3, _)] (by repeat (first | refine And.intro rfl ?_ | exact True.intro)) ?_
  exact L_X9_settle hx hk C (k + 2) 0 M (by omega) (by omega) (fun _ _ => rfl) (fun i hi => absurd hi (by omega))
set_option maxHeartbeats 4000000 in
set_option maxRecDepth 100000 in
theorem L_X10_findDues {K : Kt} {d : Nat} {M : Mem} {nc nl nb nw : Nat} {side : Int32} {k : Nat} (hx : MS M nc nl nb nw) (hk : k < 120) {x : Cx} (C : Cok K x RX10 cX10_findDues 5 (d + 5) (RV (Found M (fun w => mduev M nl nc side (nI k) w) k))) :
    ∀ (t j : Nat) (N : Mem) (b : Int32), k + 1 < j + t → j ≤ k + 1 → Agm M N → (∀ i, i < j → N 59 i = mduev M nl nc side (nI k) i) → (∀ i, i < j → N 60 i = s_tot (fun w => mduev M nl nc side (nI k) w) (i + 1)) → b = s_tot (fun w => mduev M nl nc side (nI k) w) j → G K x 5 5 [(0, rf K 36), (1, .int side), (2, .int (nI k)), (3, .int b), (4, .int (nI j))] [] N := by
  intro t
  induction t with
  | zero => intro j N b h1 h2; omega
  | succ t ih =>
    intro j N b h1 h2 ha h4 h5 hb
    have hxN := hx.ag ha
    obtain ⟨hc, hc8, hl, hl8, hbk, hb8, hw, hw8, hv⟩ := hxN
    refine G_iload C dX10_findDues_5 rfl ?_
    refine G_iload_n C dX10_findDues_7 rfl ?_
    refine G_icmp_gt C 50 dX10_findDues_8 (by decide) (fun h8 => ?_) (fun h8 => ?_)
    · have hE : j = k + 1 := by have := n_gtE (N := 200) (by omega) (by omega) (by decide) h8; omega
      exact G_vret C dX10_findDues_50 ⟨ha, fun i hi => h4 i (by omega), fun i hi => h5 i (by omega)⟩
    · have hlt : j ≤ k := n_leE (N := 200) (by omega) (by omega) (by decide) h8
      have hj8 : j < 120 := by omega
      refine G_aload_r C dX10_findDues_11 rfl ?_
      refine G_getR C fo_X10_81 rfl rfl dX10_findDues_12 ?_
      refine G_iload C dX10_findDues_15 rfl ?_
      refine G_aload_r C dX10_findDues_17 rfl ?_
      refine G_iload C dX10_findDues_18 rfl ?_
      refine G_iload_n C dX10_findDues_20 rfl ?_
      refine G_iload_n C dX10_findDues_21 rfl ?_
      refine G_cVr3 C ok_X10_dueOf lk_X10_209 rfl rfl (c_X10_dueOf hl hl8 hc hc8 hv hj8) (Nat.le_of_ble_eq_true rfl) dX10_findDues_22 ?_
      rw [mduev_ag ha]
      refine G_top (fun D eD => ?_)
      refine G_iastN C rfl (by assumption) (by decide) dX10_findDues_25 ?_
      refine G_iload_n C dX10_findDues_26 rfl ?_
      refine G_aload_r C dX10_findDues_27 rfl ?_
      refine G_getR C fo_X10_81 rfl rfl dX10_findDues_28 ?_
      refine G_iload C dX10_findDues_31 rfl ?_
      refine G_ialdN C rfl (by assumption) (by decide) dX10_findDues_33 ?_
      rw [wr_s]
      refine G_iadd C dX10_findDues_34 ?_
      refine G_istore_n C dX10_findDues_35 (by decide) ?_
      refine G_aload_r C dX10_findDues_36 rfl ?_
      refine G_getR C fo_X10_84 rfl rfl dX10_findDues_37 ?_
      refine G_iload C dX10_findDues_40 rfl ?_
      refine G_iload_n C dX10_findDues_42 rfl ?_
      refine G_iastN C rfl (by assumption) (by decide) dX10_findDues_43 ?_
      refine G_iincN C dX10_findDues_44 (by decide) rfl ?_
      refine G_goto C 5 dX10_findDues_47 (by decide) ?_
      refine G_sub [(0, _), (1, _), (2, _), (3, _), (4, _)] (by repeat (first | refine And.intro rfl ?_ | exact True.intro)) ?_
      refine ih (j + 1) _ _ (by omega) (by omega) (fun i h1' h2' => ?_) (fun i hi => ?_) (fun i hi => ?_) (by rw [hb, eD]; rfl)
      · rw [wr_c h2', wr_c h1']; exact ha i h1' h2'
      · rw [wr_c (by decide)]
        rcases Nat.lt_or_ge i j with q | q
        · rw [wr_f (by omega)]; exact h4 i q
        · have e : i = j := by omega
          subst e
          rw [wr_s]; exact eD
      · rcases Nat.lt_or_ge i j with q | q
        · rw [wr_f (by omega), wr_c (by decide)]; exact h5 i q
        · have e : i = j := by omega
          subst e
          rw [wr_s, hb, eD]; rfl
set_option maxHeartbeats 4000000 in
set_option maxRecDepth 100000 in
theorem c_X10_findDues {K : Kt} {d : Nat} {M : Mem} {nc nl nb nw : Nat} {side : Int32} {k : Nat} (hx : MS M nc nl nb nw) (hk : k < 120) : Cv K (d + 5) mX10_findDues [rf K 36, .int side, .int (nI k)] M (Found M (fun w => mduev M nl nc side (nI k) w) k) := by
  refine Cv_of RX10 [(0, rf K 36), (1, .int side), (2, .int (nI k))] rfl (by decide) rfl (Nat.le_of_ble_eq_true rfl) rfl (fun x C => ?_)
  refine G_iconst C (0) dX10_findDues_0 (by decide) ?_
  refine G_istore_n C dX10_findDues_1 (by decide) ?_
  refine G_iconst C (nI 0) dX10_findDues_2 (by decide) ?_
  refine G_istore C dX10_findDues_3 (by decide) ?_
  refine G_sub [(0, _), (1, _), (2, _), (3, _), (4, _)] (by repeat (first | refine And.intro rfl ?_ | exact True.intro)) ?_
  exact L_X10_findDues hx hk C (k + 2) 0 M 0 (by omega) (by omega) (fun _ _ _ => rfl) (fun i hi => absurd hi (by omega)) (fun i hi => absurd hi (by omega)) rfl
def s_inn (wk co : Nat → Int32) (pb : Nat → Bool) (coin w : Int32) : Nat → Nat → Int32 → Option Nat × Int32
  | 0, _, a => (none, a)
  | t + 1, i, a => if wk i = w ∧ pb i = true then (if coin ≤ a + co i then (some i, a + co i) else s_inn wk co pb coin w t (i + 1) (a + co i)) else s_inn wk co pb coin w t (i + 1) a
def s_out (wk co : Nat → Int32) (pb : Nat → Bool) (coin : Int32) (n : Nat) : Nat → Nat → Int32 → Option Nat
  | 0, _, _ => none
  | t + 1, w, a => match s_inn wk co pb coin (nI w) n 0 a with
    | (some i, _) => some i
    | (none, a') => s_out wk co pb coin n t (w + 1) a'
set_option maxHeartbeats 4000000 in
set_option maxRecDepth 100000 in
theorem L1_X1_lineWithCoin {K : Kt} {d : Nat} {M : Mem} {n w : Nat} {coin last : Int32} {x : Cx} {o : Option Nat} (hn : M 28 3 = nI n) (hN : n ≤ 100) (C : Cok K x RX1 cX1_lineWithCoin 6 (d + 1) (RI (fun v N => v = ixv o ∧ N = M))) :
    ∀ (t j : Nat) (a : Int32), j + t = n → (∀ q a', s_inn (M 29) (M 30) (payb (M 28 4) (M 31)) coin (nI w) t j a = (some q, a') → o = some q) → (∀ a', s_inn (M 29) (M 30) (payb (M 28 4) (M 31)) coin (nI w) t j a = (none, a') → G K x 6 71 [(0, rf K 28), (1, .int coin), (2, .int last), (3, .int a'), (4, .int (nI w))] [] M) → G K x 6 14 [(0, rf K 28), (1, .int coin), (2, .int last), (3, .int a), (4, .int (nI w)), (5, .int (nI j))] [] M := by
  intro t
  induction t with
  | zero =>
    intro j a h1 h2 h3
    have hj : j ≤ 100 := by omega
    refine G_iload C dX1_lineWithCoin_14 rfl ?_
    refine G_aload_r C dX1_lineWithCoin_16 rfl ?_
    refine G_getI C fo_X1_25 rfl rfl dX1_lineWithCoin_17 ?_
    refine G_icmp_ge C 71 dX1_lineWithCoin_20 (by decide) (fun h20 => ?_) (fun h20 => ?_)
    · refine G_sub [(0, _), (1, _), (2, _), (3, _), (4, _)] (by repeat (first | refine And.intro rfl ?_ | exact True.intro)) ?_
      exact h3 a rfl
    · exact absurd (n_gt hn hN hj (by decide) h20) (by omega)
  | succ t ih =>
    intro j a h1 h2 h3
    have hj : j ≤ 100 := by omega
    have hj8 : j < 100 := by omega
    refine G_iload C dX1_lineWithCoin_14 rfl ?_
    refine G_aload_r C dX1_lineWithCoin_16 rfl ?_
    refine G_getI C fo_X1_25 rfl rfl dX1_lineWithCoin_17 ?_
    refine G_icmp_ge C 71 dX1_lineWithCoin_20 (by decide) (fun h20 => ?_) (fun h20 => ?_)
    · exact absurd (n_le hn hN hj (by decide) h20) (by omega)
    · refine G_aload_r C dX1_lineWithCoin_23 rfl ?_
      refine G_getR C fo_X1_9 rfl rfl dX1_lineWithCoin_24 ?_
      refine G_iload C dX1_lineWithCoin_27 rfl ?_
      refine G_ialdN C rfl (by assumption) (by decide) dX1_lineWithCoin_29 ?_
      refine G_iload C dX1_lineWithCoin_30 rfl ?_
      refine G_icmp_ne C 65 dX1_lineWithCoin_32 (by decide) (fun h32 => ?_) (fun h32 => ?_)
      · refine G_iincN C dX1_lineWithCoin_65 (by decide) rfl ?_
        refine G_goto C 14 dX1_lineWithCoin_68 (by decide) ?_
        refine G_sub [(0, _), (1, _), (2, _), (3, _), (4, _), (5, _)] (by repeat (first | refine And.intro rfl ?_ | exact True.intro)) ?_
        exact ih (j + 1) _ (by omega) (fun q a2 hq => h2 q a2 (by simp only [s_inn]; rw [if_neg (by grind)]; exact hq)) (fun a2 hq => h3 a2 (by simp only [s_inn]; rw [if_neg (by grind)]; exact hq))
      · refine G_aload_r C dX1_lineWithCoin_35 rfl ?_
        refine G_iload C dX1_lineWithCoin_36 rfl ?_
        refine G_cVr1 C ok_X1_isPay lk_X1_28 rfl rfl (c_X1_isPay hj8) (Nat.le_of_ble_eq_true rfl) dX1_lineWithCoin_38 ?_
        refine G_if_ne C 47 dX1_lineWithCoin_41 (by decide) (fun h41 => ?_) (fun h41 => ?_)
        · rw [bl_z] at h41
          refine G_iload_n C dX1_lineWithCoin_47 rfl ?_
          refine G_aload_r C dX1_lineWithCoin_48 rfl ?_
          refine G_getR C fo_X1_15 rfl rfl dX1_lineWithCoin_49 ?_
          refine G_iload C dX1_lineWithCoin_52 rfl ?_
          refine G_ialdN C rfl (by assumption) (by decide) dX1_lineWithCoin_54 ?_
          refine G_iadd C dX1_lineWithCoin_55 ?_
          refine G_istore_n C dX1_lineWithCoin_56 (by decide) ?_
          refine G_iload_n C dX1_lineWithCoin_57 rfl ?_
          refine G_iload_n C dX1_lineWithCoin_58 rfl ?_
          refine G_icmp_lt C 65 dX1_lineWithCoin_59 (by decide) (fun h59 => ?_) (fun h59 => ?_)
          · refine G_iincN C dX1_lineWithCoin_65 (by decide) rfl ?_
            refine G_goto C 14 dX1_lineWithCoin_68 (by decide) ?_
            refine G_sub [(0, _), (1, _), (2, _), (3, _), (4, _), (5, _)] (by repeat (first | refine And.intro rfl ?_ | exact True.intro)) ?_
            exact ih (j + 1) _ (by omega) (fun q a2 hq => h2 q a2 (by simp only [s_inn]; rw [if_pos (by grind), if_neg (by grind)]; exact hq)) (fun a2 hq => h3 a2 (by simp only [s_inn]; rw [if_pos (by grind), if_neg (by grind)]; exact hq))
          · refine G_iload C dX1_lineWithCoin_62 rfl ?_
            exact G_retR C dX1_lineWithCoin_64 (by rw [h2 j _ (by simp only [s_inn]; rw [if_pos (by grind), if_pos (by grind)])]; rfl) rfl
        · rw [bl_z] at h41
          refine G_goto C 65 dX1_lineWithCoin_44 (by decide) ?_
          refine G_iincN C dX1_lineWithCoin_65 (by decide) rfl ?_
          refine G_goto C 14 dX1_lineWithCoin_68 (by decide) ?_
          refine G_sub [(0, _), (1, _), (2, _), (3, _), (4, _), (5, _)] (by repeat (first | refine And.intro rfl ?_ | exact True.intro)) ?_
          exact ih (j + 1) _ (by omega) (fun q a2 hq => h2 q a2 (by simp only [s_inn]; rw [if_neg (by grind)]; exact hq)) (fun a2 hq => h3 a2 (by simp only [s_inn]; rw [if_neg (by grind)]; exact hq))
set_option maxHeartbeats 4000000 in
set_option maxRecDepth 100000 in
theorem L2_X1_lineWithCoin {K : Kt} {d : Nat} {M : Mem} {n k : Nat} {coin : Int32} {x : Cx} {o : Option Nat} (hn : M 28 3 = nI n) (hN : n ≤ 100) (hk : k < 120) (C : Cok K x RX1 cX1_lineWithCoin 6 (d + 1) (RI (fun v N => v = ixv o ∧ N = M))) :
    ∀ (t w : Nat) (a : Int32), w + t = k + 1 → o = s_out (M 29) (M 30) (payb (M 28 4) (M 31)) coin n t w a → G K x 6 5 [(0, rf K 28), (1, .int coin), (2, .int (nI k)), (3, .int a), (4, .int (nI w))] [] M := by
  intro t
  induction t with
  | zero =>
    intro w a h1 ho
    refine G_iload C dX1_lineWithCoin_5 rfl ?_
    refine G_iload_n C dX1_lineWithCoin_7 rfl ?_
    refine G_icmp_gt C 77 dX1_lineWithCoin_8 (by decide) (fun h8 => ?_) (fun h8 => ?_)
    · refine G_ldc C kc_X1_32 dX1_lineWithCoin_77 ?_
      exact G_retR C dX1_lineWithCoin_79 (by rw [ho]; rfl) rfl
    · exact absurd (n_leE (N := 200) (by omega) (by omega) (by decide) h8) (by omega)
  | succ t ih =>
    intro w a h1 ho
    refine G_iload C dX1_lineWithCoin_5 rfl ?_
    refine G_iload_n C dX1_lineWithCoin_7 rfl ?_
    refine G_icmp_gt C 77 dX1_lineWithCoin_8 (by decide) (fun h8 => ?_) (fun h8 => ?_)
    · exact absurd (n_gtE (N := 200) (by omega) (by omega) (by decide) h8) (by omega)
    · refine G_iconst C (nI 0) dX1_lineWithCoin_11 (by decide) ?_
      refine G_istore C dX1_lineWithCoin_12 (by decide) ?_
      refine G_sub [(0, _), (1, _), (2, _), (3, _), (4, _), (5, _)] (by repeat (first | refine And.intro rfl ?_ | exact True.intro)) ?_
      refine L1_X1_lineWithCoin hn hN C n 0 a (by omega) (fun q a' hq => ?_) (fun a' hq => ?_)
      · rw [ho]; simp only [s_out]; rw [hq]
      · refine G_iincN C dX1_lineWithCoin_71 (by decide) rfl ?_
        refine G_goto C 5 dX1_lineWithCoin_74 (by decide) ?_
        refine G_sub [(0, _), (1, _), (2, _), (3, _), (4, _)] (by repeat (first | refine And.intro rfl ?_ | exact True.intro)) ?_
        exact ih (w + 1) a' (by omega) (by rw [ho]; simp only [s_out]; rw [hq])
set_option maxHeartbeats 4000000 in
set_option maxRecDepth 100000 in
theorem c_X1_lineWithCoin {K : Kt} {d : Nat} {M : Mem} {n k : Nat} {coin : Int32} (hn : M 28 3 = nI n) (hN : n ≤ 100) (hk : k < 120) : Ri K (d + 1) mX1_lineWithCoin [rf K 28, .int coin, .int (nI k)] M (ixv (s_out (M 29) (M 30) (payb (M 28 4) (M 31)) coin n (k + 1) 0 0)) M := by
  refine Ri_int RX1 [(0, rf K 28), (1, .int coin), (2, .int (nI k))] rfl (by decide) rfl (Nat.le_of_ble_eq_true rfl) rfl (fun x C => ?_)
  refine G_iconst C (0) dX1_lineWithCoin_0 (by decide) ?_
  refine G_istore_n C dX1_lineWithCoin_1 (by decide) ?_
  refine G_iconst C (nI 0) dX1_lineWithCoin_2 (by decide) ?_
  refine G_istore C dX1_lineWithCoin_3 (by decide) ?_
  refine G_sub [(0, _), (1, _), (2, _), (3, _), (4, _)] (by repeat (first | refine And.intro rfl ?_ | exact True.intro)) ?_
  exact L2_X1_lineWithCoin hn hN hk C (k + 1) 0 0 (by omega) rfl
end
