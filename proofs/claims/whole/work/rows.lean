section
-- ===== PART A: goes FIRST, ahead of the names: the tables' words, and 'selects' of the private methods out of them =====
/-- a private method of a class that the tables say can be made, by its rows of tables_1 -/
def lw_okq (q : MethodName × Nat) : Prop := (q.1.cls ≠ "java/lang/invoke/MethodHandle" ∧ q.1.cls ≠ "java/lang/invoke/VarHandle") ∧ Cond.instantiable q.1.cls q.2 ∈ tables_1 ∧ Cond.privateMethod q.1 ∈ tables_1 ∧ Cond.instanceMethod q.1 ∈ tables_1
theorem lw_p0 : lw_okq (⟨"WeighedWords$Day", "takeStep", "(LWeighedWords$Pad;ILWeighedWords$Town;)I"⟩, 6) := ⟨⟨by decide +kernel, by decide +kernel⟩, List.mem_of_getElem? (i := 120) (by decide +kernel), List.mem_of_getElem? (i := 299) (by decide +kernel), List.mem_of_getElem? (i := 300) (by decide +kernel)⟩
theorem lw_p1 : lw_okq (⟨"WeighedWords", "refuseTrip", "(III)I"⟩, 6) := ⟨⟨by decide +kernel, by decide +kernel⟩, List.mem_of_getElem? (i := 12) (by decide +kernel), List.mem_of_getElem? (i := 397) (by decide +kernel), List.mem_of_getElem? (i := 398) (by decide +kernel)⟩
theorem lw_p2 : lw_okq (⟨"WeighedWords", "fewest", "(III)I"⟩, 6) := ⟨⟨by decide +kernel, by decide +kernel⟩, List.mem_of_getElem? (i := 12) (by decide +kernel), List.mem_of_getElem? (i := 401) (by decide +kernel), List.mem_of_getElem? (i := 402) (by decide +kernel)⟩
theorem lw_p3 : lw_okq (⟨"WeighedWords", "weakestBridge", "(III)I"⟩, 6) := ⟨⟨by decide +kernel, by decide +kernel⟩, List.mem_of_getElem? (i := 12) (by decide +kernel), List.mem_of_getElem? (i := 425) (by decide +kernel), List.mem_of_getElem? (i := 426) (by decide +kernel)⟩
theorem lw_p4 : lw_okq (⟨"WeighedWords", "arrivers", "(II)I"⟩, 6) := ⟨⟨by decide +kernel, by decide +kernel⟩, List.mem_of_getElem? (i := 12) (by decide +kernel), List.mem_of_getElem? (i := 481) (by decide +kernel), List.mem_of_getElem? (i := 482) (by decide +kernel)⟩
theorem lw_p5 : lw_okq (⟨"WeighedWords", "feeOf", "(II)I"⟩, 6) := ⟨⟨by decide +kernel, by decide +kernel⟩, List.mem_of_getElem? (i := 12) (by decide +kernel), List.mem_of_getElem? (i := 489) (by decide +kernel), List.mem_of_getElem? (i := 490) (by decide +kernel)⟩
theorem lw_p6 : lw_okq (⟨"WeighedWords", "tellPerson", "(II)I"⟩, 6) := ⟨⟨by decide +kernel, by decide +kernel⟩, List.mem_of_getElem? (i := 12) (by decide +kernel), List.mem_of_getElem? (i := 564) (by decide +kernel), List.mem_of_getElem? (i := 565) (by decide +kernel)⟩
theorem lw_p7 : lw_okq (⟨"WeighedWords", "tellBridge", "(II)I"⟩, 6) := ⟨⟨by decide +kernel, by decide +kernel⟩, List.mem_of_getElem? (i := 12) (by decide +kernel), List.mem_of_getElem? (i := 568) (by decide +kernel), List.mem_of_getElem? (i := 569) (by decide +kernel)⟩
theorem lw_p8 : lw_okq (⟨"WeighedWordsModel", "begin", "(I)V"⟩, 47) := ⟨⟨by decide +kernel, by decide +kernel⟩, List.mem_of_getElem? (i := 572) (by decide +kernel), List.mem_of_getElem? (i := 578) (by decide +kernel), List.mem_of_getElem? (i := 579) (by decide +kernel)⟩
theorem lw_p9 : lw_okq (⟨"WeighedWordsModel", "isTerrace", "(I)Z"⟩, 47) := ⟨⟨by decide +kernel, by decide +kernel⟩, List.mem_of_getElem? (i := 572) (by decide +kernel), List.mem_of_getElem? (i := 739) (by decide +kernel), List.mem_of_getElem? (i := 740) (by decide +kernel)⟩
theorem lw_p10 : lw_okq (⟨"WeighedWordsModel", "isBridge", "(I)Z"⟩, 47) := ⟨⟨by decide +kernel, by decide +kernel⟩, List.mem_of_getElem? (i := 572) (by decide +kernel), List.mem_of_getElem? (i := 751) (by decide +kernel), List.mem_of_getElem? (i := 752) (by decide +kernel)⟩
theorem lw_p11 : lw_okq (⟨"WeighedWordsModel", "isThere", "(I)Z"⟩, 47) := ⟨⟨by decide +kernel, by decide +kernel⟩, List.mem_of_getElem? (i := 572) (by decide +kernel), List.mem_of_getElem? (i := 764) (by decide +kernel), List.mem_of_getElem? (i := 765) (by decide +kernel)⟩
theorem lw_p12 : lw_okq (⟨"WeighedWordsModel", "readFirst", "(I)Z"⟩, 47) := ⟨⟨by decide +kernel, by decide +kernel⟩, List.mem_of_getElem? (i := 572) (by decide +kernel), List.mem_of_getElem? (i := 800) (by decide +kernel), List.mem_of_getElem? (i := 801) (by decide +kernel)⟩
theorem lw_p13 : lw_okq (⟨"WeighedWordsModel", "readSecond", "(I)Z"⟩, 47) := ⟨⟨by decide +kernel, by decide +kernel⟩, List.mem_of_getElem? (i := 572) (by decide +kernel), List.mem_of_getElem? (i := 809) (by decide +kernel), List.mem_of_getElem? (i := 810) (by decide +kernel)⟩
theorem lw_p14 : lw_okq (⟨"WeighedWordsModel", "readNews", "(I)Z"⟩, 47) := ⟨⟨by decide +kernel, by decide +kernel⟩, List.mem_of_getElem? (i := 572) (by decide +kernel), List.mem_of_getElem? (i := 815) (by decide +kernel), List.mem_of_getElem? (i := 816) (by decide +kernel)⟩
theorem lw_p15 : lw_okq (⟨"WeighedWordsModel", "knowers", "(I)I"⟩, 47) := ⟨⟨by decide +kernel, by decide +kernel⟩, List.mem_of_getElem? (i := 572) (by decide +kernel), List.mem_of_getElem? (i := 828) (by decide +kernel), List.mem_of_getElem? (i := 829) (by decide +kernel)⟩
def lw_privs_1 : List (MethodName × Nat) := [(⟨"WeighedWords$Day", "takeStep", "(LWeighedWords$Pad;ILWeighedWords$Town;)I"⟩, 6), (⟨"WeighedWords", "refuseTrip", "(III)I"⟩, 6), (⟨"WeighedWords", "fewest", "(III)I"⟩, 6), (⟨"WeighedWords", "weakestBridge", "(III)I"⟩, 6), (⟨"WeighedWords", "arrivers", "(II)I"⟩, 6), (⟨"WeighedWords", "feeOf", "(II)I"⟩, 6), (⟨"WeighedWords", "tellPerson", "(II)I"⟩, 6), (⟨"WeighedWords", "tellBridge", "(II)I"⟩, 6), (⟨"WeighedWordsModel", "begin", "(I)V"⟩, 47), (⟨"WeighedWordsModel", "isTerrace", "(I)Z"⟩, 47), (⟨"WeighedWordsModel", "isBridge", "(I)Z"⟩, 47), (⟨"WeighedWordsModel", "isThere", "(I)Z"⟩, 47), (⟨"WeighedWordsModel", "readFirst", "(I)Z"⟩, 47), (⟨"WeighedWordsModel", "readSecond", "(I)Z"⟩, 47), (⟨"WeighedWordsModel", "readNews", "(I)Z"⟩, 47), (⟨"WeighedWordsModel", "knowers", "(I)I"⟩, 47)]
theorem lw_r1 : ∀ q ∈ lw_privs_1, lw_okq q := List.forall_mem_cons.mpr ⟨lw_p0, List.forall_mem_cons.mpr ⟨lw_p1, List.forall_mem_cons.mpr ⟨lw_p2, List.forall_mem_cons.mpr ⟨lw_p3, List.forall_mem_cons.mpr ⟨lw_p4, List.forall_mem_cons.mpr ⟨lw_p5, List.forall_mem_cons.mpr ⟨lw_p6, List.forall_mem_cons.mpr ⟨lw_p7, List.forall_mem_cons.mpr ⟨lw_p8, List.forall_mem_cons.mpr ⟨lw_p9, List.forall_mem_cons.mpr ⟨lw_p10, List.forall_mem_cons.mpr ⟨lw_p11, List.forall_mem_cons.mpr ⟨lw_p12, List.forall_mem_cons.mpr ⟨lw_p13, List.forall_mem_cons.mpr ⟨lw_p14, List.forall_mem_cons.mpr ⟨lw_p15, fun _ h => absurd h List.not_mem_nil⟩⟩⟩⟩⟩⟩⟩⟩⟩⟩⟩⟩⟩⟩⟩⟩
theorem lw_p16 : lw_okq (⟨"WeighedWordsModel", "heavyBy", "(III)I"⟩, 47) := ⟨⟨by decide +kernel, by decide +kernel⟩, List.mem_of_getElem? (i := 572) (by decide +kernel), List.mem_of_getElem? (i := 832) (by decide +kernel), List.mem_of_getElem? (i := 833) (by decide +kernel)⟩
theorem lw_p17 : lw_okq (⟨"WeighedWordsModel", "carriedBy", "(I)I"⟩, 47) := ⟨⟨by decide +kernel, by decide +kernel⟩, List.mem_of_getElem? (i := 572) (by decide +kernel), List.mem_of_getElem? (i := 840) (by decide +kernel), List.mem_of_getElem? (i := 841) (by decide +kernel)⟩
theorem lw_p18 : lw_okq (⟨"WeighedWordsModel", "sumOf", "(II)I"⟩, 47) := ⟨⟨by decide +kernel, by decide +kernel⟩, List.mem_of_getElem? (i := 572) (by decide +kernel), List.mem_of_getElem? (i := 844) (by decide +kernel), List.mem_of_getElem? (i := 845) (by decide +kernel)⟩
theorem lw_p19 : lw_okq (⟨"WeighedWordsModel", "keepNow", "()V"⟩, 47) := ⟨⟨by decide +kernel, by decide +kernel⟩, List.mem_of_getElem? (i := 572) (by decide +kernel), List.mem_of_getElem? (i := 858) (by decide +kernel), List.mem_of_getElem? (i := 859) (by decide +kernel)⟩
theorem lw_p20 : lw_okq (⟨"WeighedWordsModel", "goDay", "()V"⟩, 47) := ⟨⟨by decide +kernel, by decide +kernel⟩, List.mem_of_getElem? (i := 572) (by decide +kernel), List.mem_of_getElem? (i := 862) (by decide +kernel), List.mem_of_getElem? (i := 863) (by decide +kernel)⟩
theorem lw_p21 : lw_okq (⟨"WeighedWordsModel", "happen", "(I)I"⟩, 47) := ⟨⟨by decide +kernel, by decide +kernel⟩, List.mem_of_getElem? (i := 572) (by decide +kernel), List.mem_of_getElem? (i := 866) (by decide +kernel), List.mem_of_getElem? (i := 867) (by decide +kernel)⟩
theorem lw_p22 : lw_okq (⟨"WeighedWordsModel", "tell", "(III)I"⟩, 47) := ⟨⟨by decide +kernel, by decide +kernel⟩, List.mem_of_getElem? (i := 572) (by decide +kernel), List.mem_of_getElem? (i := 870) (by decide +kernel), List.mem_of_getElem? (i := 871) (by decide +kernel)⟩
theorem lw_p23 : lw_okq (⟨"WeighedWordsModel", "cross", "(II)I"⟩, 47) := ⟨⟨by decide +kernel, by decide +kernel⟩, List.mem_of_getElem? (i := 572) (by decide +kernel), List.mem_of_getElem? (i := 874) (by decide +kernel), List.mem_of_getElem? (i := 875) (by decide +kernel)⟩
theorem lw_p24 : lw_okq (⟨"WeighedWordsModel", "publish", "(I)I"⟩, 47) := ⟨⟨by decide +kernel, by decide +kernel⟩, List.mem_of_getElem? (i := 572) (by decide +kernel), List.mem_of_getElem? (i := 878) (by decide +kernel), List.mem_of_getElem? (i := 879) (by decide +kernel)⟩
theorem lw_p25 : lw_okq (⟨"WeighedWordsModel", "passNight", "()V"⟩, 47) := ⟨⟨by decide +kernel, by decide +kernel⟩, List.mem_of_getElem? (i := 572) (by decide +kernel), List.mem_of_getElem? (i := 882) (by decide +kernel), List.mem_of_getElem? (i := 883) (by decide +kernel)⟩
theorem lw_p26 : lw_okq (⟨"WeighedWordsModel", "putBack", "()V"⟩, 47) := ⟨⟨by decide +kernel, by decide +kernel⟩, List.mem_of_getElem? (i := 572) (by decide +kernel), List.mem_of_getElem? (i := 886) (by decide +kernel), List.mem_of_getElem? (i := 887) (by decide +kernel)⟩
theorem lw_p27 : lw_okq (⟨"WeighedWordsModel", "isAsked", "(II)Z"⟩, 47) := ⟨⟨by decide +kernel, by decide +kernel⟩, List.mem_of_getElem? (i := 572) (by decide +kernel), List.mem_of_getElem? (i := 902) (by decide +kernel), List.mem_of_getElem? (i := 903) (by decide +kernel)⟩
theorem lw_p28 : lw_okq (⟨"WeighedWordsModel", "bearing", "(I)I"⟩, 47) := ⟨⟨by decide +kernel, by decide +kernel⟩, List.mem_of_getElem? (i := 572) (by decide +kernel), List.mem_of_getElem? (i := 906) (by decide +kernel), List.mem_of_getElem? (i := 907) (by decide +kernel)⟩
theorem lw_p29 : lw_okq (⟨"WeighedWordsModel", "findFar", "(II)V"⟩, 47) := ⟨⟨by decide +kernel, by decide +kernel⟩, List.mem_of_getElem? (i := 572) (by decide +kernel), List.mem_of_getElem? (i := 910) (by decide +kernel), List.mem_of_getElem? (i := 911) (by decide +kernel)⟩
theorem lw_p30 : lw_okq (⟨"WeighedWordsModel", "leadsOn", "(III)Z"⟩, 47) := ⟨⟨by decide +kernel, by decide +kernel⟩, List.mem_of_getElem? (i := 572) (by decide +kernel), List.mem_of_getElem? (i := 914) (by decide +kernel), List.mem_of_getElem? (i := 915) (by decide +kernel)⟩
theorem lw_p31 : lw_okq (⟨"WeighedWordsModel", "hasWay", "(III)Z"⟩, 47) := ⟨⟨by decide +kernel, by decide +kernel⟩, List.mem_of_getElem? (i := 572) (by decide +kernel), List.mem_of_getElem? (i := 925) (by decide +kernel), List.mem_of_getElem? (i := 926) (by decide +kernel)⟩
def lw_privs_2 : List (MethodName × Nat) := [(⟨"WeighedWordsModel", "heavyBy", "(III)I"⟩, 47), (⟨"WeighedWordsModel", "carriedBy", "(I)I"⟩, 47), (⟨"WeighedWordsModel", "sumOf", "(II)I"⟩, 47), (⟨"WeighedWordsModel", "keepNow", "()V"⟩, 47), (⟨"WeighedWordsModel", "goDay", "()V"⟩, 47), (⟨"WeighedWordsModel", "happen", "(I)I"⟩, 47), (⟨"WeighedWordsModel", "tell", "(III)I"⟩, 47), (⟨"WeighedWordsModel", "cross", "(II)I"⟩, 47), (⟨"WeighedWordsModel", "publish", "(I)I"⟩, 47), (⟨"WeighedWordsModel", "passNight", "()V"⟩, 47), (⟨"WeighedWordsModel", "putBack", "()V"⟩, 47), (⟨"WeighedWordsModel", "isAsked", "(II)Z"⟩, 47), (⟨"WeighedWordsModel", "bearing", "(I)I"⟩, 47), (⟨"WeighedWordsModel", "findFar", "(II)V"⟩, 47), (⟨"WeighedWordsModel", "leadsOn", "(III)Z"⟩, 47), (⟨"WeighedWordsModel", "hasWay", "(III)Z"⟩, 47)]
theorem lw_r2 : ∀ q ∈ lw_privs_2, lw_okq q := List.forall_mem_cons.mpr ⟨lw_p16, List.forall_mem_cons.mpr ⟨lw_p17, List.forall_mem_cons.mpr ⟨lw_p18, List.forall_mem_cons.mpr ⟨lw_p19, List.forall_mem_cons.mpr ⟨lw_p20, List.forall_mem_cons.mpr ⟨lw_p21, List.forall_mem_cons.mpr ⟨lw_p22, List.forall_mem_cons.mpr ⟨lw_p23, List.forall_mem_cons.mpr ⟨lw_p24, List.forall_mem_cons.mpr ⟨lw_p25, List.forall_mem_cons.mpr ⟨lw_p26, List.forall_mem_cons.mpr ⟨lw_p27, List.forall_mem_cons.mpr ⟨lw_p28, List.forall_mem_cons.mpr ⟨lw_p29, List.forall_mem_cons.mpr ⟨lw_p30, List.forall_mem_cons.mpr ⟨lw_p31, fun _ h => absurd h List.not_mem_nil⟩⟩⟩⟩⟩⟩⟩⟩⟩⟩⟩⟩⟩⟩⟩⟩
theorem lw_p32 : lw_okq (⟨"WeighedWordsModel", "farBy", "(III)I"⟩, 47) := ⟨⟨by decide +kernel, by decide +kernel⟩, List.mem_of_getElem? (i := 572) (by decide +kernel), List.mem_of_getElem? (i := 929) (by decide +kernel), List.mem_of_getElem? (i := 930) (by decide +kernel)⟩
theorem lw_p33 : lw_okq (⟨"WeighedWordsModel", "offerSet", "(IZ)V"⟩, 47) := ⟨⟨by decide +kernel, by decide +kernel⟩, List.mem_of_getElem? (i := 572) (by decide +kernel), List.mem_of_getElem? (i := 933) (by decide +kernel), List.mem_of_getElem? (i := 934) (by decide +kernel)⟩
theorem lw_p34 : lw_okq (⟨"WeighedWordsModel", "tellSet", "(I)I"⟩, 47) := ⟨⟨by decide +kernel, by decide +kernel⟩, List.mem_of_getElem? (i := 572) (by decide +kernel), List.mem_of_getElem? (i := 937) (by decide +kernel), List.mem_of_getElem? (i := 938) (by decide +kernel)⟩
theorem lw_p35 : lw_okq (⟨"WeighedWordsModel", "lies", "(I)I"⟩, 47) := ⟨⟨by decide +kernel, by decide +kernel⟩, List.mem_of_getElem? (i := 572) (by decide +kernel), List.mem_of_getElem? (i := 949) (by decide +kernel), List.mem_of_getElem? (i := 950) (by decide +kernel)⟩
theorem lw_p36 : lw_okq (⟨"WeighedWordsModel", "floatedBy", "(II)I"⟩, 47) := ⟨⟨by decide +kernel, by decide +kernel⟩, List.mem_of_getElem? (i := 572) (by decide +kernel), List.mem_of_getElem? (i := 953) (by decide +kernel), List.mem_of_getElem? (i := 954) (by decide +kernel)⟩
theorem lw_p37 : lw_okq (⟨"WeighedWordsModel", "knowersOf", "(I)I"⟩, 47) := ⟨⟨by decide +kernel, by decide +kernel⟩, List.mem_of_getElem? (i := 572) (by decide +kernel), List.mem_of_getElem? (i := 966) (by decide +kernel), List.mem_of_getElem? (i := 967) (by decide +kernel)⟩
theorem lw_p38 : lw_okq (⟨"WeighedWordsModel", "reachedBy", "(I)I"⟩, 47) := ⟨⟨by decide +kernel, by decide +kernel⟩, List.mem_of_getElem? (i := 572) (by decide +kernel), List.mem_of_getElem? (i := 970) (by decide +kernel), List.mem_of_getElem? (i := 971) (by decide +kernel)⟩
theorem lw_p39 : lw_okq (⟨"WeighedWordsModel", "layErrands", "(II)Z"⟩, 47) := ⟨⟨by decide +kernel, by decide +kernel⟩, List.mem_of_getElem? (i := 572) (by decide +kernel), List.mem_of_getElem? (i := 979) (by decide +kernel), List.mem_of_getElem? (i := 980) (by decide +kernel)⟩
theorem lw_p40 : lw_okq (⟨"WeighedWordsModel", "layRow", "(I)Z"⟩, 47) := ⟨⟨by decide +kernel, by decide +kernel⟩, List.mem_of_getElem? (i := 572) (by decide +kernel), List.mem_of_getElem? (i := 986) (by decide +kernel), List.mem_of_getElem? (i := 987) (by decide +kernel)⟩
theorem lw_p41 : lw_okq (⟨"WeighedWordsModel", "canAll", "()Z"⟩, 47) := ⟨⟨by decide +kernel, by decide +kernel⟩, List.mem_of_getElem? (i := 572) (by decide +kernel), List.mem_of_getElem? (i := 990) (by decide +kernel), List.mem_of_getElem? (i := 991) (by decide +kernel)⟩
theorem lw_p42 : lw_okq (⟨"WeighedWordsModel", "goesErrand", "(II)Z"⟩, 47) := ⟨⟨by decide +kernel, by decide +kernel⟩, List.mem_of_getElem? (i := 572) (by decide +kernel), List.mem_of_getElem? (i := 994) (by decide +kernel), List.mem_of_getElem? (i := 995) (by decide +kernel)⟩
theorem lw_p43 : lw_okq (⟨"WeighedWordsModel", "canBear", "(III)Z"⟩, 47) := ⟨⟨by decide +kernel, by decide +kernel⟩, List.mem_of_getElem? (i := 572) (by decide +kernel), List.mem_of_getElem? (i := 1005) (by decide +kernel), List.mem_of_getElem? (i := 1006) (by decide +kernel)⟩
theorem lw_p44 : lw_okq (⟨"WeighedWordsModel", "feeOf", "(II)I"⟩, 47) := ⟨⟨by decide +kernel, by decide +kernel⟩, List.mem_of_getElem? (i := 572) (by decide +kernel), List.mem_of_getElem? (i := 1013) (by decide +kernel), List.mem_of_getElem? (i := 1014) (by decide +kernel)⟩
theorem lw_p45 : lw_okq (⟨"WeighedWordsModel", "whoBent", "(I)I"⟩, 47) := ⟨⟨by decide +kernel, by decide +kernel⟩, List.mem_of_getElem? (i := 572) (by decide +kernel), List.mem_of_getElem? (i := 1034) (by decide +kernel), List.mem_of_getElem? (i := 1035) (by decide +kernel)⟩
theorem lw_p46 : lw_okq (⟨"WeighedWordsModel", "fits", "(I)Z"⟩, 47) := ⟨⟨by decide +kernel, by decide +kernel⟩, List.mem_of_getElem? (i := 572) (by decide +kernel), List.mem_of_getElem? (i := 1042) (by decide +kernel), List.mem_of_getElem? (i := 1043) (by decide +kernel)⟩
theorem lw_p47 : lw_okq (⟨"WeighedWordsModel", "passAll", "()V"⟩, 47) := ⟨⟨by decide +kernel, by decide +kernel⟩, List.mem_of_getElem? (i := 572) (by decide +kernel), List.mem_of_getElem? (i := 1068) (by decide +kernel), List.mem_of_getElem? (i := 1069) (by decide +kernel)⟩
def lw_privs_3 : List (MethodName × Nat) := [(⟨"WeighedWordsModel", "farBy", "(III)I"⟩, 47), (⟨"WeighedWordsModel", "offerSet", "(IZ)V"⟩, 47), (⟨"WeighedWordsModel", "tellSet", "(I)I"⟩, 47), (⟨"WeighedWordsModel", "lies", "(I)I"⟩, 47), (⟨"WeighedWordsModel", "floatedBy", "(II)I"⟩, 47), (⟨"WeighedWordsModel", "knowersOf", "(I)I"⟩, 47), (⟨"WeighedWordsModel", "reachedBy", "(I)I"⟩, 47), (⟨"WeighedWordsModel", "layErrands", "(II)Z"⟩, 47), (⟨"WeighedWordsModel", "layRow", "(I)Z"⟩, 47), (⟨"WeighedWordsModel", "canAll", "()Z"⟩, 47), (⟨"WeighedWordsModel", "goesErrand", "(II)Z"⟩, 47), (⟨"WeighedWordsModel", "canBear", "(III)Z"⟩, 47), (⟨"WeighedWordsModel", "feeOf", "(II)I"⟩, 47), (⟨"WeighedWordsModel", "whoBent", "(I)I"⟩, 47), (⟨"WeighedWordsModel", "fits", "(I)Z"⟩, 47), (⟨"WeighedWordsModel", "passAll", "()V"⟩, 47)]
theorem lw_r3 : ∀ q ∈ lw_privs_3, lw_okq q := List.forall_mem_cons.mpr ⟨lw_p32, List.forall_mem_cons.mpr ⟨lw_p33, List.forall_mem_cons.mpr ⟨lw_p34, List.forall_mem_cons.mpr ⟨lw_p35, List.forall_mem_cons.mpr ⟨lw_p36, List.forall_mem_cons.mpr ⟨lw_p37, List.forall_mem_cons.mpr ⟨lw_p38, List.forall_mem_cons.mpr ⟨lw_p39, List.forall_mem_cons.mpr ⟨lw_p40, List.forall_mem_cons.mpr ⟨lw_p41, List.forall_mem_cons.mpr ⟨lw_p42, List.forall_mem_cons.mpr ⟨lw_p43, List.forall_mem_cons.mpr ⟨lw_p44, List.forall_mem_cons.mpr ⟨lw_p45, List.forall_mem_cons.mpr ⟨lw_p46, List.forall_mem_cons.mpr ⟨lw_p47, fun _ h => absurd h List.not_mem_nil⟩⟩⟩⟩⟩⟩⟩⟩⟩⟩⟩⟩⟩⟩⟩⟩
theorem lw_p48 : lw_okq (⟨"WeighedWordsModel", "pass", "(I)I"⟩, 47) := ⟨⟨by decide +kernel, by decide +kernel⟩, List.mem_of_getElem? (i := 572) (by decide +kernel), List.mem_of_getElem? (i := 1072) (by decide +kernel), List.mem_of_getElem? (i := 1073) (by decide +kernel)⟩
theorem lw_p49 : lw_okq (⟨"WeighedWordsModel", "toldOfPerson", "(II)I"⟩, 47) := ⟨⟨by decide +kernel, by decide +kernel⟩, List.mem_of_getElem? (i := 572) (by decide +kernel), List.mem_of_getElem? (i := 1086) (by decide +kernel), List.mem_of_getElem? (i := 1087) (by decide +kernel)⟩
theorem lw_p50 : lw_okq (⟨"WeighedWordsModel", "toldOfBridge", "(II)I"⟩, 47) := ⟨⟨by decide +kernel, by decide +kernel⟩, List.mem_of_getElem? (i := 572) (by decide +kernel), List.mem_of_getElem? (i := 1092) (by decide +kernel), List.mem_of_getElem? (i := 1093) (by decide +kernel)⟩
def lw_privs_4 : List (MethodName × Nat) := [(⟨"WeighedWordsModel", "pass", "(I)I"⟩, 47), (⟨"WeighedWordsModel", "toldOfPerson", "(II)I"⟩, 47), (⟨"WeighedWordsModel", "toldOfBridge", "(II)I"⟩, 47)]
theorem lw_r4 : ∀ q ∈ lw_privs_4, lw_okq q := List.forall_mem_cons.mpr ⟨lw_p48, List.forall_mem_cons.mpr ⟨lw_p49, List.forall_mem_cons.mpr ⟨lw_p50, fun _ h => absurd h List.not_mem_nil⟩⟩⟩
def lw_privs : List (MethodName × Nat) := lw_privs_1 ++ (lw_privs_2 ++ (lw_privs_3 ++ (lw_privs_4)))
def lw_tbl : List Cond := k2_sels lw_privs ++ tables_1
theorem lw_privs_ok : ∀ q ∈ lw_privs, lw_okq q := by
  show ∀ q ∈ lw_privs_1 ++ (lw_privs_2 ++ (lw_privs_3 ++ (lw_privs_4))), lw_okq q
  exact List.forall_mem_append.mpr ⟨lw_r1, List.forall_mem_append.mpr ⟨lw_r2, List.forall_mem_append.mpr ⟨lw_r3, lw_r4⟩⟩⟩
end
section
def RX0 : String := "WeighedWords$Day"
def TX0 : u_T := fun k => match k with
  | 0 => ("WeighedWords$Day", "refusal", "I", false)
  | 1 => ("WeighedWords$Day", "reason", "I", false)
  | 2 => ("WeighedWords$Day", "steps", "I", false)
  | 3 => ("WeighedWords$Day", "tellings", "I", false)
  | 4 => ("WeighedWords$Day", "crossings", "I", false)
  | _ => ("WeighedWords$Day", "nights", "I", false)
def tyX0 : Nat → FieldType := fun k => match k with
  | 0 => .int
  | 1 => .int
  | 2 => .int
  | 3 => .int
  | 4 => .int
  | _ => .int
abbrev wsX00 : List Cond := u_ws RX0 TX0 6
theorem nmX0 : ∀ a, a < 6 → ∀ b, b < 6 → a ≠ b → (TX0 a).2.1 ≠ (TX0 b).2.1 := by decide +kernel
theorem tyX0_ok : ∀ k, k < 6 → parseFieldDescriptor (TX0 k).2.2.1 = some (tyX0 k) := by decide +kernel
abbrev cX0_init : ByteArray := prog_2_method_1_code
def yX0_init : MethodName := ⟨RX0, "<init>", "()V"⟩
abbrev cX0_live : ByteArray := prog_2_method_2_code
def yX0_live : MethodName := ⟨RX0, "live", "(LWeighedWords$Pad;LWeighedWords$Town;LWeighedWords$Town;)V"⟩
abbrev cX0_takeStep : ByteArray := prog_2_method_3_code
def yX0_takeStep : MethodName := ⟨RX0, "takeStep", "(LWeighedWords$Pad;ILWeighedWords$Town;)I"⟩
def RX1 : String := "WeighedWords$Orders"
def TX1 : u_T := fun k => match k with
  | 0 => ("WeighedWords$Orders", "order", "[I", true)
  | 1 => ("WeighedWords$Orders", "goals", "[I", true)
  | _ => ("WeighedWords$Orders", "knownBefore", "[I", true)
def tyX1 : Nat → FieldType := fun k => match k with
  | 0 => .array .int
  | 1 => .array .int
  | _ => .array .int
abbrev wsX10 : List Cond := u_ws RX1 TX1 3
theorem nmX1 : ∀ a, a < 3 → ∀ b, b < 3 → a ≠ b → (TX1 a).2.1 ≠ (TX1 b).2.1 := by decide +kernel
theorem tyX1_ok : ∀ k, k < 3 → parseFieldDescriptor (TX1 k).2.2.1 = some (tyX1 k) := by decide +kernel
abbrev cX1_init : ByteArray := prog_3_method_1_code
def yX1_init : MethodName := ⟨RX1, "<init>", "()V"⟩
abbrev cX1_readGoals : ByteArray := prog_3_method_2_code
def yX1_readGoals : MethodName := ⟨RX1, "readGoals", "(III)Z"⟩
def RX2 : String := "WeighedWords$Pad"
def TX2 : u_T := fun k => match k with
  | 0 => ("WeighedWords$Pad", "signs", "[I", true)
  | _ => ("WeighedWords$Pad", "count", "I", false)
def tyX2 : Nat → FieldType := fun k => match k with
  | 0 => .array .int
  | _ => .int
abbrev wsX20 : List Cond := u_ws RX2 TX2 2
theorem nmX2 : ∀ a, a < 2 → ∀ b, b < 2 → a ≠ b → (TX2 a).2.1 ≠ (TX2 b).2.1 := by decide +kernel
theorem tyX2_ok : ∀ k, k < 2 → parseFieldDescriptor (TX2 k).2.2.1 = some (tyX2 k) := by decide +kernel
abbrev cX2_init : ByteArray := prog_4_method_1_code
def yX2_init : MethodName := ⟨RX2, "<init>", "()V"⟩
abbrev cX2_signAt : ByteArray := prog_4_method_2_code
def yX2_signAt : MethodName := ⟨RX2, "signAt", "(I)I"⟩
abbrev cX2_faultPlace : ByteArray := prog_4_method_3_code
def yX2_faultPlace : MethodName := ⟨RX2, "faultPlace", "()I"⟩
abbrev cX2_readOn : ByteArray := prog_4_method_4_code
def yX2_readOn : MethodName := ⟨RX2, "readOn", "(II)I"⟩
abbrev cX2_isPersonSign : ByteArray := prog_4_method_5_code
def yX2_isPersonSign : MethodName := ⟨RX2, "isPersonSign", "(I)Z"⟩
def RX3 : String := "WeighedWords$Town"
def TX3 : u_T := fun k => match k with
  | 0 => ("WeighedWords$Town", "size", "I", false)
  | 1 => ("WeighedWords$Town", "bridges", "I", false)
  | 2 => ("WeighedWords$Town", "lesserEnds", "[I", true)
  | 3 => ("WeighedWords$Town", "greaterEnds", "[I", true)
  | 4 => ("WeighedWords$Town", "loads", "[I", true)
  | 5 => ("WeighedWords$Town", "bends", "[I", true)
  | 6 => ("WeighedWords$Town", "people", "I", false)
  | 7 => ("WeighedWords$Town", "places", "[I", true)
  | 8 => ("WeighedWords$Town", "kins", "[I", true)
  | 9 => ("WeighedWords$Town", "known", "[I", true)
  | 10 => ("WeighedWords$Town", "weights", "[I", true)
  | 11 => ("WeighedWords$Town", "abouts", "[I", true)
  | 12 => ("WeighedWords$Town", "published", "I", false)
  | 13 => ("WeighedWords$Town", "fading", "I", false)
  | 14 => ("WeighedWords$Town", "sights", "I", false)
  | 15 => ("WeighedWords$Town", "sightBridges", "[I", true)
  | _ => ("WeighedWords$Town", "sightBends", "[I", true)
def tyX3 : Nat → FieldType := fun k => match k with
  | 0 => .int
  | 1 => .int
  | 2 => .array .int
  | 3 => .array .int
  | 4 => .array .int
  | 5 => .array .int
  | 6 => .int
  | 7 => .array .int
  | 8 => .array .int
  | 9 => .array .int
  | 10 => .array .int
  | 11 => .array .int
  | 12 => .int
  | 13 => .int
  | 14 => .int
  | 15 => .array .int
  | _ => .array .int
abbrev wsX30 : List Cond := u_ws RX3 TX3 17
theorem nmX3 : ∀ a, a < 17 → ∀ b, b < 17 → a ≠ b → (TX3 a).2.1 ≠ (TX3 b).2.1 := by decide +kernel
theorem tyX3_ok : ∀ k, k < 17 → parseFieldDescriptor (TX3 k).2.2.1 = some (tyX3 k) := by decide +kernel
abbrev cX3_init : ByteArray := prog_5_method_1_code
def yX3_init : MethodName := ⟨RX3, "<init>", "()V"⟩
abbrev cX3_settle : ByteArray := prog_5_method_2_code
def yX3_settle : MethodName := ⟨RX3, "settle", "(I)V"⟩
abbrev cX3_copy : ByteArray := prog_5_method_3_code
def yX3_copy : MethodName := ⟨RX3, "copy", "(LWeighedWords$Town;)V"⟩
abbrev cX3_hasTerrace : ByteArray := prog_5_method_4_code
def yX3_hasTerrace : MethodName := ⟨RX3, "hasTerrace", "(I)Z"⟩
abbrev cX3_hasBridge : ByteArray := prog_5_method_5_code
def yX3_hasBridge : MethodName := ⟨RX3, "hasBridge", "(I)Z"⟩
abbrev cX3_hasPerson : ByteArray := prog_5_method_6_code
def yX3_hasPerson : MethodName := ⟨RX3, "hasPerson", "(I)Z"⟩
abbrev cX3_knowersOf : ByteArray := prog_5_method_7_code
def yX3_knowersOf : MethodName := ⟨RX3, "knowersOf", "(I)I"⟩
abbrev cX3_weightFor : ByteArray := prog_5_method_8_code
def yX3_weightFor : MethodName := ⟨RX3, "weightFor", "(II)I"⟩
abbrev cX3_sum : ByteArray := prog_5_method_9_code
def yX3_sum : MethodName := ⟨RX3, "sum", "(II)I"⟩
abbrev cX3_burden : ByteArray := prog_5_method_10_code
def yX3_burden : MethodName := ⟨RX3, "burden", "(I)I"⟩
abbrev cX3_mostBurden : ByteArray := prog_5_method_11_code
def yX3_mostBurden : MethodName := ⟨RX3, "mostBurden", "()I"⟩
abbrev cX3_mostKnowers : ByteArray := prog_5_method_12_code
def yX3_mostKnowers : MethodName := ⟨RX3, "mostKnowers", "()I"⟩
abbrev cX3_lies : ByteArray := prog_5_method_13_code
def yX3_lies : MethodName := ⟨RX3, "lies", "()I"⟩
abbrev cX3_carriersOf : ByteArray := prog_5_method_14_code
def yX3_carriersOf : MethodName := ⟨RX3, "carriersOf", "(I)I"⟩
abbrev cX3_likeSightsBefore : ByteArray := prog_5_method_15_code
def yX3_likeSightsBefore : MethodName := ⟨RX3, "likeSightsBefore", "(I)I"⟩
abbrev cX3_bearing : ByteArray := prog_5_method_16_code
def yX3_bearing : MethodName := ⟨RX3, "bearing", "(I)I"⟩
abbrev cX3_spread : ByteArray := prog_5_method_17_code
def yX3_spread : MethodName := ⟨RX3, "spread", "(II)I"⟩
abbrev cX3_distance : ByteArray := prog_5_method_18_code
def yX3_distance : MethodName := ⟨RX3, "distance", "(III)I"⟩
abbrev cX3_hasWay : ByteArray := prog_5_method_19_code
def yX3_hasWay : MethodName := ⟨RX3, "hasWay", "(II)Z"⟩
abbrev cX3_otherEnd : ByteArray := prog_5_method_20_code
def yX3_otherEnd : MethodName := ⟨RX3, "otherEnd", "(II)I"⟩
abbrev cX3_isAtEnd : ByteArray := prog_5_method_21_code
def yX3_isAtEnd : MethodName := ⟨RX3, "isAtEnd", "(II)Z"⟩
abbrev cX3_bridgeOfWay : ByteArray := prog_5_method_22_code
def yX3_bridgeOfWay : MethodName := ⟨RX3, "bridgeOfWay", "(IIII)I"⟩
abbrev cX3_nextBridge : ByteArray := prog_5_method_23_code
def yX3_nextBridge : MethodName := ⟨RX3, "nextBridge", "(III)I"⟩
abbrev cX3_tellIfItCanBe : ByteArray := prog_5_method_24_code
def yX3_tellIfItCanBe : MethodName := ⟨RX3, "tellIfItCanBe", "(III)I"⟩
abbrev cX3_crossIfItCanBe : ByteArray := prog_5_method_25_code
def yX3_crossIfItCanBe : MethodName := ⟨RX3, "crossIfItCanBe", "(II)I"⟩
abbrev cX3_publishIfItCanBe : ByteArray := prog_5_method_26_code
def yX3_publishIfItCanBe : MethodName := ⟨RX3, "publishIfItCanBe", "(I)I"⟩
abbrev cX3_passNight : ByteArray := prog_5_method_27_code
def yX3_passNight : MethodName := ⟨RX3, "passNight", "()V"⟩
abbrev cX3_hearers : ByteArray := prog_5_method_28_code
def yX3_hearers : MethodName := ⟨RX3, "hearers", "(I)I"⟩
abbrev cX3_neighbours : ByteArray := prog_5_method_29_code
def yX3_neighbours : MethodName := ⟨RX3, "neighbours", "(II)I"⟩
abbrev cX3_tellAll : ByteArray := prog_5_method_30_code
def yX3_tellAll : MethodName := ⟨RX3, "tellAll", "(II)V"⟩
abbrev cX3_arrive : ByteArray := prog_5_method_31_code
def yX3_arrive : MethodName := ⟨RX3, "arrive", "(II)V"⟩
def RX4 : String := "WeighedWords"
def TX4 : u_T := fun k => match k with
  | 0 => ("WeighedWords", "now", "LWeighedWords$Town;", true)
  | 1 => ("WeighedWords", "trial", "LWeighedWords$Town;", true)
  | 2 => ("WeighedWords", "images", "[LWeighedWords$Town;", true)
  | 3 => ("WeighedWords", "pad", "LWeighedWords$Pad;", true)
  | 4 => ("WeighedWords", "day", "LWeighedWords$Day;", true)
  | _ => ("WeighedWords", "orders", "LWeighedWords$Orders;", true)
def tyX4 : Nat → FieldType := fun k => match k with
  | 0 => .object "WeighedWords$Town"
  | 1 => .object "WeighedWords$Town"
  | 2 => .array (.object "WeighedWords$Town")
  | 3 => .object "WeighedWords$Pad"
  | 4 => .object "WeighedWords$Day"
  | _ => .object "WeighedWords$Orders"
abbrev wsX40 : List Cond := u_ws RX4 TX4 6
theorem nmX4 : ∀ a, a < 6 → ∀ b, b < 6 → a ≠ b → (TX4 a).2.1 ≠ (TX4 b).2.1 := by decide +kernel
theorem tyX4_ok : ∀ k, k < 6 → parseFieldDescriptor (TX4 k).2.2.1 = some (tyX4 k) := by decide +kernel
abbrev cX4_init : ByteArray := prog_1_method_1_code
def yX4_init : MethodName := ⟨RX4, "<init>", "()V"⟩
abbrev cX4_terraces : ByteArray := prog_1_method_2_code
def yX4_terraces : MethodName := ⟨RX4, "terraces", "(I)I"⟩
abbrev cX4_bridge : ByteArray := prog_1_method_3_code
def yX4_bridge : MethodName := ⟨RX4, "bridge", "(IIII)I"⟩
abbrev cX4_fall : ByteArray := prog_1_method_4_code
def yX4_fall : MethodName := ⟨RX4, "fall", "(I)I"⟩
abbrev cX4_person : ByteArray := prog_1_method_5_code
def yX4_person : MethodName := ⟨RX4, "person", "(III)I"⟩
abbrev cX4_leave : ByteArray := prog_1_method_6_code
def yX4_leave : MethodName := ⟨RX4, "leave", "(I)I"⟩
abbrev cX4_news : ByteArray := prog_1_method_7_code
def yX4_news : MethodName := ⟨RX4, "news", "(III)I"⟩
abbrev cX4_learn : ByteArray := prog_1_method_8_code
def yX4_learn : MethodName := ⟨RX4, "learn", "(IIZ)I"⟩
abbrev cX4_fade : ByteArray := prog_1_method_9_code
def yX4_fade : MethodName := ⟨RX4, "fade", "(I)I"⟩
abbrev cX4_say : ByteArray := prog_1_method_10_code
def yX4_say : MethodName := ⟨RX4, "say", "(I)I"⟩
abbrev cX4_wipe : ByteArray := prog_1_method_11_code
def yX4_wipe : MethodName := ⟨RX4, "wipe", "()I"⟩
abbrev cX4_fault : ByteArray := prog_1_method_12_code
def yX4_fault : MethodName := ⟨RX4, "fault", "()I"⟩
abbrev cX4_judge : ByteArray := prog_1_method_13_code
def yX4_judge : MethodName := ⟨RX4, "judge", "(I)I"⟩
abbrev cX4_behind : ByteArray := prog_1_method_14_code
def yX4_behind : MethodName := ⟨RX4, "behind", "(II)I"⟩
abbrev cX4_done : ByteArray := prog_1_method_15_code
def yX4_done : MethodName := ⟨RX4, "done", "()I"⟩
abbrev cX4_heavy : ByteArray := prog_1_method_16_code
def yX4_heavy : MethodName := ⟨RX4, "heavy", "(II)I"⟩
abbrev cX4_carries : ByteArray := prog_1_method_17_code
def yX4_carries : MethodName := ⟨RX4, "carries", "(I)I"⟩
abbrev cX4_bent : ByteArray := prog_1_method_18_code
def yX4_bent : MethodName := ⟨RX4, "bent", "(I)I"⟩
abbrev cX4_way : ByteArray := prog_1_method_19_code
def yX4_way : MethodName := ⟨RX4, "way", "(III)I"⟩
abbrev cX4_left : ByteArray := prog_1_method_20_code
def yX4_left : MethodName := ⟨RX4, "left", "(III)I"⟩
abbrev cX4_cried : ByteArray := prog_1_method_21_code
def yX4_cried : MethodName := ⟨RX4, "cried", "(III)I"⟩
abbrev cX4_floated : ByteArray := prog_1_method_22_code
def yX4_floated : MethodName := ⟨RX4, "floated", "(III)I"⟩
abbrev cX4_mended : ByteArray := prog_1_method_23_code
def yX4_mended : MethodName := ⟨RX4, "mended", "(III)I"⟩
abbrev cX4_rumour : ByteArray := prog_1_method_24_code
def yX4_rumour : MethodName := ⟨RX4, "rumour", "(I)I"⟩
abbrev cX4_errands : ByteArray := prog_1_method_25_code
def yX4_errands : MethodName := ⟨RX4, "errands", "(III)I"⟩
abbrev cX4_two : ByteArray := prog_1_method_26_code
def yX4_two : MethodName := ⟨RX4, "two", "(III)I"⟩
abbrev cX4_fee : ByteArray := prog_1_method_27_code
def yX4_fee : MethodName := ⟨RX4, "fee", "(II)I"⟩
abbrev cX4_fees : ByteArray := prog_1_method_28_code
def yX4_fees : MethodName := ⟨RX4, "fees", "(II)I"⟩
abbrev cX4_seen : ByteArray := prog_1_method_29_code
def yX4_seen : MethodName := ⟨RX4, "seen", "(II)I"⟩
abbrev cX4_forget : ByteArray := prog_1_method_30_code
def yX4_forget : MethodName := ⟨RX4, "forget", "()I"⟩
abbrev cX4_who : ByteArray := prog_1_method_31_code
def yX4_who : MethodName := ⟨RX4, "who", "(I)I"⟩
abbrev cX4_fit : ByteArray := prog_1_method_32_code
def yX4_fit : MethodName := ⟨RX4, "fit", "()I"⟩
abbrev cX4_chance : ByteArray := prog_1_method_33_code
def yX4_chance : MethodName := ⟨RX4, "chance", "(IIII)J"⟩
abbrev cX4_year : ByteArray := prog_1_method_34_code
def yX4_year : MethodName := ⟨RX4, "year", "(III)I"⟩
abbrev cX4_image : ByteArray := prog_1_method_35_code
def yX4_image : MethodName := ⟨RX4, "image", "(I)I"⟩
abbrev cX4_restore : ByteArray := prog_1_method_36_code
def yX4_restore : MethodName := ⟨RX4, "restore", "(I)I"⟩
abbrev cX4_told : ByteArray := prog_1_method_37_code
def yX4_told : MethodName := ⟨RX4, "told", "(I)I"⟩
abbrev cX4_within : ByteArray := prog_1_method_38_code
def yX4_within : MethodName := ⟨RX4, "within", "(III)Z"⟩
abbrev cX4_has : ByteArray := prog_1_method_39_code
def yX4_has : MethodName := ⟨RX4, "has", "(II)Z"⟩
abbrev cX4_isNews : ByteArray := prog_1_method_40_code
def yX4_isNews : MethodName := ⟨RX4, "isNews", "(I)Z"⟩
abbrev cX4_refuseTrip : ByteArray := prog_1_method_41_code
def yX4_refuseTrip : MethodName := ⟨RX4, "refuseTrip", "(III)I"⟩
abbrev cX4_countOrBits : ByteArray := prog_1_method_42_code
def yX4_countOrBits : MethodName := ⟨RX4, "countOrBits", "(II)I"⟩
abbrev cX4_fewest : ByteArray := prog_1_method_43_code
def yX4_fewest : MethodName := ⟨RX4, "fewest", "(III)I"⟩
abbrev cX4_weakestBridge : ByteArray := prog_1_method_44_code
def yX4_weakestBridge : MethodName := ⟨RX4, "weakestBridge", "(III)I"⟩
abbrev cX4_arrivers : ByteArray := prog_1_method_45_code
def yX4_arrivers : MethodName := ⟨RX4, "arrivers", "(II)I"⟩
abbrev cX4_feeOf : ByteArray := prog_1_method_46_code
def yX4_feeOf : MethodName := ⟨RX4, "feeOf", "(II)I"⟩
abbrev cX4_tellBridge : ByteArray := prog_1_method_47_code
def yX4_tellBridge : MethodName := ⟨RX4, "tellBridge", "(II)I"⟩
abbrev cX4_tellPerson : ByteArray := prog_1_method_48_code
def yX4_tellPerson : MethodName := ⟨RX4, "tellPerson", "(II)I"⟩
abbrev cX4_power : ByteArray := prog_1_method_49_code
def yX4_power : MethodName := ⟨RX4, "power", "(II)J"⟩
abbrev cX4_commonDivisor : ByteArray := prog_1_method_50_code
def yX4_commonDivisor : MethodName := ⟨RX4, "commonDivisor", "(JJ)J"⟩
abbrev cX4_findOrder : ByteArray := prog_1_method_51_code
def yX4_findOrder : MethodName := ⟨RX4, "findOrder", "(LWeighedWords$Orders;LWeighedWords$Town;II)Z"⟩
def RX5 : String := "WeighedWordsModel"
def TX5 : u_T := fun k => match k with
  | 0 => ("WeighedWordsModel", "terraces", "I", false)
  | 1 => ("WeighedWordsModel", "bridges", "I", false)
  | 2 => ("WeighedWordsModel", "people", "I", false)
  | 3 => ("WeighedWordsModel", "published", "I", false)
  | 4 => ("WeighedWordsModel", "lesser", "[I", true)
  | 5 => ("WeighedWordsModel", "greater", "[I", true)
  | 6 => ("WeighedWordsModel", "load", "[I", true)
  | 7 => ("WeighedWordsModel", "bent", "[I", true)
  | 8 => ("WeighedWordsModel", "place", "[I", true)
  | 9 => ("WeighedWordsModel", "kin", "[I", true)
  | 10 => ("WeighedWordsModel", "knows", "[I", true)
  | 11 => ("WeighedWordsModel", "weight", "[I", true)
  | 12 => ("WeighedWordsModel", "about", "[I", true)
  | 13 => ("WeighedWordsModel", "fade", "I", false)
  | 14 => ("WeighedWordsModel", "sightBridge", "[I", true)
  | 15 => ("WeighedWordsModel", "sightOf", "[I", true)
  | 16 => ("WeighedWordsModel", "sights", "I", false)
  | 17 => ("WeighedWordsModel", "pad", "[I", true)
  | 18 => ("WeighedWordsModel", "padMany", "I", false)
  | 19 => ("WeighedWordsModel", "sort", "[I", true)
  | 20 => ("WeighedWordsModel", "who", "[I", true)
  | 21 => ("WeighedWordsModel", "whom", "[I", true)
  | 22 => ("WeighedWordsModel", "which", "[I", true)
  | 23 => ("WeighedWordsModel", "steps", "I", false)
  | 24 => ("WeighedWordsModel", "due", "I", false)
  | 25 => ("WeighedWordsModel", "badStep", "I", false)
  | 26 => ("WeighedWordsModel", "badWhy", "I", false)
  | 27 => ("WeighedWordsModel", "tellings", "I", false)
  | 28 => ("WeighedWordsModel", "crossings", "I", false)
  | 29 => ("WeighedWordsModel", "nights", "I", false)
  | 30 => ("WeighedWordsModel", "hadPlace", "[I", true)
  | 31 => ("WeighedWordsModel", "hadKnows", "[I", true)
  | 32 => ("WeighedWordsModel", "hadWeight", "[I", true)
  | 33 => ("WeighedWordsModel", "hadBent", "[I", true)
  | 34 => ("WeighedWordsModel", "hadPublished", "I", false)
  | 35 => ("WeighedWordsModel", "far", "[I", true)
  | 36 => ("WeighedWordsModel", "bestSet", "I", false)
  | 37 => ("WeighedWordsModel", "errandOf", "[I", true)
  | 38 => ("WeighedWordsModel", "goalOf", "[I", true)
  | 39 => ("WeighedWordsModel", "errands", "I", false)
  | 40 => ("WeighedWordsModel", "row", "[I", true)
  | 41 => ("WeighedWordsModel", "given", "[I", true)
  | 42 => ("WeighedWordsModel", "mayBe", "[I", true)
  | 43 => ("WeighedWordsModel", "kept", "[I", true)
  | 44 => ("WeighedWordsModel", "isKept", "[Z", true)
  | 45 => ("WeighedWordsModel", "keptAt", "I", false)
  | _ => ("WeighedWordsModel", "isWriting", "Z", false)
def tyX5 : Nat → FieldType := fun k => match k with
  | 0 => .int
  | 1 => .int
  | 2 => .int
  | 3 => .int
  | 4 => .array .int
  | 5 => .array .int
  | 6 => .array .int
  | 7 => .array .int
  | 8 => .array .int
  | 9 => .array .int
  | 10 => .array .int
  | 11 => .array .int
  | 12 => .array .int
  | 13 => .int
  | 14 => .array .int
  | 15 => .array .int
  | 16 => .int
  | 17 => .array .int
  | 18 => .int
  | 19 => .array .int
  | 20 => .array .int
  | 21 => .array .int
  | 22 => .array .int
  | 23 => .int
  | 24 => .int
  | 25 => .int
  | 26 => .int
  | 27 => .int
  | 28 => .int
  | 29 => .int
  | 30 => .array .int
  | 31 => .array .int
  | 32 => .array .int
  | 33 => .array .int
  | 34 => .int
  | 35 => .array .int
  | 36 => .int
  | 37 => .array .int
  | 38 => .array .int
  | 39 => .int
  | 40 => .array .int
  | 41 => .array .int
  | 42 => .array .int
  | 43 => .array .int
  | 44 => .array .boolean
  | 45 => .int
  | _ => .boolean
abbrev wsX50 : List Cond := u_ws RX5 TX5 47
theorem nmX5 : ∀ a, a < 47 → ∀ b, b < 47 → a ≠ b → (TX5 a).2.1 ≠ (TX5 b).2.1 := by decide +kernel
theorem tyX5_ok : ∀ k, k < 47 → parseFieldDescriptor (TX5 k).2.2.1 = some (tyX5 k) := by decide +kernel
abbrev cX5_init : ByteArray := prog_7_method_1_code
def yX5_init : MethodName := ⟨RX5, "<init>", "()V"⟩
abbrev cX5_in : ByteArray := prog_7_method_3_code
def yX5_in : MethodName := ⟨RX5, "in", "(JJJ)Z"⟩
abbrev cX5_ones : ByteArray := prog_7_method_4_code
def yX5_ones : MethodName := ⟨RX5, "ones", "(I)I"⟩
abbrev cX5_begin : ByteArray := prog_7_method_5_code
def yX5_begin : MethodName := ⟨RX5, "begin", "(I)V"⟩
abbrev cX5_isTerrace : ByteArray := prog_7_method_6_code
def yX5_isTerrace : MethodName := ⟨RX5, "isTerrace", "(I)Z"⟩
abbrev cX5_isBridge : ByteArray := prog_7_method_7_code
def yX5_isBridge : MethodName := ⟨RX5, "isBridge", "(I)Z"⟩
abbrev cX5_isThere : ByteArray := prog_7_method_8_code
def yX5_isThere : MethodName := ⟨RX5, "isThere", "(I)Z"⟩
abbrev cX5_isNews : ByteArray := prog_7_method_9_code
def yX5_isNews : MethodName := ⟨RX5, "isNews", "(I)Z"⟩
abbrev cX5_terraces : ByteArray := prog_7_method_10_code
def yX5_terraces : MethodName := ⟨RX5, "terraces", "(I)I"⟩
abbrev cX5_bridge : ByteArray := prog_7_method_11_code
def yX5_bridge : MethodName := ⟨RX5, "bridge", "(IIII)I"⟩
abbrev cX5_fall : ByteArray := prog_7_method_12_code
def yX5_fall : MethodName := ⟨RX5, "fall", "(I)I"⟩
abbrev cX5_person : ByteArray := prog_7_method_13_code
def yX5_person : MethodName := ⟨RX5, "person", "(III)I"⟩
abbrev cX5_leave : ByteArray := prog_7_method_14_code
def yX5_leave : MethodName := ⟨RX5, "leave", "(I)I"⟩
abbrev cX5_news : ByteArray := prog_7_method_15_code
def yX5_news : MethodName := ⟨RX5, "news", "(III)I"⟩
abbrev cX5_learn : ByteArray := prog_7_method_16_code
def yX5_learn : MethodName := ⟨RX5, "learn", "(IIZ)I"⟩
abbrev cX5_fade : ByteArray := prog_7_method_17_code
def yX5_fade : MethodName := ⟨RX5, "fade", "(I)I"⟩
abbrev cX5_say : ByteArray := prog_7_method_18_code
def yX5_say : MethodName := ⟨RX5, "say", "(I)I"⟩
abbrev cX5_wipe : ByteArray := prog_7_method_19_code
def yX5_wipe : MethodName := ⟨RX5, "wipe", "()I"⟩
abbrev cX5_isName : ByteArray := prog_7_method_20_code
def yX5_isName : MethodName := ⟨RX5, "isName", "(I)Z"⟩
abbrev cX5_isLetter : ByteArray := prog_7_method_21_code
def yX5_isLetter : MethodName := ⟨RX5, "isLetter", "(I)Z"⟩
abbrev cX5_readFirst : ByteArray := prog_7_method_22_code
def yX5_readFirst : MethodName := ⟨RX5, "readFirst", "(I)Z"⟩
abbrev cX5_readSecond : ByteArray := prog_7_method_23_code
def yX5_readSecond : MethodName := ⟨RX5, "readSecond", "(I)Z"⟩
abbrev cX5_readNews : ByteArray := prog_7_method_24_code
def yX5_readNews : MethodName := ⟨RX5, "readNews", "(I)Z"⟩
abbrev cX5_fault : ByteArray := prog_7_method_25_code
def yX5_fault : MethodName := ⟨RX5, "fault", "()I"⟩
abbrev cX5_knowers : ByteArray := prog_7_method_26_code
def yX5_knowers : MethodName := ⟨RX5, "knowers", "(I)I"⟩
abbrev cX5_heavyBy : ByteArray := prog_7_method_27_code
def yX5_heavyBy : MethodName := ⟨RX5, "heavyBy", "(III)I"⟩
abbrev cX5_sumOf : ByteArray := prog_7_method_28_code
def yX5_sumOf : MethodName := ⟨RX5, "sumOf", "(II)I"⟩
abbrev cX5_carriedBy : ByteArray := prog_7_method_29_code
def yX5_carriedBy : MethodName := ⟨RX5, "carriedBy", "(I)I"⟩
abbrev cX5_passNight : ByteArray := prog_7_method_30_code
def yX5_passNight : MethodName := ⟨RX5, "passNight", "()V"⟩
abbrev cX5_heavy : ByteArray := prog_7_method_31_code
def yX5_heavy : MethodName := ⟨RX5, "heavy", "(II)I"⟩
abbrev cX5_carries : ByteArray := prog_7_method_32_code
def yX5_carries : MethodName := ⟨RX5, "carries", "(I)I"⟩
abbrev cX5_bent : ByteArray := prog_7_method_33_code
def yX5_bent : MethodName := ⟨RX5, "bent", "(I)I"⟩
abbrev cX5_tell : ByteArray := prog_7_method_34_code
def yX5_tell : MethodName := ⟨RX5, "tell", "(III)I"⟩
abbrev cX5_cross : ByteArray := prog_7_method_35_code
def yX5_cross : MethodName := ⟨RX5, "cross", "(II)I"⟩
abbrev cX5_publish : ByteArray := prog_7_method_36_code
def yX5_publish : MethodName := ⟨RX5, "publish", "(I)I"⟩
abbrev cX5_happen : ByteArray := prog_7_method_37_code
def yX5_happen : MethodName := ⟨RX5, "happen", "(I)I"⟩
abbrev cX5_keepNow : ByteArray := prog_7_method_38_code
def yX5_keepNow : MethodName := ⟨RX5, "keepNow", "()V"⟩
abbrev cX5_putBack : ByteArray := prog_7_method_39_code
def yX5_putBack : MethodName := ⟨RX5, "putBack", "()V"⟩
abbrev cX5_goDay : ByteArray := prog_7_method_40_code
def yX5_goDay : MethodName := ⟨RX5, "goDay", "()V"⟩
abbrev cX5_judge : ByteArray := prog_7_method_41_code
def yX5_judge : MethodName := ⟨RX5, "judge", "(I)I"⟩
abbrev cX5_behind : ByteArray := prog_7_method_42_code
def yX5_behind : MethodName := ⟨RX5, "behind", "(II)I"⟩
abbrev cX5_done : ByteArray := prog_7_method_43_code
def yX5_done : MethodName := ⟨RX5, "done", "()I"⟩
abbrev cX5_bearing : ByteArray := prog_7_method_44_code
def yX5_bearing : MethodName := ⟨RX5, "bearing", "(I)I"⟩
abbrev cX5_findFar : ByteArray := prog_7_method_45_code
def yX5_findFar : MethodName := ⟨RX5, "findFar", "(II)V"⟩
abbrev cX5_farBy : ByteArray := prog_7_method_46_code
def yX5_farBy : MethodName := ⟨RX5, "farBy", "(III)I"⟩
abbrev cX5_hasWay : ByteArray := prog_7_method_47_code
def yX5_hasWay : MethodName := ⟨RX5, "hasWay", "(III)Z"⟩
abbrev cX5_isAsked : ByteArray := prog_7_method_48_code
def yX5_isAsked : MethodName := ⟨RX5, "isAsked", "(II)Z"⟩
abbrev cX5_way : ByteArray := prog_7_method_49_code
def yX5_way : MethodName := ⟨RX5, "way", "(III)I"⟩
abbrev cX5_leadsOn : ByteArray := prog_7_method_50_code
def yX5_leadsOn : MethodName := ⟨RX5, "leadsOn", "(III)Z"⟩
abbrev cX5_offerSet : ByteArray := prog_7_method_51_code
def yX5_offerSet : MethodName := ⟨RX5, "offerSet", "(IZ)V"⟩
abbrev cX5_tellSet : ByteArray := prog_7_method_52_code
def yX5_tellSet : MethodName := ⟨RX5, "tellSet", "(I)I"⟩
abbrev cX5_least0 : ByteArray := prog_7_method_53_code
def yX5_least0 : MethodName := ⟨RX5, "least0", "(I)I"⟩
abbrev cX5_left : ByteArray := prog_7_method_54_code
def yX5_left : MethodName := ⟨RX5, "left", "(III)I"⟩
abbrev cX5_cried : ByteArray := prog_7_method_55_code
def yX5_cried : MethodName := ⟨RX5, "cried", "(III)I"⟩
abbrev cX5_lies : ByteArray := prog_7_method_56_code
def yX5_lies : MethodName := ⟨RX5, "lies", "(I)I"⟩
abbrev cX5_floatedBy : ByteArray := prog_7_method_57_code
def yX5_floatedBy : MethodName := ⟨RX5, "floatedBy", "(II)I"⟩
abbrev cX5_floated : ByteArray := prog_7_method_58_code
def yX5_floated : MethodName := ⟨RX5, "floated", "(III)I"⟩
abbrev cX5_mended : ByteArray := prog_7_method_59_code
def yX5_mended : MethodName := ⟨RX5, "mended", "(III)I"⟩
abbrev cX5_reachedBy : ByteArray := prog_7_method_60_code
def yX5_reachedBy : MethodName := ⟨RX5, "reachedBy", "(I)I"⟩
abbrev cX5_knowersOf : ByteArray := prog_7_method_61_code
def yX5_knowersOf : MethodName := ⟨RX5, "knowersOf", "(I)I"⟩
abbrev cX5_rumour : ByteArray := prog_7_method_62_code
def yX5_rumour : MethodName := ⟨RX5, "rumour", "(I)I"⟩
abbrev cX5_tens : ByteArray := prog_7_method_63_code
def yX5_tens : MethodName := ⟨RX5, "tens", "(I)I"⟩
abbrev cX5_layErrands : ByteArray := prog_7_method_64_code
def yX5_layErrands : MethodName := ⟨RX5, "layErrands", "(II)Z"⟩
abbrev cX5_goesErrand : ByteArray := prog_7_method_65_code
def yX5_goesErrand : MethodName := ⟨RX5, "goesErrand", "(II)Z"⟩
abbrev cX5_layRow : ByteArray := prog_7_method_66_code
def yX5_layRow : MethodName := ⟨RX5, "layRow", "(I)Z"⟩
abbrev cX5_canAll : ByteArray := prog_7_method_67_code
def yX5_canAll : MethodName := ⟨RX5, "canAll", "()Z"⟩
abbrev cX5_errands : ByteArray := prog_7_method_68_code
def yX5_errands : MethodName := ⟨RX5, "errands", "(III)I"⟩
abbrev cX5_half : ByteArray := prog_7_method_69_code
def yX5_half : MethodName := ⟨RX5, "half", "(I)I"⟩
abbrev cX5_canBear : ByteArray := prog_7_method_70_code
def yX5_canBear : MethodName := ⟨RX5, "canBear", "(III)Z"⟩
abbrev cX5_two : ByteArray := prog_7_method_71_code
def yX5_two : MethodName := ⟨RX5, "two", "(III)I"⟩
abbrev cX5_feeOf : ByteArray := prog_7_method_72_code
def yX5_feeOf : MethodName := ⟨RX5, "feeOf", "(II)I"⟩
abbrev cX5_fee : ByteArray := prog_7_method_73_code
def yX5_fee : MethodName := ⟨RX5, "fee", "(II)I"⟩
abbrev cX5_fees : ByteArray := prog_7_method_74_code
def yX5_fees : MethodName := ⟨RX5, "fees", "(II)I"⟩
abbrev cX5_seen : ByteArray := prog_7_method_75_code
def yX5_seen : MethodName := ⟨RX5, "seen", "(II)I"⟩
abbrev cX5_forget : ByteArray := prog_7_method_76_code
def yX5_forget : MethodName := ⟨RX5, "forget", "()I"⟩
abbrev cX5_whoBent : ByteArray := prog_7_method_77_code
def yX5_whoBent : MethodName := ⟨RX5, "whoBent", "(I)I"⟩
abbrev cX5_who : ByteArray := prog_7_method_78_code
def yX5_who : MethodName := ⟨RX5, "who", "(I)I"⟩
abbrev cX5_fits : ByteArray := prog_7_method_79_code
def yX5_fits : MethodName := ⟨RX5, "fits", "(I)Z"⟩
abbrev cX5_fit : ByteArray := prog_7_method_80_code
def yX5_fit : MethodName := ⟨RX5, "fit", "()I"⟩
abbrev cX5_lowest : ByteArray := prog_7_method_81_code
def yX5_lowest : MethodName := ⟨RX5, "lowest", "(JJI)J"⟩
abbrev cX5_chance : ByteArray := prog_7_method_82_code
def yX5_chance : MethodName := ⟨RX5, "chance", "(IIII)J"⟩
abbrev cX5_year : ByteArray := prog_7_method_83_code
def yX5_year : MethodName := ⟨RX5, "year", "(III)I"⟩
abbrev cX5_pass : ByteArray := prog_7_method_84_code
def yX5_pass : MethodName := ⟨RX5, "pass", "(I)I"⟩
abbrev cX5_passAll : ByteArray := prog_7_method_85_code
def yX5_passAll : MethodName := ⟨RX5, "passAll", "()V"⟩
abbrev cX5_image : ByteArray := prog_7_method_86_code
def yX5_image : MethodName := ⟨RX5, "image", "(I)I"⟩
abbrev cX5_restore : ByteArray := prog_7_method_87_code
def yX5_restore : MethodName := ⟨RX5, "restore", "(I)I"⟩
abbrev cX5_toldOfBridge : ByteArray := prog_7_method_88_code
def yX5_toldOfBridge : MethodName := ⟨RX5, "toldOfBridge", "(II)I"⟩
abbrev cX5_toldOfPerson : ByteArray := prog_7_method_89_code
def yX5_toldOfPerson : MethodName := ⟨RX5, "toldOfPerson", "(II)I"⟩
abbrev cX5_told : ByteArray := prog_7_method_90_code
def yX5_told : MethodName := ⟨RX5, "told", "(I)I"⟩
def RJ6 : String := "java/lang/Integer"
def TJ6 : u_T := fun k => match k with
  | _ => ("", "", "", false)
def tyJ6 : Nat → FieldType := fun k => match k with
  | _ => .int
abbrev wsJ60 : List Cond := u_ws RJ6 TJ6 0
theorem nmJ6 : ∀ a, a < 0 → ∀ b, b < 0 → a ≠ b → (TJ6 a).2.1 ≠ (TJ6 b).2.1 := by decide +kernel
theorem tyJ6_ok : ∀ k, k < 0 → parseFieldDescriptor (TJ6 k).2.2.1 = some (tyJ6 k) := by decide +kernel
abbrev cJ6_bitCount_0f7a4 : ByteArray := prog_8_method_49_code
def yJ6_bitCount_0f7a4 : MethodName := ⟨RJ6, "bitCount", "(I)I"⟩
def RJ9 : String := "java/lang/Math"
def TJ9 : u_T := fun k => match k with
  | _ => ("", "", "", false)
def tyJ9 : Nat → FieldType := fun k => match k with
  | _ => .int
abbrev wsJ90 : List Cond := u_ws RJ9 TJ9 0
theorem nmJ9 : ∀ a, a < 0 → ∀ b, b < 0 → a ≠ b → (TJ9 a).2.1 ≠ (TJ9 b).2.1 := by decide +kernel
theorem tyJ9_ok : ∀ k, k < 0 → parseFieldDescriptor (TJ9 k).2.2.1 = some (tyJ9 k) := by decide +kernel
abbrev cJ9_floorDiv_7cf53 : ByteArray := prog_9_method_47_code
def yJ9_floorDiv_7cf53 : MethodName := ⟨RJ9, "floorDiv", "(II)I"⟩
abbrev cJ9_max_7cf53 : ByteArray := prog_9_method_65_code
def yJ9_max_7cf53 : MethodName := ⟨RJ9, "max", "(II)I"⟩
abbrev cJ9_max_f86c9 : ByteArray := prog_9_method_66_code
def yJ9_max_f86c9 : MethodName := ⟨RJ9, "max", "(JJ)J"⟩
abbrev cJ9_min_7cf53 : ByteArray := prog_9_method_69_code
def yJ9_min_7cf53 : MethodName := ⟨RJ9, "min", "(II)I"⟩
def RJ10 : String := "java/lang/System"
def TJ10 : u_T := fun k => match k with
  | _ => ("", "", "", false)
def tyJ10 : Nat → FieldType := fun k => match k with
  | _ => .int
abbrev wsJ100 : List Cond := u_ws RJ10 TJ10 0
theorem nmJ10 : ∀ a, a < 0 → ∀ b, b < 0 → a ≠ b → (TJ10 a).2.1 ≠ (TJ10 b).2.1 := by decide +kernel
theorem tyJ10_ok : ∀ k, k < 0 → parseFieldDescriptor (TJ10 k).2.2.1 = some (tyJ10 k) := by decide +kernel
def RJ7 : String := "java/util/Arrays"
def TJ7 : u_T := fun k => match k with
  | _ => ("", "", "", false)
def tyJ7 : Nat → FieldType := fun k => match k with
  | _ => .int
abbrev wsJ70 : List Cond := u_ws RJ7 TJ7 0
theorem nmJ7 : ∀ a, a < 0 → ∀ b, b < 0 → a ≠ b → (TJ7 a).2.1 ≠ (TJ7 b).2.1 := by decide +kernel
theorem tyJ7_ok : ∀ k, k < 0 → parseFieldDescriptor (TJ7 k).2.2.1 = some (tyJ7 k) := by decide +kernel
abbrev cJ7_fill_53178 : ByteArray := prog_11_method_103_code
def yJ7_fill_53178 : MethodName := ⟨RJ7, "fill", "([II)V"⟩
def RL : String := "WeighedWordsLaw"
abbrev cL_law : ByteArray := code
def yL_law : MethodName := ⟨RL, "law", "([I)Z"⟩
abbrev vwCl : List vw_C := [(RX0, TX0, 6), (RX1, TX1, 3), (RX2, TX2, 2), (RX3, TX3, 17), (RX4, TX4, 6), (RX5, TX5, 47)]
/-- the good words of the tables -/
def tb : List Cond := lw_tbl.filter goodWord
theorem tb_m {w : Cond} (i : Nat) (h : lw_tbl[i]? = some w) (hg : goodWord w = true) : w ∈ tb := List.mem_filter.mpr ⟨List.mem_of_getElem? h, hg⟩
theorem tb_all {w : Cond} (h : w ∈ tb) : w ∈ lw_tbl ∧ goodWord w = true := List.mem_filter.mp h
/-- a link of a field: its class, its slot -/
def kF (own : String) (idx : Nat) (C : String) (T : u_T) (k : Nat) : Prop := Cond.fieldLink own idx C (T k).2.1 (T k).2.2.1 ∈ tb
/-- a class of the worlds -/
def kC (ci : Nat) (C : String) (T : u_T) (N : Nat) : Prop := vwCl[ci]? = some (C, T, N) ∧ (∀ w ∈ u_ws C T N, w ∈ tb) ∧ (∀ k, k < N → (T k).1 = C)
def kT (T : u_T) (N : Nat) (ty : Nat → FieldType) : Prop := (∀ k, k < N → parseFieldDescriptor (T k).2.2.1 = some (ty k)) ∧ (∀ a, a < N → ∀ b, b < N → a ≠ b → (T a).2.1 ≠ (T b).2.1)
/-- a link of a method; a method's code, class and count; an instance method; a static one -/
def kM (own : String) (idx : Nat) (y : MethodName) : Prop := Cond.methodLink own idx y ∈ tb
def kY (y : MethodName) (cc : ByteArray) (nL : Nat) (rt : Option FieldType) (n : Nat) : Prop := Cond.code y cc nL rt ∈ tb ∧ Cond.initialized y.cls ∈ tb ∧ (y.cls ≠ "java/lang/invoke/MethodHandle" ∧ y.cls ≠ "java/lang/invoke/VarHandle" ∧ (parseMethodDescriptor y.desc).map (fun d => d.parameters.length) = some n) ∧ plainFor y = true
def kI (y : MethodName) : Prop := Cond.instanceMethod y ∈ tb ∧ Cond.selects y.cls y y ∈ tb
def kN (y : MethodName) : Prop := Cond.instanceMethod y ∈ tb ∧ y.name = "<init>"
def kS (y : MethodName) : Prop := Cond.static y ∈ tb
theorem kl_X0 : ∀ w ∈ u_ws RX0 TX0 6, w ∈ tb := by
  intro w hw
  have h : (u_ws RX0 TX0 6).all (fun w => decide (w ∈ lw_tbl) && goodWord w) = true := by decide +kernel
  have h1 := List.all_eq_true.mp h w hw
  simp only [Bool.and_eq_true, decide_eq_true_eq] at h1
  exact List.mem_filter.mpr h1
theorem kC_X0 : kC 0 RX0 TX0 6 := ⟨rfl, kl_X0, by decide +kernel⟩
theorem kT_X0 : kT TX0 6 tyX0 := ⟨tyX0_ok, nmX0⟩
theorem kl_X1 : ∀ w ∈ u_ws RX1 TX1 3, w ∈ tb := by
  intro w hw
  have h : (u_ws RX1 TX1 3).all (fun w => decide (w ∈ lw_tbl) && goodWord w) = true := by decide +kernel
  have h1 := List.all_eq_true.mp h w hw
  simp only [Bool.and_eq_true, decide_eq_true_eq] at h1
  exact List.mem_filter.mpr h1
theorem kC_X1 : kC 1 RX1 TX1 3 := ⟨rfl, kl_X1, by decide +kernel⟩
theorem kT_X1 : kT TX1 3 tyX1 := ⟨tyX1_ok, nmX1⟩
theorem kl_X2 : ∀ w ∈ u_ws RX2 TX2 2, w ∈ tb := by
  intro w hw
  have h : (u_ws RX2 TX2 2).all (fun w => decide (w ∈ lw_tbl) && goodWord w) = true := by decide +kernel
  have h1 := List.all_eq_true.mp h w hw
  simp only [Bool.and_eq_true, decide_eq_true_eq] at h1
  exact List.mem_filter.mpr h1
theorem kC_X2 : kC 2 RX2 TX2 2 := ⟨rfl, kl_X2, by decide +kernel⟩
theorem kT_X2 : kT TX2 2 tyX2 := ⟨tyX2_ok, nmX2⟩
theorem kl_X3 : ∀ w ∈ u_ws RX3 TX3 17, w ∈ tb := by
  intro w hw
  have h : (u_ws RX3 TX3 17).all (fun w => decide (w ∈ lw_tbl) && goodWord w) = true := by decide +kernel
  have h1 := List.all_eq_true.mp h w hw
  simp only [Bool.and_eq_true, decide_eq_true_eq] at h1
  exact List.mem_filter.mpr h1
theorem kC_X3 : kC 3 RX3 TX3 17 := ⟨rfl, kl_X3, by decide +kernel⟩
theorem kT_X3 : kT TX3 17 tyX3 := ⟨tyX3_ok, nmX3⟩
theorem kl_X4 : ∀ w ∈ u_ws RX4 TX4 6, w ∈ tb := by
  intro w hw
  have h : (u_ws RX4 TX4 6).all (fun w => decide (w ∈ lw_tbl) && goodWord w) = true := by decide +kernel
  have h1 := List.all_eq_true.mp h w hw
  simp only [Bool.and_eq_true, decide_eq_true_eq] at h1
  exact List.mem_filter.mpr h1
theorem kC_X4 : kC 4 RX4 TX4 6 := ⟨rfl, kl_X4, by decide +kernel⟩
theorem kT_X4 : kT TX4 6 tyX4 := ⟨tyX4_ok, nmX4⟩
theorem kl_X5 : ∀ w ∈ u_ws RX5 TX5 47, w ∈ tb := by
  intro w hw
  have h : (u_ws RX5 TX5 47).all (fun w => decide (w ∈ lw_tbl) && goodWord w) = true := by decide +kernel
  have h1 := List.all_eq_true.mp h w hw
  simp only [Bool.and_eq_true, decide_eq_true_eq] at h1
  exact List.mem_filter.mpr h1
theorem kC_X5 : kC 5 RX5 TX5 47 := ⟨rfl, kl_X5, by decide +kernel⟩
theorem kT_X5 : kT TX5 47 tyX5 := ⟨tyX5_ok, nmX5⟩
theorem km_L_9 : kM RL 9 yX4_init := tb_m 64 (by decide +kernel) (by decide +kernel)
theorem km_X4_9 : kM RX4 9 yX3_init := tb_m 72 (by decide +kernel) (by decide +kernel)
theorem km_X3_49 : kM RX3 49 yX3_settle := tb_m 76 (by decide +kernel) (by decide +kernel)
theorem km_X3_68 : kM RX3 68 yJ7_fill_53178 := tb_m 80 (by decide +kernel) (by decide +kernel)
theorem kf_X3_53 : kF RX3 53 RX3 TX3 0 := tb_m 83 (by decide +kernel) (by decide +kernel)
theorem kf_X4_48 : kF RX4 48 RX3 TX3 0 := tb_m 84 (by decide +kernel) (by decide +kernel)
theorem kf_X3_56 : kF RX3 56 RX3 TX3 1 := tb_m 85 (by decide +kernel) (by decide +kernel)
theorem kf_X4_60 : kF RX4 60 RX3 TX3 1 := tb_m 86 (by decide +kernel) (by decide +kernel)
theorem kf_X3_9 : kF RX3 9 RX3 TX3 2 := tb_m 87 (by decide +kernel) (by decide +kernel)
theorem kf_X4_63 : kF RX4 63 RX3 TX3 2 := tb_m 88 (by decide +kernel) (by decide +kernel)
theorem kf_X3_15 : kF RX3 15 RX3 TX3 3 := tb_m 89 (by decide +kernel) (by decide +kernel)
theorem kf_X4_73 : kF RX4 73 RX3 TX3 3 := tb_m 90 (by decide +kernel) (by decide +kernel)
theorem kf_X3_18 : kF RX3 18 RX3 TX3 4 := tb_m 91 (by decide +kernel) (by decide +kernel)
theorem kf_X4_79 : kF RX4 79 RX3 TX3 4 := tb_m 92 (by decide +kernel) (by decide +kernel)
theorem kf_X3_21 : kF RX3 21 RX3 TX3 5 := tb_m 93 (by decide +kernel) (by decide +kernel)
theorem kf_X4_82 : kF RX4 82 RX3 TX3 5 := tb_m 94 (by decide +kernel) (by decide +kernel)
theorem kf_X3_59 : kF RX3 59 RX3 TX3 6 := tb_m 95 (by decide +kernel) (by decide +kernel)
theorem kf_X4_94 : kF RX4 94 RX3 TX3 6 := tb_m 96 (by decide +kernel) (by decide +kernel)
theorem kf_X3_24 : kF RX3 24 RX3 TX3 7 := tb_m 97 (by decide +kernel) (by decide +kernel)
theorem kf_X4_97 : kF RX4 97 RX3 TX3 7 := tb_m 98 (by decide +kernel) (by decide +kernel)
theorem kf_X3_27 : kF RX3 27 RX3 TX3 8 := tb_m 99 (by decide +kernel) (by decide +kernel)
theorem kf_X4_100 : kF RX4 100 RX3 TX3 8 := tb_m 100 (by decide +kernel) (by decide +kernel)
theorem kf_X3_30 : kF RX3 30 RX3 TX3 9 := tb_m 101 (by decide +kernel) (by decide +kernel)
theorem kf_X4_103 : kF RX4 103 RX3 TX3 9 := tb_m 102 (by decide +kernel) (by decide +kernel)
theorem kf_X3_33 : kF RX3 33 RX3 TX3 10 := tb_m 103 (by decide +kernel) (by decide +kernel)
theorem kf_X4_112 : kF RX4 112 RX3 TX3 10 := tb_m 104 (by decide +kernel) (by decide +kernel)
theorem kf_X3_36 : kF RX3 36 RX3 TX3 11 := tb_m 105 (by decide +kernel) (by decide +kernel)
theorem kf_X4_115 : kF RX4 115 RX3 TX3 11 := tb_m 106 (by decide +kernel) (by decide +kernel)
theorem kf_X3_65 : kF RX3 65 RX3 TX3 12 := tb_m 107 (by decide +kernel) (by decide +kernel)
theorem kf_X4_118 : kF RX4 118 RX3 TX3 12 := tb_m 108 (by decide +kernel) (by decide +kernel)
theorem kf_X3_45 : kF RX3 45 RX3 TX3 13 := tb_m 109 (by decide +kernel) (by decide +kernel)
theorem kf_X4_121 : kF RX4 121 RX3 TX3 13 := tb_m 110 (by decide +kernel) (by decide +kernel)
theorem kf_X3_62 : kF RX3 62 RX3 TX3 14 := tb_m 111 (by decide +kernel) (by decide +kernel)
theorem kf_X4_225 : kF RX4 225 RX3 TX3 14 := tb_m 112 (by decide +kernel) (by decide +kernel)
theorem kf_X3_39 : kF RX3 39 RX3 TX3 15 := tb_m 113 (by decide +kernel) (by decide +kernel)
theorem kf_X4_228 : kF RX4 228 RX3 TX3 15 := tb_m 114 (by decide +kernel) (by decide +kernel)
theorem kf_X3_42 : kF RX3 42 RX3 TX3 16 := tb_m 115 (by decide +kernel) (by decide +kernel)
theorem kf_X4_231 : kF RX4 231 RX3 TX3 16 := tb_m 116 (by decide +kernel) (by decide +kernel)
theorem km_X4_25 : kM RX4 25 yX2_init := tb_m 156 (by decide +kernel) (by decide +kernel)
theorem kf_X2_9 : kF RX2 9 RX2 TX2 0 := tb_m 160 (by decide +kernel) (by decide +kernel)
theorem kf_X4_127 : kF RX4 127 RX2 TX2 0 := tb_m 161 (by decide +kernel) (by decide +kernel)
theorem kf_X2_15 : kF RX2 15 RX2 TX2 1 := tb_m 162 (by decide +kernel) (by decide +kernel)
theorem kf_X0_42 : kF RX0 42 RX2 TX2 1 := tb_m 163 (by decide +kernel) (by decide +kernel)
theorem kf_X4_124 : kF RX4 124 RX2 TX2 1 := tb_m 164 (by decide +kernel) (by decide +kernel)
theorem km_X4_32 : kM RX4 32 yX0_init := tb_m 172 (by decide +kernel) (by decide +kernel)
theorem kf_X0_33 : kF RX0 33 RX0 TX0 0 := tb_m 176 (by decide +kernel) (by decide +kernel)
theorem kf_X4_138 : kF RX4 138 RX0 TX0 0 := tb_m 177 (by decide +kernel) (by decide +kernel)
theorem kf_X0_9 : kF RX0 9 RX0 TX0 1 := tb_m 178 (by decide +kernel) (by decide +kernel)
theorem kf_X4_144 : kF RX4 144 RX0 TX0 1 := tb_m 179 (by decide +kernel) (by decide +kernel)
theorem kf_X0_15 : kF RX0 15 RX0 TX0 2 := tb_m 180 (by decide +kernel) (by decide +kernel)
theorem kf_X4_141 : kF RX4 141 RX0 TX0 2 := tb_m 181 (by decide +kernel) (by decide +kernel)
theorem kf_X0_18 : kF RX0 18 RX0 TX0 3 := tb_m 182 (by decide +kernel) (by decide +kernel)
theorem kf_X4_147 : kF RX4 147 RX0 TX0 3 := tb_m 183 (by decide +kernel) (by decide +kernel)
theorem kf_X0_21 : kF RX0 21 RX0 TX0 4 := tb_m 184 (by decide +kernel) (by decide +kernel)
theorem kf_X4_150 : kF RX4 150 RX0 TX0 4 := tb_m 185 (by decide +kernel) (by decide +kernel)
theorem kf_X0_24 : kF RX0 24 RX0 TX0 5 := tb_m 186 (by decide +kernel) (by decide +kernel)
theorem kf_X4_153 : kF RX4 153 RX0 TX0 5 := tb_m 187 (by decide +kernel) (by decide +kernel)
theorem km_X4_39 : kM RX4 39 yX1_init := tb_m 203 (by decide +kernel) (by decide +kernel)
theorem kf_X1_9 : kF RX1 9 RX1 TX1 0 := tb_m 207 (by decide +kernel) (by decide +kernel)
theorem kf_X4_213 : kF RX4 213 RX1 TX1 0 := tb_m 208 (by decide +kernel) (by decide +kernel)
theorem kf_X1_15 : kF RX1 15 RX1 TX1 1 := tb_m 209 (by decide +kernel) (by decide +kernel)
theorem kf_X4_276 : kF RX4 276 RX1 TX1 1 := tb_m 210 (by decide +kernel) (by decide +kernel)
theorem kf_X1_18 : kF RX1 18 RX1 TX1 2 := tb_m 211 (by decide +kernel) (by decide +kernel)
theorem kf_X4_282 : kF RX4 282 RX1 TX1 2 := tb_m 212 (by decide +kernel) (by decide +kernel)
theorem kf_X4_10 : kF RX4 10 RX4 TX4 0 := tb_m 220 (by decide +kernel) (by decide +kernel)
theorem kf_X4_16 : kF RX4 16 RX4 TX4 1 := tb_m 221 (by decide +kernel) (by decide +kernel)
theorem kf_X4_19 : kF RX4 19 RX4 TX4 2 := tb_m 222 (by decide +kernel) (by decide +kernel)
theorem kf_X4_26 : kF RX4 26 RX4 TX4 3 := tb_m 223 (by decide +kernel) (by decide +kernel)
theorem kf_X4_33 : kF RX4 33 RX4 TX4 4 := tb_m 224 (by decide +kernel) (by decide +kernel)
theorem kf_X4_40 : kF RX4 40 RX4 TX4 5 := tb_m 225 (by decide +kernel) (by decide +kernel)
theorem km_L_13 : kM RL 13 yX4_terraces := tb_m 239 (by decide +kernel) (by decide +kernel)
theorem km_X4_44 : kM RX4 44 yX4_within := tb_m 243 (by decide +kernel) (by decide +kernel)
theorem km_X4_52 : kM RX4 52 yX3_settle := tb_m 246 (by decide +kernel) (by decide +kernel)
theorem km_L_18 : kM RL 18 yX4_bridge := tb_m 247 (by decide +kernel) (by decide +kernel)
theorem km_X4_56 : kM RX4 56 yX3_hasTerrace := tb_m 251 (by decide +kernel) (by decide +kernel)
theorem km_X4_67 : kM RX4 67 yJ9_min_7cf53 := tb_m 256 (by decide +kernel) (by decide +kernel)
theorem km_X4_76 : kM RX4 76 yJ9_max_7cf53 := tb_m 259 (by decide +kernel) (by decide +kernel)
theorem km_X4_85 : kM RX4 85 yJ6_bitCount_0f7a4 := tb_m 262 (by decide +kernel) (by decide +kernel)
theorem kk_J6_265 : Cond.constant RJ6 265 (1431655765) ∈ tb := tb_m 265 (by decide +kernel) (by decide +kernel)
theorem kk_J6_266 : Cond.constant RJ6 266 (858993459) ∈ tb := tb_m 266 (by decide +kernel) (by decide +kernel)
theorem kk_J6_267 : Cond.constant RJ6 267 (252645135) ∈ tb := tb_m 267 (by decide +kernel) (by decide +kernel)
theorem km_L_23 : kM RL 23 yX4_fall := tb_m 268 (by decide +kernel) (by decide +kernel)
theorem km_X4_91 : kM RX4 91 yX3_hasBridge := tb_m 272 (by decide +kernel) (by decide +kernel)
theorem km_L_27 : kM RL 27 yX4_person := tb_m 279 (by decide +kernel) (by decide +kernel)
theorem km_L_32 : kM RL 32 yX4_leave := tb_m 283 (by decide +kernel) (by decide +kernel)
theorem km_X4_106 : kM RX4 106 yX3_hasPerson := tb_m 287 (by decide +kernel) (by decide +kernel)
theorem km_L_36 : kM RL 36 yX4_news := tb_m 291 (by decide +kernel) (by decide +kernel)
theorem km_X4_109 : kM RX4 109 yX4_isNews := tb_m 295 (by decide +kernel) (by decide +kernel)
theorem km_L_40 : kM RL 40 yX4_learn := tb_m 298 (by decide +kernel) (by decide +kernel)
theorem km_L_45 : kM RL 45 yX4_fade := tb_m 302 (by decide +kernel) (by decide +kernel)
theorem km_L_49 : kM RL 49 yX4_say := tb_m 306 (by decide +kernel) (by decide +kernel)
theorem km_L_53 : kM RL 53 yX4_wipe := tb_m 310 (by decide +kernel) (by decide +kernel)
theorem km_L_58 : kM RL 58 yX4_fault := tb_m 314 (by decide +kernel) (by decide +kernel)
theorem km_X4_130 : kM RX4 130 yX2_faultPlace := tb_m 318 (by decide +kernel) (by decide +kernel)
theorem km_X2_23 : kM RX2 23 yX2_signAt := tb_m 322 (by decide +kernel) (by decide +kernel)
theorem km_X2_27 : kM RX2 27 yX2_readOn := tb_m 327 (by decide +kernel) (by decide +kernel)
theorem km_X2_31 : kM RX2 31 yX2_isPersonSign := tb_m 330 (by decide +kernel) (by decide +kernel)
theorem km_L_62 : kM RL 62 yX4_judge := tb_m 333 (by decide +kernel) (by decide +kernel)
theorem km_X4_134 : kM RX4 134 yX0_live := tb_m 337 (by decide +kernel) (by decide +kernel)
theorem km_X0_27 : kM RX0 27 yX2_faultPlace := tb_m 341 (by decide +kernel) (by decide +kernel)
theorem km_X0_36 : kM RX0 36 yX3_copy := tb_m 342 (by decide +kernel) (by decide +kernel)
theorem km_X0_45 : kM RX0 45 yX0_takeStep := tb_m 349 (by decide +kernel) (by decide +kernel)
theorem km_X0_49 : kM RX0 49 yX2_signAt := tb_m 353 (by decide +kernel) (by decide +kernel)
theorem km_X0_53 : kM RX0 53 yX3_passNight := tb_m 354 (by decide +kernel) (by decide +kernel)
theorem km_X3_95 : kM RX3 95 yJ9_max_7cf53 := tb_m 358 (by decide +kernel) (by decide +kernel)
theorem km_X0_56 : kM RX0 56 yX3_publishIfItCanBe := tb_m 359 (by decide +kernel) (by decide +kernel)
theorem km_X0_59 : kM RX0 59 yX2_isPersonSign := tb_m 363 (by decide +kernel) (by decide +kernel)
theorem km_X0_63 : kM RX0 63 yX3_tellIfItCanBe := tb_m 364 (by decide +kernel) (by decide +kernel)
theorem km_X3_131 : kM RX3 131 yX3_hasPerson := tb_m 368 (by decide +kernel) (by decide +kernel)
theorem km_X0_67 : kM RX0 67 yX3_crossIfItCanBe := tb_m 369 (by decide +kernel) (by decide +kernel)
theorem km_X3_135 : kM RX3 135 yX3_hasBridge := tb_m 373 (by decide +kernel) (by decide +kernel)
theorem km_X3_128 : kM RX3 128 yX3_isAtEnd := tb_m 374 (by decide +kernel) (by decide +kernel)
theorem km_X3_100 : kM RX3 100 yX3_burden := tb_m 378 (by decide +kernel) (by decide +kernel)
theorem km_X3_92 : kM RX3 92 yX3_sum := tb_m 382 (by decide +kernel) (by decide +kernel)
theorem km_X3_88 : kM RX3 88 yX3_weightFor := tb_m 386 (by decide +kernel) (by decide +kernel)
theorem km_X3_125 : kM RX3 125 yX3_otherEnd := tb_m 390 (by decide +kernel) (by decide +kernel)
theorem km_L_66 : kM RL 66 yX4_behind := tb_m 394 (by decide +kernel) (by decide +kernel)
theorem km_X4_156 : kM RX4 156 yX3_burden := tb_m 398 (by decide +kernel) (by decide +kernel)
theorem km_L_71 : kM RL 71 yX4_done := tb_m 399 (by decide +kernel) (by decide +kernel)
theorem km_X4_159 : kM RX4 159 yX3_copy := tb_m 403 (by decide +kernel) (by decide +kernel)
theorem km_L_75 : kM RL 75 yX4_heavy := tb_m 404 (by decide +kernel) (by decide +kernel)
theorem km_X4_163 : kM RX4 163 yX4_has := tb_m 408 (by decide +kernel) (by decide +kernel)
theorem km_X4_167 : kM RX4 167 yX3_weightFor := tb_m 409 (by decide +kernel) (by decide +kernel)
theorem km_L_79 : kM RL 79 yX4_carries := tb_m 410 (by decide +kernel) (by decide +kernel)
theorem km_L_83 : kM RL 83 yX4_bent := tb_m 414 (by decide +kernel) (by decide +kernel)
theorem km_L_87 : kM RL 87 yX4_way := tb_m 418 (by decide +kernel) (by decide +kernel)
theorem km_X4_170 : kM RX4 170 yX3_bearing := tb_m 422 (by decide +kernel) (by decide +kernel)
theorem km_X4_173 : kM RX4 173 yX3_distance := tb_m 426 (by decide +kernel) (by decide +kernel)
theorem km_X3_112 : kM RX3 112 yX3_spread := tb_m 430 (by decide +kernel) (by decide +kernel)
theorem km_X4_177 : kM RX4 177 yX3_bridgeOfWay := tb_m 434 (by decide +kernel) (by decide +kernel)
theorem km_X3_122 : kM RX3 122 yX3_nextBridge := tb_m 438 (by decide +kernel) (by decide +kernel)
theorem km_X3_118 : kM RX3 118 yX3_distance := tb_m 442 (by decide +kernel) (by decide +kernel)
theorem km_L_91 : kM RL 91 yX4_left := tb_m 443 (by decide +kernel) (by decide +kernel)
theorem km_X4_181 : kM RX4 181 yX4_refuseTrip := tb_m 447 (by decide +kernel) (by decide +kernel)
theorem km_X4_184 : kM RX4 184 yX4_fewest := tb_m 451 (by decide +kernel) (by decide +kernel)
theorem km_X4_273 : kM RX4 273 yX3_sum := tb_m 455 (by decide +kernel) (by decide +kernel)
theorem km_X4_187 : kM RX4 187 yX4_countOrBits := tb_m 456 (by decide +kernel) (by decide +kernel)
theorem km_L_95 : kM RL 95 yX4_cried := tb_m 459 (by decide +kernel) (by decide +kernel)
theorem km_L_99 : kM RL 99 yX4_floated := tb_m 463 (by decide +kernel) (by decide +kernel)
theorem km_X4_190 : kM RX4 190 yX3_lies := tb_m 467 (by decide +kernel) (by decide +kernel)
theorem km_L_103 : kM RL 103 yX4_mended := tb_m 471 (by decide +kernel) (by decide +kernel)
theorem km_X4_193 : kM RX4 193 yX4_weakestBridge := tb_m 475 (by decide +kernel) (by decide +kernel)
theorem km_L_107 : kM RL 107 yX4_rumour := tb_m 479 (by decide +kernel) (by decide +kernel)
theorem km_X4_196 : kM RX4 196 yX3_hearers := tb_m 483 (by decide +kernel) (by decide +kernel)
theorem km_X3_115 : kM RX3 115 yX3_bearing := tb_m 487 (by decide +kernel) (by decide +kernel)
theorem km_X3_138 : kM RX3 138 yX3_neighbours := tb_m 488 (by decide +kernel) (by decide +kernel)
theorem km_X3_104 : kM RX3 104 yX3_knowersOf := tb_m 492 (by decide +kernel) (by decide +kernel)
theorem km_X4_199 : kM RX4 199 yX3_tellAll := tb_m 496 (by decide +kernel) (by decide +kernel)
theorem km_X4_203 : kM RX4 203 yX3_knowersOf := tb_m 500 (by decide +kernel) (by decide +kernel)
theorem km_L_111 : kM RL 111 yX4_errands := tb_m 501 (by decide +kernel) (by decide +kernel)
theorem km_X4_206 : kM RX4 206 yX1_readGoals := tb_m 505 (by decide +kernel) (by decide +kernel)
theorem km_X4_209 : kM RX4 209 yX4_findOrder := tb_m 511 (by decide +kernel) (by decide +kernel)
theorem km_X4_279 : kM RX4 279 yX3_hasWay := tb_m 514 (by decide +kernel) (by decide +kernel)
theorem km_X4_291 : kM RX4 291 yX3_arrive := tb_m 519 (by decide +kernel) (by decide +kernel)
theorem km_X3_141 : kM RX3 141 yX3_tellAll := tb_m 523 (by decide +kernel) (by decide +kernel)
theorem km_L_115 : kM RL 115 yX4_two := tb_m 524 (by decide +kernel) (by decide +kernel)
theorem km_X4_216 : kM RX4 216 yJ9_floorDiv_7cf53 := tb_m 528 (by decide +kernel) (by decide +kernel)
theorem km_X4_219 : kM RX4 219 yX4_arrivers := tb_m 531 (by decide +kernel) (by decide +kernel)
theorem km_L_119 : kM RL 119 yX4_fee := tb_m 535 (by decide +kernel) (by decide +kernel)
theorem km_X4_222 : kM RX4 222 yX4_feeOf := tb_m 539 (by decide +kernel) (by decide +kernel)
theorem km_L_123 : kM RL 123 yX4_fees := tb_m 543 (by decide +kernel) (by decide +kernel)
theorem km_L_127 : kM RL 127 yX4_seen := tb_m 547 (by decide +kernel) (by decide +kernel)
theorem km_L_131 : kM RL 131 yX4_forget := tb_m 551 (by decide +kernel) (by decide +kernel)
theorem km_L_135 : kM RL 135 yX4_who := tb_m 555 (by decide +kernel) (by decide +kernel)
theorem km_X4_234 : kM RX4 234 yX3_carriersOf := tb_m 559 (by decide +kernel) (by decide +kernel)
theorem km_L_139 : kM RL 139 yX4_fit := tb_m 563 (by decide +kernel) (by decide +kernel)
theorem km_X4_237 : kM RX4 237 yX3_likeSightsBefore := tb_m 567 (by decide +kernel) (by decide +kernel)
theorem km_L_143 : kM RL 143 yX4_chance := tb_m 571 (by decide +kernel) (by decide +kernel)
theorem kk_X4_240 : Cond.constantLong RX4 240 (-1000000000000000001) ∈ tb := tb_m 575 (by decide +kernel) (by decide +kernel)
theorem kk_X4_242 : Cond.constantLong RX4 242 (-1000000000000000002) ∈ tb := tb_m 576 (by decide +kernel) (by decide +kernel)
theorem km_X4_244 : kM RX4 244 yX4_power := tb_m 577 (by decide +kernel) (by decide +kernel)
theorem km_X4_248 : kM RX4 248 yX4_commonDivisor := tb_m 580 (by decide +kernel) (by decide +kernel)
theorem km_X4_252 : kM RX4 252 yJ9_max_f86c9 := tb_m 583 (by decide +kernel) (by decide +kernel)
theorem km_L_148 : kM RL 148 yX4_year := tb_m 586 (by decide +kernel) (by decide +kernel)
theorem kk_X4_254 : Cond.constant RX4 254 (65537) ∈ tb := tb_m 590 (by decide +kernel) (by decide +kernel)
theorem km_X4_255 : kM RX4 255 yX3_tellIfItCanBe := tb_m 591 (by decide +kernel) (by decide +kernel)
theorem km_X4_258 : kM RX4 258 yX3_passNight := tb_m 592 (by decide +kernel) (by decide +kernel)
theorem km_X4_261 : kM RX4 261 yX3_mostBurden := tb_m 593 (by decide +kernel) (by decide +kernel)
theorem km_X4_264 : kM RX4 264 yX3_mostKnowers := tb_m 597 (by decide +kernel) (by decide +kernel)
theorem km_X3_107 : kM RX3 107 yJ6_bitCount_0f7a4 := tb_m 601 (by decide +kernel) (by decide +kernel)
theorem km_L_152 : kM RL 152 yX4_image := tb_m 602 (by decide +kernel) (by decide +kernel)
theorem km_L_156 : kM RL 156 yX4_restore := tb_m 606 (by decide +kernel) (by decide +kernel)
theorem km_L_160 : kM RL 160 yX4_told := tb_m 610 (by decide +kernel) (by decide +kernel)
theorem km_X4_267 : kM RX4 267 yX4_tellPerson := tb_m 614 (by decide +kernel) (by decide +kernel)
theorem km_X4_270 : kM RX4 270 yX4_tellBridge := tb_m 618 (by decide +kernel) (by decide +kernel)
theorem km_L_12 : kM RL 12 yX5_init := tb_m 624 (by decide +kernel) (by decide +kernel)
theorem km_X5_99 : kM RX5 99 yX5_begin := tb_m 628 (by decide +kernel) (by decide +kernel)
theorem kf_X5_103 : kF RX5 103 RX5 TX5 0 := tb_m 632 (by decide +kernel) (by decide +kernel)
theorem kf_X5_106 : kF RX5 106 RX5 TX5 1 := tb_m 633 (by decide +kernel) (by decide +kernel)
theorem kf_X5_109 : kF RX5 109 RX5 TX5 2 := tb_m 634 (by decide +kernel) (by decide +kernel)
theorem kf_X5_112 : kF RX5 112 RX5 TX5 3 := tb_m 635 (by decide +kernel) (by decide +kernel)
theorem kf_X5_7 : kF RX5 7 RX5 TX5 4 := tb_m 636 (by decide +kernel) (by decide +kernel)
theorem kf_X5_13 : kF RX5 13 RX5 TX5 5 := tb_m 637 (by decide +kernel) (by decide +kernel)
theorem kf_X5_16 : kF RX5 16 RX5 TX5 6 := tb_m 638 (by decide +kernel) (by decide +kernel)
theorem kf_X5_19 : kF RX5 19 RX5 TX5 7 := tb_m 639 (by decide +kernel) (by decide +kernel)
theorem kf_X5_22 : kF RX5 22 RX5 TX5 8 := tb_m 640 (by decide +kernel) (by decide +kernel)
theorem kf_X5_25 : kF RX5 25 RX5 TX5 9 := tb_m 641 (by decide +kernel) (by decide +kernel)
theorem kf_X5_28 : kF RX5 28 RX5 TX5 10 := tb_m 642 (by decide +kernel) (by decide +kernel)
theorem kf_X5_31 : kF RX5 31 RX5 TX5 11 := tb_m 643 (by decide +kernel) (by decide +kernel)
theorem kf_X5_34 : kF RX5 34 RX5 TX5 12 := tb_m 644 (by decide +kernel) (by decide +kernel)
theorem kf_X5_95 : kF RX5 95 RX5 TX5 13 := tb_m 645 (by decide +kernel) (by decide +kernel)
theorem kf_X5_37 : kF RX5 37 RX5 TX5 14 := tb_m 646 (by decide +kernel) (by decide +kernel)
theorem kf_X5_40 : kF RX5 40 RX5 TX5 15 := tb_m 647 (by decide +kernel) (by decide +kernel)
theorem kf_X5_115 : kF RX5 115 RX5 TX5 16 := tb_m 648 (by decide +kernel) (by decide +kernel)
theorem kf_X5_43 : kF RX5 43 RX5 TX5 17 := tb_m 649 (by decide +kernel) (by decide +kernel)
theorem kf_X5_159 : kF RX5 159 RX5 TX5 18 := tb_m 650 (by decide +kernel) (by decide +kernel)
theorem kf_X5_46 : kF RX5 46 RX5 TX5 19 := tb_m 651 (by decide +kernel) (by decide +kernel)
theorem kf_X5_49 : kF RX5 49 RX5 TX5 20 := tb_m 652 (by decide +kernel) (by decide +kernel)
theorem kf_X5_52 : kF RX5 52 RX5 TX5 21 := tb_m 653 (by decide +kernel) (by decide +kernel)
theorem kf_X5_55 : kF RX5 55 RX5 TX5 22 := tb_m 654 (by decide +kernel) (by decide +kernel)
theorem kf_X5_170 : kF RX5 170 RX5 TX5 23 := tb_m 655 (by decide +kernel) (by decide +kernel)
theorem kf_X5_173 : kF RX5 173 RX5 TX5 24 := tb_m 656 (by decide +kernel) (by decide +kernel)
theorem kf_X5_233 : kF RX5 233 RX5 TX5 25 := tb_m 657 (by decide +kernel) (by decide +kernel)
theorem kf_X5_236 : kF RX5 236 RX5 TX5 26 := tb_m 658 (by decide +kernel) (by decide +kernel)
theorem kf_X5_209 : kF RX5 209 RX5 TX5 27 := tb_m 659 (by decide +kernel) (by decide +kernel)
theorem kf_X5_212 : kF RX5 212 RX5 TX5 28 := tb_m 660 (by decide +kernel) (by decide +kernel)
theorem kf_X5_227 : kF RX5 227 RX5 TX5 29 := tb_m 661 (by decide +kernel) (by decide +kernel)
theorem kf_X5_58 : kF RX5 58 RX5 TX5 30 := tb_m 662 (by decide +kernel) (by decide +kernel)
theorem kf_X5_61 : kF RX5 61 RX5 TX5 31 := tb_m 663 (by decide +kernel) (by decide +kernel)
theorem kf_X5_64 : kF RX5 64 RX5 TX5 32 := tb_m 664 (by decide +kernel) (by decide +kernel)
theorem kf_X5_67 : kF RX5 67 RX5 TX5 33 := tb_m 665 (by decide +kernel) (by decide +kernel)
theorem kf_X5_230 : kF RX5 230 RX5 TX5 34 := tb_m 666 (by decide +kernel) (by decide +kernel)
theorem kf_X5_70 : kF RX5 70 RX5 TX5 35 := tb_m 667 (by decide +kernel) (by decide +kernel)
theorem kf_X5_275 : kF RX5 275 RX5 TX5 36 := tb_m 668 (by decide +kernel) (by decide +kernel)
theorem kf_X5_73 : kF RX5 73 RX5 TX5 37 := tb_m 669 (by decide +kernel) (by decide +kernel)
theorem kf_X5_76 : kF RX5 76 RX5 TX5 38 := tb_m 670 (by decide +kernel) (by decide +kernel)
theorem kf_X5_304 : kF RX5 304 RX5 TX5 39 := tb_m 671 (by decide +kernel) (by decide +kernel)
theorem kf_X5_79 : kF RX5 79 RX5 TX5 40 := tb_m 672 (by decide +kernel) (by decide +kernel)
theorem kf_X5_82 : kF RX5 82 RX5 TX5 41 := tb_m 673 (by decide +kernel) (by decide +kernel)
theorem kf_X5_85 : kF RX5 85 RX5 TX5 42 := tb_m 674 (by decide +kernel) (by decide +kernel)
theorem kf_X5_88 : kF RX5 88 RX5 TX5 43 := tb_m 675 (by decide +kernel) (by decide +kernel)
theorem kf_X5_91 : kF RX5 91 RX5 TX5 44 := tb_m 676 (by decide +kernel) (by decide +kernel)
theorem kf_X5_364 : kF RX5 364 RX5 TX5 45 := tb_m 677 (by decide +kernel) (by decide +kernel)
theorem kf_X5_360 : kF RX5 360 RX5 TX5 46 := tb_m 678 (by decide +kernel) (by decide +kernel)
theorem km_L_17 : kM RL 17 yX5_terraces := tb_m 775 (by decide +kernel) (by decide +kernel)
theorem kk_X5_126 : Cond.constantLong RX5 126 (2) ∈ tb := tb_m 779 (by decide +kernel) (by decide +kernel)
theorem kk_X5_128 : Cond.constantLong RX5 128 (6) ∈ tb := tb_m 780 (by decide +kernel) (by decide +kernel)
theorem km_X5_118 : kM RX5 118 yX5_in := tb_m 781 (by decide +kernel) (by decide +kernel)
theorem km_L_22 : kM RL 22 yX5_bridge := tb_m 784 (by decide +kernel) (by decide +kernel)
theorem kk_X5_122 : Cond.constantLong RX5 122 (7) ∈ tb := tb_m 788 (by decide +kernel) (by decide +kernel)
theorem km_X5_130 : kM RX5 130 yX5_isTerrace := tb_m 789 (by decide +kernel) (by decide +kernel)
theorem kk_X5_134 : Cond.constantLong RX5 134 (99) ∈ tb := tb_m 793 (by decide +kernel) (by decide +kernel)
theorem km_X5_136 : kM RX5 136 yX5_ones := tb_m 794 (by decide +kernel) (by decide +kernel)
theorem km_L_26 : kM RL 26 yX5_fall := tb_m 797 (by decide +kernel) (by decide +kernel)
theorem km_X5_140 : kM RX5 140 yX5_isBridge := tb_m 801 (by decide +kernel) (by decide +kernel)
theorem km_L_31 : kM RL 31 yX5_person := tb_m 805 (by decide +kernel) (by decide +kernel)
theorem kk_X5_124 : Cond.constantLong RX5 124 (5) ∈ tb := tb_m 809 (by decide +kernel) (by decide +kernel)
theorem km_L_35 : kM RL 35 yX5_leave := tb_m 810 (by decide +kernel) (by decide +kernel)
theorem km_X5_143 : kM RX5 143 yX5_isThere := tb_m 814 (by decide +kernel) (by decide +kernel)
theorem km_L_39 : kM RL 39 yX5_news := tb_m 818 (by decide +kernel) (by decide +kernel)
theorem km_X5_146 : kM RX5 146 yX5_isNews := tb_m 822 (by decide +kernel) (by decide +kernel)
theorem kk_X5_149 : Cond.constantLong RX5 149 (-20) ∈ tb := tb_m 825 (by decide +kernel) (by decide +kernel)
theorem kk_X5_151 : Cond.constantLong RX5 151 (3) ∈ tb := tb_m 826 (by decide +kernel) (by decide +kernel)
theorem km_L_44 : kM RL 44 yX5_learn := tb_m 827 (by decide +kernel) (by decide +kernel)
theorem km_L_48 : kM RL 48 yX5_fade := tb_m 831 (by decide +kernel) (by decide +kernel)
theorem kk_X5_153 : Cond.constantLong RX5 153 (9) ∈ tb := tb_m 835 (by decide +kernel) (by decide +kernel)
theorem km_L_52 : kM RL 52 yX5_say := tb_m 836 (by decide +kernel) (by decide +kernel)
theorem kk_X5_155 : Cond.constantLong RX5 155 (33) ∈ tb := tb_m 840 (by decide +kernel) (by decide +kernel)
theorem kk_X5_157 : Cond.constantLong RX5 157 (126) ∈ tb := tb_m 841 (by decide +kernel) (by decide +kernel)
theorem km_L_57 : kM RL 57 yX5_wipe := tb_m 842 (by decide +kernel) (by decide +kernel)
theorem km_L_61 : kM RL 61 yX5_fault := tb_m 846 (by decide +kernel) (by decide +kernel)
theorem km_X5_186 : kM RX5 186 yX5_readFirst := tb_m 850 (by decide +kernel) (by decide +kernel)
theorem km_X5_176 : kM RX5 176 yX5_isName := tb_m 854 (by decide +kernel) (by decide +kernel)
theorem kk_X5_162 : Cond.constantLong RX5 162 (65) ∈ tb := tb_m 857 (by decide +kernel) (by decide +kernel)
theorem kk_X5_164 : Cond.constantLong RX5 164 (70) ∈ tb := tb_m 858 (by decide +kernel) (by decide +kernel)
theorem km_X5_189 : kM RX5 189 yX5_readSecond := tb_m 859 (by decide +kernel) (by decide +kernel)
theorem kk_X5_179 : Cond.constantLong RX5 179 (48) ∈ tb := tb_m 863 (by decide +kernel) (by decide +kernel)
theorem kk_X5_181 : Cond.constantLong RX5 181 (55) ∈ tb := tb_m 864 (by decide +kernel) (by decide +kernel)
theorem km_X5_192 : kM RX5 192 yX5_readNews := tb_m 865 (by decide +kernel) (by decide +kernel)
theorem km_X5_183 : kM RX5 183 yX5_isLetter := tb_m 869 (by decide +kernel) (by decide +kernel)
theorem kk_X5_166 : Cond.constantLong RX5 166 (97) ∈ tb := tb_m 872 (by decide +kernel) (by decide +kernel)
theorem kk_X5_168 : Cond.constantLong RX5 168 (104) ∈ tb := tb_m 873 (by decide +kernel) (by decide +kernel)
theorem km_L_78 : kM RL 78 yX5_heavy := tb_m 874 (by decide +kernel) (by decide +kernel)
theorem km_X5_195 : kM RX5 195 yX5_knowers := tb_m 878 (by decide +kernel) (by decide +kernel)
theorem km_X5_198 : kM RX5 198 yX5_heavyBy := tb_m 882 (by decide +kernel) (by decide +kernel)
theorem km_L_82 : kM RL 82 yX5_carries := tb_m 886 (by decide +kernel) (by decide +kernel)
theorem km_X5_206 : kM RX5 206 yX5_carriedBy := tb_m 890 (by decide +kernel) (by decide +kernel)
theorem km_X5_202 : kM RX5 202 yX5_sumOf := tb_m 894 (by decide +kernel) (by decide +kernel)
theorem km_L_86 : kM RL 86 yX5_bent := tb_m 898 (by decide +kernel) (by decide +kernel)
theorem km_L_65 : kM RL 65 yX5_judge := tb_m 902 (by decide +kernel) (by decide +kernel)
theorem kk_X5_242 : Cond.constantLong RX5 242 (4) ∈ tb := tb_m 906 (by decide +kernel) (by decide +kernel)
theorem km_X5_244 : kM RX5 244 yX5_fault := tb_m 907 (by decide +kernel) (by decide +kernel)
theorem km_X5_248 : kM RX5 248 yX5_keepNow := tb_m 908 (by decide +kernel) (by decide +kernel)
theorem km_X5_251 : kM RX5 251 yX5_goDay := tb_m 912 (by decide +kernel) (by decide +kernel)
theorem km_X5_239 : kM RX5 239 yX5_happen := tb_m 916 (by decide +kernel) (by decide +kernel)
theorem km_X5_215 : kM RX5 215 yX5_tell := tb_m 920 (by decide +kernel) (by decide +kernel)
theorem km_X5_218 : kM RX5 218 yX5_cross := tb_m 924 (by decide +kernel) (by decide +kernel)
theorem km_X5_221 : kM RX5 221 yX5_publish := tb_m 928 (by decide +kernel) (by decide +kernel)
theorem km_X5_224 : kM RX5 224 yX5_passNight := tb_m 932 (by decide +kernel) (by decide +kernel)
theorem km_X5_254 : kM RX5 254 yX5_putBack := tb_m 936 (by decide +kernel) (by decide +kernel)
theorem km_L_70 : kM RL 70 yX5_behind := tb_m 940 (by decide +kernel) (by decide +kernel)
theorem km_L_74 : kM RL 74 yX5_done := tb_m 944 (by decide +kernel) (by decide +kernel)
theorem km_L_90 : kM RL 90 yX5_way := tb_m 948 (by decide +kernel) (by decide +kernel)
theorem km_X5_267 : kM RX5 267 yX5_isAsked := tb_m 952 (by decide +kernel) (by decide +kernel)
theorem km_X5_257 : kM RX5 257 yX5_bearing := tb_m 956 (by decide +kernel) (by decide +kernel)
theorem km_X5_260 : kM RX5 260 yX5_findFar := tb_m 960 (by decide +kernel) (by decide +kernel)
theorem km_X5_271 : kM RX5 271 yX5_leadsOn := tb_m 964 (by decide +kernel) (by decide +kernel)
theorem km_L_94 : kM RL 94 yX5_left := tb_m 968 (by decide +kernel) (by decide +kernel)
theorem km_X5_278 : kM RX5 278 yX5_least0 := tb_m 972 (by decide +kernel) (by decide +kernel)
theorem km_X5_281 : kM RX5 281 yX5_hasWay := tb_m 975 (by decide +kernel) (by decide +kernel)
theorem km_X5_264 : kM RX5 264 yX5_farBy := tb_m 979 (by decide +kernel) (by decide +kernel)
theorem km_X5_284 : kM RX5 284 yX5_offerSet := tb_m 983 (by decide +kernel) (by decide +kernel)
theorem km_X5_288 : kM RX5 288 yX5_tellSet := tb_m 987 (by decide +kernel) (by decide +kernel)
theorem km_L_98 : kM RL 98 yX5_cried := tb_m 991 (by decide +kernel) (by decide +kernel)
theorem km_L_102 : kM RL 102 yX5_floated := tb_m 995 (by decide +kernel) (by decide +kernel)
theorem km_X5_291 : kM RX5 291 yX5_lies := tb_m 999 (by decide +kernel) (by decide +kernel)
theorem km_X5_294 : kM RX5 294 yX5_floatedBy := tb_m 1003 (by decide +kernel) (by decide +kernel)
theorem km_L_106 : kM RL 106 yX5_mended := tb_m 1007 (by decide +kernel) (by decide +kernel)
theorem kk_X5_297 : Cond.constant RX5 297 (1000000) ∈ tb := tb_m 1011 (by decide +kernel) (by decide +kernel)
theorem km_L_110 : kM RL 110 yX5_rumour := tb_m 1012 (by decide +kernel) (by decide +kernel)
theorem km_X5_298 : kM RX5 298 yX5_knowersOf := tb_m 1016 (by decide +kernel) (by decide +kernel)
theorem km_X5_301 : kM RX5 301 yX5_reachedBy := tb_m 1020 (by decide +kernel) (by decide +kernel)
theorem km_L_114 : kM RL 114 yX5_errands := tb_m 1024 (by decide +kernel) (by decide +kernel)
theorem kk_X5_313 : Cond.constantLong RX5 313 (63) ∈ tb := tb_m 1028 (by decide +kernel) (by decide +kernel)
theorem km_X5_315 : kM RX5 315 yX5_layErrands := tb_m 1029 (by decide +kernel) (by decide +kernel)
theorem km_X5_307 : kM RX5 307 yX5_tens := tb_m 1033 (by decide +kernel) (by decide +kernel)
theorem km_X5_318 : kM RX5 318 yX5_layRow := tb_m 1036 (by decide +kernel) (by decide +kernel)
theorem km_X5_321 : kM RX5 321 yX5_canAll := tb_m 1040 (by decide +kernel) (by decide +kernel)
theorem km_X5_310 : kM RX5 310 yX5_goesErrand := tb_m 1044 (by decide +kernel) (by decide +kernel)
theorem km_L_118 : kM RL 118 yX5_two := tb_m 1048 (by decide +kernel) (by decide +kernel)
theorem km_X5_325 : kM RX5 325 yX5_half := tb_m 1052 (by decide +kernel) (by decide +kernel)
theorem km_X5_328 : kM RX5 328 yX5_canBear := tb_m 1055 (by decide +kernel) (by decide +kernel)
theorem km_L_122 : kM RL 122 yX5_fee := tb_m 1059 (by decide +kernel) (by decide +kernel)
theorem km_X5_331 : kM RX5 331 yX5_feeOf := tb_m 1063 (by decide +kernel) (by decide +kernel)
theorem km_L_126 : kM RL 126 yX5_fees := tb_m 1067 (by decide +kernel) (by decide +kernel)
theorem km_L_130 : kM RL 130 yX5_seen := tb_m 1071 (by decide +kernel) (by decide +kernel)
theorem kk_X5_334 : Cond.constantLong RX5 334 (999) ∈ tb := tb_m 1075 (by decide +kernel) (by decide +kernel)
theorem km_L_134 : kM RL 134 yX5_forget := tb_m 1076 (by decide +kernel) (by decide +kernel)
theorem km_L_138 : kM RL 138 yX5_who := tb_m 1080 (by decide +kernel) (by decide +kernel)
theorem km_X5_336 : kM RX5 336 yX5_whoBent := tb_m 1084 (by decide +kernel) (by decide +kernel)
theorem km_L_142 : kM RL 142 yX5_fit := tb_m 1088 (by decide +kernel) (by decide +kernel)
theorem km_X5_339 : kM RX5 339 yX5_fits := tb_m 1092 (by decide +kernel) (by decide +kernel)
theorem km_L_147 : kM RL 147 yX5_chance := tb_m 1096 (by decide +kernel) (by decide +kernel)
theorem kk_X5_342 : Cond.constantLong RX5 342 (-1000000000000000001) ∈ tb := tb_m 1100 (by decide +kernel) (by decide +kernel)
theorem kk_X5_344 : Cond.constantLong RX5 344 (10) ∈ tb := tb_m 1101 (by decide +kernel) (by decide +kernel)
theorem kk_X5_346 : Cond.constantLong RX5 346 (-1000000000000000002) ∈ tb := tb_m 1102 (by decide +kernel) (by decide +kernel)
theorem km_X5_348 : kM RX5 348 yX5_lowest := tb_m 1103 (by decide +kernel) (by decide +kernel)
theorem km_L_151 : kM RL 151 yX5_year := tb_m 1106 (by decide +kernel) (by decide +kernel)
theorem kk_X5_352 : Cond.constantLong RX5 352 (9999) ∈ tb := tb_m 1110 (by decide +kernel) (by decide +kernel)
theorem kk_X5_354 : Cond.constantLong RX5 354 (75) ∈ tb := tb_m 1111 (by decide +kernel) (by decide +kernel)
theorem kk_X5_356 : Cond.constantLong RX5 356 (74) ∈ tb := tb_m 1112 (by decide +kernel) (by decide +kernel)
theorem kk_X5_358 : Cond.constantLong RX5 358 (65537) ∈ tb := tb_m 1113 (by decide +kernel) (by decide +kernel)
theorem km_L_155 : kM RL 155 yX5_image := tb_m 1114 (by decide +kernel) (by decide +kernel)
theorem km_X5_370 : kM RX5 370 yX5_passAll := tb_m 1118 (by decide +kernel) (by decide +kernel)
theorem km_X5_367 : kM RX5 367 yX5_pass := tb_m 1122 (by decide +kernel) (by decide +kernel)
theorem km_L_159 : kM RL 159 yX5_restore := tb_m 1126 (by decide +kernel) (by decide +kernel)
theorem km_L_163 : kM RL 163 yX5_told := tb_m 1130 (by decide +kernel) (by decide +kernel)
theorem kk_X5_373 : Cond.constantLong RX5 373 (1000) ∈ tb := tb_m 1134 (by decide +kernel) (by decide +kernel)
theorem kk_X5_375 : Cond.constantLong RX5 375 (6999) ∈ tb := tb_m 1135 (by decide +kernel) (by decide +kernel)
theorem km_X5_377 : kM RX5 377 yX5_toldOfPerson := tb_m 1136 (by decide +kernel) (by decide +kernel)
theorem kk_X5_380 : Cond.constantLong RX5 380 (100) ∈ tb := tb_m 1140 (by decide +kernel) (by decide +kernel)
theorem kk_X5_382 : Cond.constantLong RX5 382 (899) ∈ tb := tb_m 1141 (by decide +kernel) (by decide +kernel)
theorem km_X5_384 : kM RX5 384 yX5_toldOfBridge := tb_m 1142 (by decide +kernel) (by decide +kernel)
theorem kk_X5_387 : Cond.constantLong RX5 387 (17) ∈ tb := tb_m 1146 (by decide +kernel) (by decide +kernel)
theorem kk_X5_389 : Cond.constantLong RX5 389 (20) ∈ tb := tb_m 1147 (by decide +kernel) (by decide +kernel)
theorem kk_X5_391 : Cond.constantLong RX5 391 (27) ∈ tb := tb_m 1148 (by decide +kernel) (by decide +kernel)
theorem ky_X0_init : kY yX0_init cX0_init 1 none 0 := ⟨tb_m 174 (by decide +kernel) (by decide +kernel), tb_m 56 (by decide +kernel) (by decide +kernel), by decide +kernel, by decide +kernel⟩
theorem kn_X0_init : kN yX0_init := ⟨tb_m 173 (by decide +kernel) (by decide +kernel), rfl⟩
theorem ky_X0_live : kY yX0_live cX0_live 6 none 3 := ⟨tb_m 340 (by decide +kernel) (by decide +kernel), tb_m 56 (by decide +kernel) (by decide +kernel), by decide +kernel, by decide +kernel⟩
theorem ki_X0_live : kI yX0_live := ⟨tb_m 338 (by decide +kernel) (by decide +kernel), tb_m 339 (by decide +kernel) (by decide +kernel)⟩
theorem ky_X0_takeStep : kY yX0_takeStep cX0_takeStep 6 (some .int) 3 := ⟨tb_m 352 (by decide +kernel) (by decide +kernel), tb_m 56 (by decide +kernel) (by decide +kernel), by decide +kernel, by decide +kernel⟩
theorem ki_X0_takeStep : kI yX0_takeStep := ⟨tb_m 351 (by decide +kernel) (by decide +kernel), tb_m 0 (by decide +kernel) (by decide +kernel)⟩
theorem ky_X1_init : kY yX1_init cX1_init 1 none 0 := ⟨tb_m 205 (by decide +kernel) (by decide +kernel), tb_m 57 (by decide +kernel) (by decide +kernel), by decide +kernel, by decide +kernel⟩
theorem kn_X1_init : kN yX1_init := ⟨tb_m 204 (by decide +kernel) (by decide +kernel), rfl⟩
theorem ky_X1_readGoals : kY yX1_readGoals cX1_readGoals 6 (some .boolean) 3 := ⟨tb_m 508 (by decide +kernel) (by decide +kernel), tb_m 57 (by decide +kernel) (by decide +kernel), by decide +kernel, by decide +kernel⟩
theorem ki_X1_readGoals : kI yX1_readGoals := ⟨tb_m 506 (by decide +kernel) (by decide +kernel), tb_m 507 (by decide +kernel) (by decide +kernel)⟩
theorem ky_X2_init : kY yX2_init cX2_init 1 none 0 := ⟨tb_m 158 (by decide +kernel) (by decide +kernel), tb_m 55 (by decide +kernel) (by decide +kernel), by decide +kernel, by decide +kernel⟩
theorem kn_X2_init : kN yX2_init := ⟨tb_m 157 (by decide +kernel) (by decide +kernel), rfl⟩
theorem ky_X2_signAt : kY yX2_signAt cX2_signAt 2 (some .int) 1 := ⟨tb_m 325 (by decide +kernel) (by decide +kernel), tb_m 55 (by decide +kernel) (by decide +kernel), by decide +kernel, by decide +kernel⟩
theorem ki_X2_signAt : kI yX2_signAt := ⟨tb_m 323 (by decide +kernel) (by decide +kernel), tb_m 324 (by decide +kernel) (by decide +kernel)⟩
theorem ky_X2_faultPlace : kY yX2_faultPlace cX2_faultPlace 3 (some .int) 0 := ⟨tb_m 321 (by decide +kernel) (by decide +kernel), tb_m 55 (by decide +kernel) (by decide +kernel), by decide +kernel, by decide +kernel⟩
theorem ki_X2_faultPlace : kI yX2_faultPlace := ⟨tb_m 319 (by decide +kernel) (by decide +kernel), tb_m 320 (by decide +kernel) (by decide +kernel)⟩
theorem ky_X2_readOn : kY yX2_readOn cX2_readOn 2 (some .int) 2 := ⟨tb_m 329 (by decide +kernel) (by decide +kernel), tb_m 55 (by decide +kernel) (by decide +kernel), by decide +kernel, by decide +kernel⟩
theorem ks_X2_readOn : kS yX2_readOn := tb_m 328 (by decide +kernel) (by decide +kernel)
theorem ky_X2_isPersonSign : kY yX2_isPersonSign cX2_isPersonSign 1 (some .boolean) 1 := ⟨tb_m 332 (by decide +kernel) (by decide +kernel), tb_m 55 (by decide +kernel) (by decide +kernel), by decide +kernel, by decide +kernel⟩
theorem ks_X2_isPersonSign : kS yX2_isPersonSign := tb_m 331 (by decide +kernel) (by decide +kernel)
theorem ky_X3_init : kY yX3_init cX3_init 1 none 0 := ⟨tb_m 74 (by decide +kernel) (by decide +kernel), tb_m 53 (by decide +kernel) (by decide +kernel), by decide +kernel, by decide +kernel⟩
theorem kn_X3_init : kN yX3_init := ⟨tb_m 73 (by decide +kernel) (by decide +kernel), rfl⟩
theorem ky_X3_settle : kY yX3_settle cX3_settle 2 none 1 := ⟨tb_m 79 (by decide +kernel) (by decide +kernel), tb_m 53 (by decide +kernel) (by decide +kernel), by decide +kernel, by decide +kernel⟩
theorem ki_X3_settle : kI yX3_settle := ⟨tb_m 77 (by decide +kernel) (by decide +kernel), tb_m 78 (by decide +kernel) (by decide +kernel)⟩
theorem ky_X3_copy : kY yX3_copy cX3_copy 2 none 1 := ⟨tb_m 345 (by decide +kernel) (by decide +kernel), tb_m 53 (by decide +kernel) (by decide +kernel), by decide +kernel, by decide +kernel⟩
theorem ki_X3_copy : kI yX3_copy := ⟨tb_m 343 (by decide +kernel) (by decide +kernel), tb_m 344 (by decide +kernel) (by decide +kernel)⟩
theorem ky_X3_hasTerrace : kY yX3_hasTerrace cX3_hasTerrace 2 (some .boolean) 1 := ⟨tb_m 254 (by decide +kernel) (by decide +kernel), tb_m 53 (by decide +kernel) (by decide +kernel), by decide +kernel, by decide +kernel⟩
theorem ki_X3_hasTerrace : kI yX3_hasTerrace := ⟨tb_m 252 (by decide +kernel) (by decide +kernel), tb_m 253 (by decide +kernel) (by decide +kernel)⟩
theorem ky_X3_hasBridge : kY yX3_hasBridge cX3_hasBridge 2 (some .boolean) 1 := ⟨tb_m 275 (by decide +kernel) (by decide +kernel), tb_m 53 (by decide +kernel) (by decide +kernel), by decide +kernel, by decide +kernel⟩
theorem ki_X3_hasBridge : kI yX3_hasBridge := ⟨tb_m 273 (by decide +kernel) (by decide +kernel), tb_m 274 (by decide +kernel) (by decide +kernel)⟩
theorem ky_X3_hasPerson : kY yX3_hasPerson cX3_hasPerson 2 (some .boolean) 1 := ⟨tb_m 290 (by decide +kernel) (by decide +kernel), tb_m 53 (by decide +kernel) (by decide +kernel), by decide +kernel, by decide +kernel⟩
theorem ki_X3_hasPerson : kI yX3_hasPerson := ⟨tb_m 288 (by decide +kernel) (by decide +kernel), tb_m 289 (by decide +kernel) (by decide +kernel)⟩
theorem ky_X3_knowersOf : kY yX3_knowersOf cX3_knowersOf 4 (some .int) 1 := ⟨tb_m 495 (by decide +kernel) (by decide +kernel), tb_m 53 (by decide +kernel) (by decide +kernel), by decide +kernel, by decide +kernel⟩
theorem ki_X3_knowersOf : kI yX3_knowersOf := ⟨tb_m 493 (by decide +kernel) (by decide +kernel), tb_m 494 (by decide +kernel) (by decide +kernel)⟩
theorem ky_X3_weightFor : kY yX3_weightFor cX3_weightFor 6 (some .int) 2 := ⟨tb_m 389 (by decide +kernel) (by decide +kernel), tb_m 53 (by decide +kernel) (by decide +kernel), by decide +kernel, by decide +kernel⟩
theorem ki_X3_weightFor : kI yX3_weightFor := ⟨tb_m 387 (by decide +kernel) (by decide +kernel), tb_m 388 (by decide +kernel) (by decide +kernel)⟩
theorem ky_X3_sum : kY yX3_sum cX3_sum 5 (some .int) 2 := ⟨tb_m 385 (by decide +kernel) (by decide +kernel), tb_m 53 (by decide +kernel) (by decide +kernel), by decide +kernel, by decide +kernel⟩
theorem ki_X3_sum : kI yX3_sum := ⟨tb_m 383 (by decide +kernel) (by decide +kernel), tb_m 384 (by decide +kernel) (by decide +kernel)⟩
theorem ky_X3_burden : kY yX3_burden cX3_burden 2 (some .int) 1 := ⟨tb_m 381 (by decide +kernel) (by decide +kernel), tb_m 53 (by decide +kernel) (by decide +kernel), by decide +kernel, by decide +kernel⟩
theorem ki_X3_burden : kI yX3_burden := ⟨tb_m 379 (by decide +kernel) (by decide +kernel), tb_m 380 (by decide +kernel) (by decide +kernel)⟩
theorem ky_X3_mostBurden : kY yX3_mostBurden cX3_mostBurden 3 (some .int) 0 := ⟨tb_m 596 (by decide +kernel) (by decide +kernel), tb_m 53 (by decide +kernel) (by decide +kernel), by decide +kernel, by decide +kernel⟩
theorem ki_X3_mostBurden : kI yX3_mostBurden := ⟨tb_m 594 (by decide +kernel) (by decide +kernel), tb_m 595 (by decide +kernel) (by decide +kernel)⟩
theorem ky_X3_mostKnowers : kY yX3_mostKnowers cX3_mostKnowers 3 (some .int) 0 := ⟨tb_m 600 (by decide +kernel) (by decide +kernel), tb_m 53 (by decide +kernel) (by decide +kernel), by decide +kernel, by decide +kernel⟩
theorem ki_X3_mostKnowers : kI yX3_mostKnowers := ⟨tb_m 598 (by decide +kernel) (by decide +kernel), tb_m 599 (by decide +kernel) (by decide +kernel)⟩
theorem ky_X3_lies : kY yX3_lies cX3_lies 3 (some .int) 0 := ⟨tb_m 470 (by decide +kernel) (by decide +kernel), tb_m 53 (by decide +kernel) (by decide +kernel), by decide +kernel, by decide +kernel⟩
theorem ki_X3_lies : kI yX3_lies := ⟨tb_m 468 (by decide +kernel) (by decide +kernel), tb_m 469 (by decide +kernel) (by decide +kernel)⟩
theorem ky_X3_carriersOf : kY yX3_carriersOf cX3_carriersOf 4 (some .int) 1 := ⟨tb_m 562 (by decide +kernel) (by decide +kernel), tb_m 53 (by decide +kernel) (by decide +kernel), by decide +kernel, by decide +kernel⟩
theorem ki_X3_carriersOf : kI yX3_carriersOf := ⟨tb_m 560 (by decide +kernel) (by decide +kernel), tb_m 561 (by decide +kernel) (by decide +kernel)⟩
theorem ky_X3_likeSightsBefore : kY yX3_likeSightsBefore cX3_likeSightsBefore 4 (some .int) 1 := ⟨tb_m 570 (by decide +kernel) (by decide +kernel), tb_m 53 (by decide +kernel) (by decide +kernel), by decide +kernel, by decide +kernel⟩
theorem ki_X3_likeSightsBefore : kI yX3_likeSightsBefore := ⟨tb_m 568 (by decide +kernel) (by decide +kernel), tb_m 569 (by decide +kernel) (by decide +kernel)⟩
theorem ky_X3_bearing : kY yX3_bearing cX3_bearing 4 (some .int) 1 := ⟨tb_m 425 (by decide +kernel) (by decide +kernel), tb_m 53 (by decide +kernel) (by decide +kernel), by decide +kernel, by decide +kernel⟩
theorem ki_X3_bearing : kI yX3_bearing := ⟨tb_m 423 (by decide +kernel) (by decide +kernel), tb_m 424 (by decide +kernel) (by decide +kernel)⟩
theorem ky_X3_spread : kY yX3_spread cX3_spread 5 (some .int) 2 := ⟨tb_m 433 (by decide +kernel) (by decide +kernel), tb_m 53 (by decide +kernel) (by decide +kernel), by decide +kernel, by decide +kernel⟩
theorem ki_X3_spread : kI yX3_spread := ⟨tb_m 431 (by decide +kernel) (by decide +kernel), tb_m 432 (by decide +kernel) (by decide +kernel)⟩
theorem ky_X3_distance : kY yX3_distance cX3_distance 7 (some .int) 3 := ⟨tb_m 429 (by decide +kernel) (by decide +kernel), tb_m 53 (by decide +kernel) (by decide +kernel), by decide +kernel, by decide +kernel⟩
theorem ki_X3_distance : kI yX3_distance := ⟨tb_m 427 (by decide +kernel) (by decide +kernel), tb_m 428 (by decide +kernel) (by decide +kernel)⟩
theorem ky_X3_hasWay : kY yX3_hasWay cX3_hasWay 3 (some .boolean) 2 := ⟨tb_m 517 (by decide +kernel) (by decide +kernel), tb_m 53 (by decide +kernel) (by decide +kernel), by decide +kernel, by decide +kernel⟩
theorem ki_X3_hasWay : kI yX3_hasWay := ⟨tb_m 515 (by decide +kernel) (by decide +kernel), tb_m 516 (by decide +kernel) (by decide +kernel)⟩
theorem ky_X3_otherEnd : kY yX3_otherEnd cX3_otherEnd 3 (some .int) 2 := ⟨tb_m 393 (by decide +kernel) (by decide +kernel), tb_m 53 (by decide +kernel) (by decide +kernel), by decide +kernel, by decide +kernel⟩
theorem ki_X3_otherEnd : kI yX3_otherEnd := ⟨tb_m 391 (by decide +kernel) (by decide +kernel), tb_m 392 (by decide +kernel) (by decide +kernel)⟩
theorem ky_X3_isAtEnd : kY yX3_isAtEnd cX3_isAtEnd 3 (some .boolean) 2 := ⟨tb_m 377 (by decide +kernel) (by decide +kernel), tb_m 53 (by decide +kernel) (by decide +kernel), by decide +kernel, by decide +kernel⟩
theorem ki_X3_isAtEnd : kI yX3_isAtEnd := ⟨tb_m 375 (by decide +kernel) (by decide +kernel), tb_m 376 (by decide +kernel) (by decide +kernel)⟩
theorem ky_X3_bridgeOfWay : kY yX3_bridgeOfWay cX3_bridgeOfWay 8 (some .int) 4 := ⟨tb_m 437 (by decide +kernel) (by decide +kernel), tb_m 53 (by decide +kernel) (by decide +kernel), by decide +kernel, by decide +kernel⟩
theorem ki_X3_bridgeOfWay : kI yX3_bridgeOfWay := ⟨tb_m 435 (by decide +kernel) (by decide +kernel), tb_m 436 (by decide +kernel) (by decide +kernel)⟩
theorem ky_X3_nextBridge : kY yX3_nextBridge cX3_nextBridge 6 (some .int) 3 := ⟨tb_m 441 (by decide +kernel) (by decide +kernel), tb_m 53 (by decide +kernel) (by decide +kernel), by decide +kernel, by decide +kernel⟩
theorem ki_X3_nextBridge : kI yX3_nextBridge := ⟨tb_m 439 (by decide +kernel) (by decide +kernel), tb_m 440 (by decide +kernel) (by decide +kernel)⟩
theorem ky_X3_tellIfItCanBe : kY yX3_tellIfItCanBe cX3_tellIfItCanBe 4 (some .int) 3 := ⟨tb_m 367 (by decide +kernel) (by decide +kernel), tb_m 53 (by decide +kernel) (by decide +kernel), by decide +kernel, by decide +kernel⟩
theorem ki_X3_tellIfItCanBe : kI yX3_tellIfItCanBe := ⟨tb_m 365 (by decide +kernel) (by decide +kernel), tb_m 366 (by decide +kernel) (by decide +kernel)⟩
theorem ky_X3_crossIfItCanBe : kY yX3_crossIfItCanBe cX3_crossIfItCanBe 4 (some .int) 2 := ⟨tb_m 372 (by decide +kernel) (by decide +kernel), tb_m 53 (by decide +kernel) (by decide +kernel), by decide +kernel, by decide +kernel⟩
theorem ki_X3_crossIfItCanBe : kI yX3_crossIfItCanBe := ⟨tb_m 370 (by decide +kernel) (by decide +kernel), tb_m 371 (by decide +kernel) (by decide +kernel)⟩
theorem ky_X3_publishIfItCanBe : kY yX3_publishIfItCanBe cX3_publishIfItCanBe 2 (some .int) 1 := ⟨tb_m 362 (by decide +kernel) (by decide +kernel), tb_m 53 (by decide +kernel) (by decide +kernel), by decide +kernel, by decide +kernel⟩
theorem ki_X3_publishIfItCanBe : kI yX3_publishIfItCanBe := ⟨tb_m 360 (by decide +kernel) (by decide +kernel), tb_m 361 (by decide +kernel) (by decide +kernel)⟩
theorem ky_X3_passNight : kY yX3_passNight cX3_passNight 2 none 0 := ⟨tb_m 357 (by decide +kernel) (by decide +kernel), tb_m 53 (by decide +kernel) (by decide +kernel), by decide +kernel, by decide +kernel⟩
theorem ki_X3_passNight : kI yX3_passNight := ⟨tb_m 355 (by decide +kernel) (by decide +kernel), tb_m 356 (by decide +kernel) (by decide +kernel)⟩
theorem ky_X3_hearers : kY yX3_hearers cX3_hearers 4 (some .int) 1 := ⟨tb_m 486 (by decide +kernel) (by decide +kernel), tb_m 53 (by decide +kernel) (by decide +kernel), by decide +kernel, by decide +kernel⟩
theorem ki_X3_hearers : kI yX3_hearers := ⟨tb_m 484 (by decide +kernel) (by decide +kernel), tb_m 485 (by decide +kernel) (by decide +kernel)⟩
theorem ky_X3_neighbours : kY yX3_neighbours cX3_neighbours 5 (some .int) 2 := ⟨tb_m 491 (by decide +kernel) (by decide +kernel), tb_m 53 (by decide +kernel) (by decide +kernel), by decide +kernel, by decide +kernel⟩
theorem ki_X3_neighbours : kI yX3_neighbours := ⟨tb_m 489 (by decide +kernel) (by decide +kernel), tb_m 490 (by decide +kernel) (by decide +kernel)⟩
theorem ky_X3_tellAll : kY yX3_tellAll cX3_tellAll 4 none 2 := ⟨tb_m 499 (by decide +kernel) (by decide +kernel), tb_m 53 (by decide +kernel) (by decide +kernel), by decide +kernel, by decide +kernel⟩
theorem ki_X3_tellAll : kI yX3_tellAll := ⟨tb_m 497 (by decide +kernel) (by decide +kernel), tb_m 498 (by decide +kernel) (by decide +kernel)⟩
theorem ky_X3_arrive : kY yX3_arrive cX3_arrive 3 none 2 := ⟨tb_m 522 (by decide +kernel) (by decide +kernel), tb_m 53 (by decide +kernel) (by decide +kernel), by decide +kernel, by decide +kernel⟩
theorem ki_X3_arrive : kI yX3_arrive := ⟨tb_m 520 (by decide +kernel) (by decide +kernel), tb_m 521 (by decide +kernel) (by decide +kernel)⟩
theorem ky_X4_init : kY yX4_init cX4_init 1 none 0 := ⟨tb_m 66 (by decide +kernel) (by decide +kernel), tb_m 52 (by decide +kernel) (by decide +kernel), by decide +kernel, by decide +kernel⟩
theorem kn_X4_init : kN yX4_init := ⟨tb_m 65 (by decide +kernel) (by decide +kernel), rfl⟩
theorem ky_X4_terraces : kY yX4_terraces cX4_terraces 3 (some .int) 1 := ⟨tb_m 242 (by decide +kernel) (by decide +kernel), tb_m 52 (by decide +kernel) (by decide +kernel), by decide +kernel, by decide +kernel⟩
theorem ki_X4_terraces : kI yX4_terraces := ⟨tb_m 240 (by decide +kernel) (by decide +kernel), tb_m 241 (by decide +kernel) (by decide +kernel)⟩
theorem ky_X4_bridge : kY yX4_bridge cX4_bridge 5 (some .int) 4 := ⟨tb_m 250 (by decide +kernel) (by decide +kernel), tb_m 52 (by decide +kernel) (by decide +kernel), by decide +kernel, by decide +kernel⟩
theorem ki_X4_bridge : kI yX4_bridge := ⟨tb_m 248 (by decide +kernel) (by decide +kernel), tb_m 249 (by decide +kernel) (by decide +kernel)⟩
theorem ky_X4_fall : kY yX4_fall cX4_fall 2 (some .int) 1 := ⟨tb_m 271 (by decide +kernel) (by decide +kernel), tb_m 52 (by decide +kernel) (by decide +kernel), by decide +kernel, by decide +kernel⟩
theorem ki_X4_fall : kI yX4_fall := ⟨tb_m 269 (by decide +kernel) (by decide +kernel), tb_m 270 (by decide +kernel) (by decide +kernel)⟩
theorem ky_X4_person : kY yX4_person cX4_person 4 (some .int) 3 := ⟨tb_m 282 (by decide +kernel) (by decide +kernel), tb_m 52 (by decide +kernel) (by decide +kernel), by decide +kernel, by decide +kernel⟩
theorem ki_X4_person : kI yX4_person := ⟨tb_m 280 (by decide +kernel) (by decide +kernel), tb_m 281 (by decide +kernel) (by decide +kernel)⟩
theorem ky_X4_leave : kY yX4_leave cX4_leave 2 (some .int) 1 := ⟨tb_m 286 (by decide +kernel) (by decide +kernel), tb_m 52 (by decide +kernel) (by decide +kernel), by decide +kernel, by decide +kernel⟩
theorem ki_X4_leave : kI yX4_leave := ⟨tb_m 284 (by decide +kernel) (by decide +kernel), tb_m 285 (by decide +kernel) (by decide +kernel)⟩
theorem ky_X4_news : kY yX4_news cX4_news 5 (some .int) 3 := ⟨tb_m 294 (by decide +kernel) (by decide +kernel), tb_m 52 (by decide +kernel) (by decide +kernel), by decide +kernel, by decide +kernel⟩
theorem ki_X4_news : kI yX4_news := ⟨tb_m 292 (by decide +kernel) (by decide +kernel), tb_m 293 (by decide +kernel) (by decide +kernel)⟩
theorem ky_X4_learn : kY yX4_learn cX4_learn 4 (some .int) 3 := ⟨tb_m 301 (by decide +kernel) (by decide +kernel), tb_m 52 (by decide +kernel) (by decide +kernel), by decide +kernel, by decide +kernel⟩
theorem ki_X4_learn : kI yX4_learn := ⟨tb_m 299 (by decide +kernel) (by decide +kernel), tb_m 300 (by decide +kernel) (by decide +kernel)⟩
theorem ky_X4_fade : kY yX4_fade cX4_fade 3 (some .int) 1 := ⟨tb_m 305 (by decide +kernel) (by decide +kernel), tb_m 52 (by decide +kernel) (by decide +kernel), by decide +kernel, by decide +kernel⟩
theorem ki_X4_fade : kI yX4_fade := ⟨tb_m 303 (by decide +kernel) (by decide +kernel), tb_m 304 (by decide +kernel) (by decide +kernel)⟩
theorem ky_X4_say : kY yX4_say cX4_say 2 (some .int) 1 := ⟨tb_m 309 (by decide +kernel) (by decide +kernel), tb_m 52 (by decide +kernel) (by decide +kernel), by decide +kernel, by decide +kernel⟩
theorem ki_X4_say : kI yX4_say := ⟨tb_m 307 (by decide +kernel) (by decide +kernel), tb_m 308 (by decide +kernel) (by decide +kernel)⟩
theorem ky_X4_wipe : kY yX4_wipe cX4_wipe 2 (some .int) 0 := ⟨tb_m 313 (by decide +kernel) (by decide +kernel), tb_m 52 (by decide +kernel) (by decide +kernel), by decide +kernel, by decide +kernel⟩
theorem ki_X4_wipe : kI yX4_wipe := ⟨tb_m 311 (by decide +kernel) (by decide +kernel), tb_m 312 (by decide +kernel) (by decide +kernel)⟩
theorem ky_X4_fault : kY yX4_fault cX4_fault 1 (some .int) 0 := ⟨tb_m 317 (by decide +kernel) (by decide +kernel), tb_m 52 (by decide +kernel) (by decide +kernel), by decide +kernel, by decide +kernel⟩
theorem ki_X4_fault : kI yX4_fault := ⟨tb_m 315 (by decide +kernel) (by decide +kernel), tb_m 316 (by decide +kernel) (by decide +kernel)⟩
theorem ky_X4_judge : kY yX4_judge cX4_judge 2 (some .int) 1 := ⟨tb_m 336 (by decide +kernel) (by decide +kernel), tb_m 52 (by decide +kernel) (by decide +kernel), by decide +kernel, by decide +kernel⟩
theorem ki_X4_judge : kI yX4_judge := ⟨tb_m 334 (by decide +kernel) (by decide +kernel), tb_m 335 (by decide +kernel) (by decide +kernel)⟩
theorem ky_X4_behind : kY yX4_behind cX4_behind 3 (some .int) 2 := ⟨tb_m 397 (by decide +kernel) (by decide +kernel), tb_m 52 (by decide +kernel) (by decide +kernel), by decide +kernel, by decide +kernel⟩
theorem ki_X4_behind : kI yX4_behind := ⟨tb_m 395 (by decide +kernel) (by decide +kernel), tb_m 396 (by decide +kernel) (by decide +kernel)⟩
theorem ky_X4_done : kY yX4_done cX4_done 1 (some .int) 0 := ⟨tb_m 402 (by decide +kernel) (by decide +kernel), tb_m 52 (by decide +kernel) (by decide +kernel), by decide +kernel, by decide +kernel⟩
theorem ki_X4_done : kI yX4_done := ⟨tb_m 400 (by decide +kernel) (by decide +kernel), tb_m 401 (by decide +kernel) (by decide +kernel)⟩
theorem ky_X4_heavy : kY yX4_heavy cX4_heavy 3 (some .int) 2 := ⟨tb_m 407 (by decide +kernel) (by decide +kernel), tb_m 52 (by decide +kernel) (by decide +kernel), by decide +kernel, by decide +kernel⟩
theorem ki_X4_heavy : kI yX4_heavy := ⟨tb_m 405 (by decide +kernel) (by decide +kernel), tb_m 406 (by decide +kernel) (by decide +kernel)⟩
theorem ky_X4_carries : kY yX4_carries cX4_carries 2 (some .int) 1 := ⟨tb_m 413 (by decide +kernel) (by decide +kernel), tb_m 52 (by decide +kernel) (by decide +kernel), by decide +kernel, by decide +kernel⟩
theorem ki_X4_carries : kI yX4_carries := ⟨tb_m 411 (by decide +kernel) (by decide +kernel), tb_m 412 (by decide +kernel) (by decide +kernel)⟩
theorem ky_X4_bent : kY yX4_bent cX4_bent 2 (some .int) 1 := ⟨tb_m 417 (by decide +kernel) (by decide +kernel), tb_m 52 (by decide +kernel) (by decide +kernel), by decide +kernel, by decide +kernel⟩
theorem ki_X4_bent : kI yX4_bent := ⟨tb_m 415 (by decide +kernel) (by decide +kernel), tb_m 416 (by decide +kernel) (by decide +kernel)⟩
theorem ky_X4_way : kY yX4_way cX4_way 6 (some .int) 3 := ⟨tb_m 421 (by decide +kernel) (by decide +kernel), tb_m 52 (by decide +kernel) (by decide +kernel), by decide +kernel, by decide +kernel⟩
theorem ki_X4_way : kI yX4_way := ⟨tb_m 419 (by decide +kernel) (by decide +kernel), tb_m 420 (by decide +kernel) (by decide +kernel)⟩
theorem ky_X4_left : kY yX4_left cX4_left 5 (some .int) 3 := ⟨tb_m 446 (by decide +kernel) (by decide +kernel), tb_m 52 (by decide +kernel) (by decide +kernel), by decide +kernel, by decide +kernel⟩
theorem ki_X4_left : kI yX4_left := ⟨tb_m 444 (by decide +kernel) (by decide +kernel), tb_m 445 (by decide +kernel) (by decide +kernel)⟩
theorem ky_X4_cried : kY yX4_cried cX4_cried 5 (some .int) 3 := ⟨tb_m 462 (by decide +kernel) (by decide +kernel), tb_m 52 (by decide +kernel) (by decide +kernel), by decide +kernel, by decide +kernel⟩
theorem ki_X4_cried : kI yX4_cried := ⟨tb_m 460 (by decide +kernel) (by decide +kernel), tb_m 461 (by decide +kernel) (by decide +kernel)⟩
theorem ky_X4_floated : kY yX4_floated cX4_floated 6 (some .int) 3 := ⟨tb_m 466 (by decide +kernel) (by decide +kernel), tb_m 52 (by decide +kernel) (by decide +kernel), by decide +kernel, by decide +kernel⟩
theorem ki_X4_floated : kI yX4_floated := ⟨tb_m 464 (by decide +kernel) (by decide +kernel), tb_m 465 (by decide +kernel) (by decide +kernel)⟩
theorem ky_X4_mended : kY yX4_mended cX4_mended 7 (some .int) 3 := ⟨tb_m 474 (by decide +kernel) (by decide +kernel), tb_m 52 (by decide +kernel) (by decide +kernel), by decide +kernel, by decide +kernel⟩
theorem ki_X4_mended : kI yX4_mended := ⟨tb_m 472 (by decide +kernel) (by decide +kernel), tb_m 473 (by decide +kernel) (by decide +kernel)⟩
theorem ky_X4_rumour : kY yX4_rumour cX4_rumour 4 (some .int) 1 := ⟨tb_m 482 (by decide +kernel) (by decide +kernel), tb_m 52 (by decide +kernel) (by decide +kernel), by decide +kernel, by decide +kernel⟩
theorem ki_X4_rumour : kI yX4_rumour := ⟨tb_m 480 (by decide +kernel) (by decide +kernel), tb_m 481 (by decide +kernel) (by decide +kernel)⟩
theorem ky_X4_errands : kY yX4_errands cX4_errands 4 (some .int) 3 := ⟨tb_m 504 (by decide +kernel) (by decide +kernel), tb_m 52 (by decide +kernel) (by decide +kernel), by decide +kernel, by decide +kernel⟩
theorem ki_X4_errands : kI yX4_errands := ⟨tb_m 502 (by decide +kernel) (by decide +kernel), tb_m 503 (by decide +kernel) (by decide +kernel)⟩
theorem ky_X4_two : kY yX4_two cX4_two 10 (some .int) 3 := ⟨tb_m 527 (by decide +kernel) (by decide +kernel), tb_m 52 (by decide +kernel) (by decide +kernel), by decide +kernel, by decide +kernel⟩
theorem ki_X4_two : kI yX4_two := ⟨tb_m 525 (by decide +kernel) (by decide +kernel), tb_m 526 (by decide +kernel) (by decide +kernel)⟩
theorem ky_X4_fee : kY yX4_fee cX4_fee 3 (some .int) 2 := ⟨tb_m 538 (by decide +kernel) (by decide +kernel), tb_m 52 (by decide +kernel) (by decide +kernel), by decide +kernel, by decide +kernel⟩
theorem ki_X4_fee : kI yX4_fee := ⟨tb_m 536 (by decide +kernel) (by decide +kernel), tb_m 537 (by decide +kernel) (by decide +kernel)⟩
theorem ky_X4_fees : kY yX4_fees cX4_fees 7 (some .int) 2 := ⟨tb_m 546 (by decide +kernel) (by decide +kernel), tb_m 52 (by decide +kernel) (by decide +kernel), by decide +kernel, by decide +kernel⟩
theorem ki_X4_fees : kI yX4_fees := ⟨tb_m 544 (by decide +kernel) (by decide +kernel), tb_m 545 (by decide +kernel) (by decide +kernel)⟩
theorem ky_X4_seen : kY yX4_seen cX4_seen 3 (some .int) 2 := ⟨tb_m 550 (by decide +kernel) (by decide +kernel), tb_m 52 (by decide +kernel) (by decide +kernel), by decide +kernel, by decide +kernel⟩
theorem ki_X4_seen : kI yX4_seen := ⟨tb_m 548 (by decide +kernel) (by decide +kernel), tb_m 549 (by decide +kernel) (by decide +kernel)⟩
theorem ky_X4_forget : kY yX4_forget cX4_forget 2 (some .int) 0 := ⟨tb_m 554 (by decide +kernel) (by decide +kernel), tb_m 52 (by decide +kernel) (by decide +kernel), by decide +kernel, by decide +kernel⟩
theorem ki_X4_forget : kI yX4_forget := ⟨tb_m 552 (by decide +kernel) (by decide +kernel), tb_m 553 (by decide +kernel) (by decide +kernel)⟩
theorem ky_X4_who : kY yX4_who cX4_who 2 (some .int) 1 := ⟨tb_m 558 (by decide +kernel) (by decide +kernel), tb_m 52 (by decide +kernel) (by decide +kernel), by decide +kernel, by decide +kernel⟩
theorem ki_X4_who : kI yX4_who := ⟨tb_m 556 (by decide +kernel) (by decide +kernel), tb_m 557 (by decide +kernel) (by decide +kernel)⟩
theorem ky_X4_fit : kY yX4_fit cX4_fit 4 (some .int) 0 := ⟨tb_m 566 (by decide +kernel) (by decide +kernel), tb_m 52 (by decide +kernel) (by decide +kernel), by decide +kernel, by decide +kernel⟩
theorem ki_X4_fit : kI yX4_fit := ⟨tb_m 564 (by decide +kernel) (by decide +kernel), tb_m 565 (by decide +kernel) (by decide +kernel)⟩
theorem ky_X4_chance : kY yX4_chance cX4_chance 12 (some .long) 4 := ⟨tb_m 574 (by decide +kernel) (by decide +kernel), tb_m 52 (by decide +kernel) (by decide +kernel), by decide +kernel, by decide +kernel⟩
theorem ki_X4_chance : kI yX4_chance := ⟨tb_m 572 (by decide +kernel) (by decide +kernel), tb_m 573 (by decide +kernel) (by decide +kernel)⟩
theorem ky_X4_year : kY yX4_year cX4_year 7 (some .int) 3 := ⟨tb_m 589 (by decide +kernel) (by decide +kernel), tb_m 52 (by decide +kernel) (by decide +kernel), by decide +kernel, by decide +kernel⟩
theorem ki_X4_year : kI yX4_year := ⟨tb_m 587 (by decide +kernel) (by decide +kernel), tb_m 588 (by decide +kernel) (by decide +kernel)⟩
theorem ky_X4_image : kY yX4_image cX4_image 2 (some .int) 1 := ⟨tb_m 605 (by decide +kernel) (by decide +kernel), tb_m 52 (by decide +kernel) (by decide +kernel), by decide +kernel, by decide +kernel⟩
theorem ki_X4_image : kI yX4_image := ⟨tb_m 603 (by decide +kernel) (by decide +kernel), tb_m 604 (by decide +kernel) (by decide +kernel)⟩
theorem ky_X4_restore : kY yX4_restore cX4_restore 2 (some .int) 1 := ⟨tb_m 609 (by decide +kernel) (by decide +kernel), tb_m 52 (by decide +kernel) (by decide +kernel), by decide +kernel, by decide +kernel⟩
theorem ki_X4_restore : kI yX4_restore := ⟨tb_m 607 (by decide +kernel) (by decide +kernel), tb_m 608 (by decide +kernel) (by decide +kernel)⟩
theorem ky_X4_told : kY yX4_told cX4_told 2 (some .int) 1 := ⟨tb_m 613 (by decide +kernel) (by decide +kernel), tb_m 52 (by decide +kernel) (by decide +kernel), by decide +kernel, by decide +kernel⟩
theorem ki_X4_told : kI yX4_told := ⟨tb_m 611 (by decide +kernel) (by decide +kernel), tb_m 612 (by decide +kernel) (by decide +kernel)⟩
theorem ky_X4_within : kY yX4_within cX4_within 3 (some .boolean) 3 := ⟨tb_m 245 (by decide +kernel) (by decide +kernel), tb_m 52 (by decide +kernel) (by decide +kernel), by decide +kernel, by decide +kernel⟩
theorem ks_X4_within : kS yX4_within := tb_m 244 (by decide +kernel) (by decide +kernel)
theorem ky_X4_has : kY yX4_has cX4_has 2 (some .boolean) 2 := ⟨tb_m 278 (by decide +kernel) (by decide +kernel), tb_m 52 (by decide +kernel) (by decide +kernel), by decide +kernel, by decide +kernel⟩
theorem ks_X4_has : kS yX4_has := tb_m 277 (by decide +kernel) (by decide +kernel)
theorem ky_X4_isNews : kY yX4_isNews cX4_isNews 1 (some .boolean) 1 := ⟨tb_m 297 (by decide +kernel) (by decide +kernel), tb_m 52 (by decide +kernel) (by decide +kernel), by decide +kernel, by decide +kernel⟩
theorem ks_X4_isNews : kS yX4_isNews := tb_m 296 (by decide +kernel) (by decide +kernel)
theorem ky_X4_refuseTrip : kY yX4_refuseTrip cX4_refuseTrip 4 (some .int) 3 := ⟨tb_m 450 (by decide +kernel) (by decide +kernel), tb_m 52 (by decide +kernel) (by decide +kernel), by decide +kernel, by decide +kernel⟩
theorem ki_X4_refuseTrip : kI yX4_refuseTrip := ⟨tb_m 449 (by decide +kernel) (by decide +kernel), tb_m 1 (by decide +kernel) (by decide +kernel)⟩
theorem ky_X4_countOrBits : kY yX4_countOrBits cX4_countOrBits 2 (some .int) 2 := ⟨tb_m 458 (by decide +kernel) (by decide +kernel), tb_m 52 (by decide +kernel) (by decide +kernel), by decide +kernel, by decide +kernel⟩
theorem ks_X4_countOrBits : kS yX4_countOrBits := tb_m 457 (by decide +kernel) (by decide +kernel)
theorem ky_X4_fewest : kY yX4_fewest cX4_fewest 8 (some .int) 3 := ⟨tb_m 454 (by decide +kernel) (by decide +kernel), tb_m 52 (by decide +kernel) (by decide +kernel), by decide +kernel, by decide +kernel⟩
theorem ki_X4_fewest : kI yX4_fewest := ⟨tb_m 453 (by decide +kernel) (by decide +kernel), tb_m 2 (by decide +kernel) (by decide +kernel)⟩
theorem ky_X4_weakestBridge : kY yX4_weakestBridge cX4_weakestBridge 8 (some .int) 3 := ⟨tb_m 478 (by decide +kernel) (by decide +kernel), tb_m 52 (by decide +kernel) (by decide +kernel), by decide +kernel, by decide +kernel⟩
theorem ki_X4_weakestBridge : kI yX4_weakestBridge := ⟨tb_m 477 (by decide +kernel) (by decide +kernel), tb_m 3 (by decide +kernel) (by decide +kernel)⟩
theorem ky_X4_arrivers : kY yX4_arrivers cX4_arrivers 6 (some .int) 2 := ⟨tb_m 534 (by decide +kernel) (by decide +kernel), tb_m 52 (by decide +kernel) (by decide +kernel), by decide +kernel, by decide +kernel⟩
theorem ki_X4_arrivers : kI yX4_arrivers := ⟨tb_m 533 (by decide +kernel) (by decide +kernel), tb_m 4 (by decide +kernel) (by decide +kernel)⟩
theorem ky_X4_feeOf : kY yX4_feeOf cX4_feeOf 5 (some .int) 2 := ⟨tb_m 542 (by decide +kernel) (by decide +kernel), tb_m 52 (by decide +kernel) (by decide +kernel), by decide +kernel, by decide +kernel⟩
theorem ki_X4_feeOf : kI yX4_feeOf := ⟨tb_m 541 (by decide +kernel) (by decide +kernel), tb_m 5 (by decide +kernel) (by decide +kernel)⟩
theorem ky_X4_tellBridge : kY yX4_tellBridge cX4_tellBridge 3 (some .int) 2 := ⟨tb_m 621 (by decide +kernel) (by decide +kernel), tb_m 52 (by decide +kernel) (by decide +kernel), by decide +kernel, by decide +kernel⟩
theorem ki_X4_tellBridge : kI yX4_tellBridge := ⟨tb_m 620 (by decide +kernel) (by decide +kernel), tb_m 7 (by decide +kernel) (by decide +kernel)⟩
theorem ky_X4_tellPerson : kY yX4_tellPerson cX4_tellPerson 3 (some .int) 2 := ⟨tb_m 617 (by decide +kernel) (by decide +kernel), tb_m 52 (by decide +kernel) (by decide +kernel), by decide +kernel, by decide +kernel⟩
theorem ki_X4_tellPerson : kI yX4_tellPerson := ⟨tb_m 616 (by decide +kernel) (by decide +kernel), tb_m 6 (by decide +kernel) (by decide +kernel)⟩
theorem ky_X4_power : kY yX4_power cX4_power 5 (some .long) 2 := ⟨tb_m 579 (by decide +kernel) (by decide +kernel), tb_m 52 (by decide +kernel) (by decide +kernel), by decide +kernel, by decide +kernel⟩
theorem ks_X4_power : kS yX4_power := tb_m 578 (by decide +kernel) (by decide +kernel)
theorem ky_X4_commonDivisor : kY yX4_commonDivisor cX4_commonDivisor 11 (some .long) 2 := ⟨tb_m 582 (by decide +kernel) (by decide +kernel), tb_m 52 (by decide +kernel) (by decide +kernel), by decide +kernel, by decide +kernel⟩
theorem ks_X4_commonDivisor : kS yX4_commonDivisor := tb_m 581 (by decide +kernel) (by decide +kernel)
theorem ky_X4_findOrder : kY yX4_findOrder cX4_findOrder 6 (some .boolean) 4 := ⟨tb_m 513 (by decide +kernel) (by decide +kernel), tb_m 52 (by decide +kernel) (by decide +kernel), by decide +kernel, by decide +kernel⟩
theorem ks_X4_findOrder : kS yX4_findOrder := tb_m 512 (by decide +kernel) (by decide +kernel)
theorem ky_X5_init : kY yX5_init cX5_init 1 none 0 := ⟨tb_m 626 (by decide +kernel) (by decide +kernel), tb_m 58 (by decide +kernel) (by decide +kernel), by decide +kernel, by decide +kernel⟩
theorem kn_X5_init : kN yX5_init := ⟨tb_m 625 (by decide +kernel) (by decide +kernel), rfl⟩
theorem ky_X5_in : kY yX5_in cX5_in 6 (some .boolean) 3 := ⟨tb_m 783 (by decide +kernel) (by decide +kernel), tb_m 58 (by decide +kernel) (by decide +kernel), by decide +kernel, by decide +kernel⟩
theorem ks_X5_in : kS yX5_in := tb_m 782 (by decide +kernel) (by decide +kernel)
theorem ky_X5_ones : kY yX5_ones cX5_ones 3 (some .int) 1 := ⟨tb_m 796 (by decide +kernel) (by decide +kernel), tb_m 58 (by decide +kernel) (by decide +kernel), by decide +kernel, by decide +kernel⟩
theorem ks_X5_ones : kS yX5_ones := tb_m 795 (by decide +kernel) (by decide +kernel)
theorem ky_X5_begin : kY yX5_begin cX5_begin 3 none 1 := ⟨tb_m 631 (by decide +kernel) (by decide +kernel), tb_m 58 (by decide +kernel) (by decide +kernel), by decide +kernel, by decide +kernel⟩
theorem ki_X5_begin : kI yX5_begin := ⟨tb_m 630 (by decide +kernel) (by decide +kernel), tb_m 8 (by decide +kernel) (by decide +kernel)⟩
theorem ky_X5_isTerrace : kY yX5_isTerrace cX5_isTerrace 2 (some .boolean) 1 := ⟨tb_m 792 (by decide +kernel) (by decide +kernel), tb_m 58 (by decide +kernel) (by decide +kernel), by decide +kernel, by decide +kernel⟩
theorem ki_X5_isTerrace : kI yX5_isTerrace := ⟨tb_m 791 (by decide +kernel) (by decide +kernel), tb_m 9 (by decide +kernel) (by decide +kernel)⟩
theorem ky_X5_isBridge : kY yX5_isBridge cX5_isBridge 2 (some .boolean) 1 := ⟨tb_m 804 (by decide +kernel) (by decide +kernel), tb_m 58 (by decide +kernel) (by decide +kernel), by decide +kernel, by decide +kernel⟩
theorem ki_X5_isBridge : kI yX5_isBridge := ⟨tb_m 803 (by decide +kernel) (by decide +kernel), tb_m 10 (by decide +kernel) (by decide +kernel)⟩
theorem ky_X5_isThere : kY yX5_isThere cX5_isThere 2 (some .boolean) 1 := ⟨tb_m 817 (by decide +kernel) (by decide +kernel), tb_m 58 (by decide +kernel) (by decide +kernel), by decide +kernel, by decide +kernel⟩
theorem ki_X5_isThere : kI yX5_isThere := ⟨tb_m 816 (by decide +kernel) (by decide +kernel), tb_m 11 (by decide +kernel) (by decide +kernel)⟩
theorem ky_X5_isNews : kY yX5_isNews cX5_isNews 1 (some .boolean) 1 := ⟨tb_m 824 (by decide +kernel) (by decide +kernel), tb_m 58 (by decide +kernel) (by decide +kernel), by decide +kernel, by decide +kernel⟩
theorem ks_X5_isNews : kS yX5_isNews := tb_m 823 (by decide +kernel) (by decide +kernel)
theorem ky_X5_terraces : kY yX5_terraces cX5_terraces 3 (some .int) 1 := ⟨tb_m 778 (by decide +kernel) (by decide +kernel), tb_m 58 (by decide +kernel) (by decide +kernel), by decide +kernel, by decide +kernel⟩
theorem ki_X5_terraces : kI yX5_terraces := ⟨tb_m 776 (by decide +kernel) (by decide +kernel), tb_m 777 (by decide +kernel) (by decide +kernel)⟩
theorem ky_X5_bridge : kY yX5_bridge cX5_bridge 5 (some .int) 4 := ⟨tb_m 787 (by decide +kernel) (by decide +kernel), tb_m 58 (by decide +kernel) (by decide +kernel), by decide +kernel, by decide +kernel⟩
theorem ki_X5_bridge : kI yX5_bridge := ⟨tb_m 785 (by decide +kernel) (by decide +kernel), tb_m 786 (by decide +kernel) (by decide +kernel)⟩
theorem ky_X5_fall : kY yX5_fall cX5_fall 2 (some .int) 1 := ⟨tb_m 800 (by decide +kernel) (by decide +kernel), tb_m 58 (by decide +kernel) (by decide +kernel), by decide +kernel, by decide +kernel⟩
theorem ki_X5_fall : kI yX5_fall := ⟨tb_m 798 (by decide +kernel) (by decide +kernel), tb_m 799 (by decide +kernel) (by decide +kernel)⟩
theorem ky_X5_person : kY yX5_person cX5_person 4 (some .int) 3 := ⟨tb_m 808 (by decide +kernel) (by decide +kernel), tb_m 58 (by decide +kernel) (by decide +kernel), by decide +kernel, by decide +kernel⟩
theorem ki_X5_person : kI yX5_person := ⟨tb_m 806 (by decide +kernel) (by decide +kernel), tb_m 807 (by decide +kernel) (by decide +kernel)⟩
theorem ky_X5_leave : kY yX5_leave cX5_leave 2 (some .int) 1 := ⟨tb_m 813 (by decide +kernel) (by decide +kernel), tb_m 58 (by decide +kernel) (by decide +kernel), by decide +kernel, by decide +kernel⟩
theorem ki_X5_leave : kI yX5_leave := ⟨tb_m 811 (by decide +kernel) (by decide +kernel), tb_m 812 (by decide +kernel) (by decide +kernel)⟩
theorem ky_X5_news : kY yX5_news cX5_news 5 (some .int) 3 := ⟨tb_m 821 (by decide +kernel) (by decide +kernel), tb_m 58 (by decide +kernel) (by decide +kernel), by decide +kernel, by decide +kernel⟩
theorem ki_X5_news : kI yX5_news := ⟨tb_m 819 (by decide +kernel) (by decide +kernel), tb_m 820 (by decide +kernel) (by decide +kernel)⟩
theorem ky_X5_learn : kY yX5_learn cX5_learn 5 (some .int) 3 := ⟨tb_m 830 (by decide +kernel) (by decide +kernel), tb_m 58 (by decide +kernel) (by decide +kernel), by decide +kernel, by decide +kernel⟩
theorem ki_X5_learn : kI yX5_learn := ⟨tb_m 828 (by decide +kernel) (by decide +kernel), tb_m 829 (by decide +kernel) (by decide +kernel)⟩
theorem ky_X5_fade : kY yX5_fade cX5_fade 3 (some .int) 1 := ⟨tb_m 834 (by decide +kernel) (by decide +kernel), tb_m 58 (by decide +kernel) (by decide +kernel), by decide +kernel, by decide +kernel⟩
theorem ki_X5_fade : kI yX5_fade := ⟨tb_m 832 (by decide +kernel) (by decide +kernel), tb_m 833 (by decide +kernel) (by decide +kernel)⟩
theorem ky_X5_say : kY yX5_say cX5_say 2 (some .int) 1 := ⟨tb_m 839 (by decide +kernel) (by decide +kernel), tb_m 58 (by decide +kernel) (by decide +kernel), by decide +kernel, by decide +kernel⟩
theorem ki_X5_say : kI yX5_say := ⟨tb_m 837 (by decide +kernel) (by decide +kernel), tb_m 838 (by decide +kernel) (by decide +kernel)⟩
theorem ky_X5_wipe : kY yX5_wipe cX5_wipe 2 (some .int) 0 := ⟨tb_m 845 (by decide +kernel) (by decide +kernel), tb_m 58 (by decide +kernel) (by decide +kernel), by decide +kernel, by decide +kernel⟩
theorem ki_X5_wipe : kI yX5_wipe := ⟨tb_m 843 (by decide +kernel) (by decide +kernel), tb_m 844 (by decide +kernel) (by decide +kernel)⟩
theorem ky_X5_isName : kY yX5_isName cX5_isName 1 (some .boolean) 1 := ⟨tb_m 856 (by decide +kernel) (by decide +kernel), tb_m 58 (by decide +kernel) (by decide +kernel), by decide +kernel, by decide +kernel⟩
theorem ks_X5_isName : kS yX5_isName := tb_m 855 (by decide +kernel) (by decide +kernel)
theorem ky_X5_isLetter : kY yX5_isLetter cX5_isLetter 1 (some .boolean) 1 := ⟨tb_m 871 (by decide +kernel) (by decide +kernel), tb_m 58 (by decide +kernel) (by decide +kernel), by decide +kernel, by decide +kernel⟩
theorem ks_X5_isLetter : kS yX5_isLetter := tb_m 870 (by decide +kernel) (by decide +kernel)
theorem ky_X5_readFirst : kY yX5_readFirst cX5_readFirst 2 (some .boolean) 1 := ⟨tb_m 853 (by decide +kernel) (by decide +kernel), tb_m 58 (by decide +kernel) (by decide +kernel), by decide +kernel, by decide +kernel⟩
theorem ki_X5_readFirst : kI yX5_readFirst := ⟨tb_m 852 (by decide +kernel) (by decide +kernel), tb_m 12 (by decide +kernel) (by decide +kernel)⟩
theorem ky_X5_readSecond : kY yX5_readSecond cX5_readSecond 3 (some .boolean) 1 := ⟨tb_m 862 (by decide +kernel) (by decide +kernel), tb_m 58 (by decide +kernel) (by decide +kernel), by decide +kernel, by decide +kernel⟩
theorem ki_X5_readSecond : kI yX5_readSecond := ⟨tb_m 861 (by decide +kernel) (by decide +kernel), tb_m 13 (by decide +kernel) (by decide +kernel)⟩
theorem ky_X5_readNews : kY yX5_readNews cX5_readNews 2 (some .boolean) 1 := ⟨tb_m 868 (by decide +kernel) (by decide +kernel), tb_m 58 (by decide +kernel) (by decide +kernel), by decide +kernel, by decide +kernel⟩
theorem ki_X5_readNews : kI yX5_readNews := ⟨tb_m 867 (by decide +kernel) (by decide +kernel), tb_m 14 (by decide +kernel) (by decide +kernel)⟩
theorem ky_X5_fault : kY yX5_fault cX5_fault 3 (some .int) 0 := ⟨tb_m 849 (by decide +kernel) (by decide +kernel), tb_m 58 (by decide +kernel) (by decide +kernel), by decide +kernel, by decide +kernel⟩
theorem ki_X5_fault : kI yX5_fault := ⟨tb_m 847 (by decide +kernel) (by decide +kernel), tb_m 848 (by decide +kernel) (by decide +kernel)⟩
theorem ky_X5_knowers : kY yX5_knowers cX5_knowers 4 (some .int) 1 := ⟨tb_m 881 (by decide +kernel) (by decide +kernel), tb_m 58 (by decide +kernel) (by decide +kernel), by decide +kernel, by decide +kernel⟩
theorem ki_X5_knowers : kI yX5_knowers := ⟨tb_m 880 (by decide +kernel) (by decide +kernel), tb_m 15 (by decide +kernel) (by decide +kernel)⟩
theorem ky_X5_heavyBy : kY yX5_heavyBy cX5_heavyBy 5 (some .int) 3 := ⟨tb_m 885 (by decide +kernel) (by decide +kernel), tb_m 58 (by decide +kernel) (by decide +kernel), by decide +kernel, by decide +kernel⟩
theorem ki_X5_heavyBy : kI yX5_heavyBy := ⟨tb_m 884 (by decide +kernel) (by decide +kernel), tb_m 16 (by decide +kernel) (by decide +kernel)⟩
theorem ky_X5_sumOf : kY yX5_sumOf cX5_sumOf 5 (some .int) 2 := ⟨tb_m 897 (by decide +kernel) (by decide +kernel), tb_m 58 (by decide +kernel) (by decide +kernel), by decide +kernel, by decide +kernel⟩
theorem ki_X5_sumOf : kI yX5_sumOf := ⟨tb_m 896 (by decide +kernel) (by decide +kernel), tb_m 18 (by decide +kernel) (by decide +kernel)⟩
theorem ky_X5_carriedBy : kY yX5_carriedBy cX5_carriedBy 3 (some .int) 1 := ⟨tb_m 893 (by decide +kernel) (by decide +kernel), tb_m 58 (by decide +kernel) (by decide +kernel), by decide +kernel, by decide +kernel⟩
theorem ki_X5_carriedBy : kI yX5_carriedBy := ⟨tb_m 892 (by decide +kernel) (by decide +kernel), tb_m 17 (by decide +kernel) (by decide +kernel)⟩
theorem ky_X5_passNight : kY yX5_passNight cX5_passNight 3 none 0 := ⟨tb_m 935 (by decide +kernel) (by decide +kernel), tb_m 58 (by decide +kernel) (by decide +kernel), by decide +kernel, by decide +kernel⟩
theorem ki_X5_passNight : kI yX5_passNight := ⟨tb_m 934 (by decide +kernel) (by decide +kernel), tb_m 25 (by decide +kernel) (by decide +kernel)⟩
theorem ky_X5_heavy : kY yX5_heavy cX5_heavy 3 (some .int) 2 := ⟨tb_m 877 (by decide +kernel) (by decide +kernel), tb_m 58 (by decide +kernel) (by decide +kernel), by decide +kernel, by decide +kernel⟩
theorem ki_X5_heavy : kI yX5_heavy := ⟨tb_m 875 (by decide +kernel) (by decide +kernel), tb_m 876 (by decide +kernel) (by decide +kernel)⟩
theorem ky_X5_carries : kY yX5_carries cX5_carries 2 (some .int) 1 := ⟨tb_m 889 (by decide +kernel) (by decide +kernel), tb_m 58 (by decide +kernel) (by decide +kernel), by decide +kernel, by decide +kernel⟩
theorem ki_X5_carries : kI yX5_carries := ⟨tb_m 887 (by decide +kernel) (by decide +kernel), tb_m 888 (by decide +kernel) (by decide +kernel)⟩
theorem ky_X5_bent : kY yX5_bent cX5_bent 2 (some .int) 1 := ⟨tb_m 901 (by decide +kernel) (by decide +kernel), tb_m 58 (by decide +kernel) (by decide +kernel), by decide +kernel, by decide +kernel⟩
theorem ki_X5_bent : kI yX5_bent := ⟨tb_m 899 (by decide +kernel) (by decide +kernel), tb_m 900 (by decide +kernel) (by decide +kernel)⟩
theorem ky_X5_tell : kY yX5_tell cX5_tell 4 (some .int) 3 := ⟨tb_m 923 (by decide +kernel) (by decide +kernel), tb_m 58 (by decide +kernel) (by decide +kernel), by decide +kernel, by decide +kernel⟩
theorem ki_X5_tell : kI yX5_tell := ⟨tb_m 922 (by decide +kernel) (by decide +kernel), tb_m 22 (by decide +kernel) (by decide +kernel)⟩
theorem ky_X5_cross : kY yX5_cross cX5_cross 4 (some .int) 2 := ⟨tb_m 927 (by decide +kernel) (by decide +kernel), tb_m 58 (by decide +kernel) (by decide +kernel), by decide +kernel, by decide +kernel⟩
theorem ki_X5_cross : kI yX5_cross := ⟨tb_m 926 (by decide +kernel) (by decide +kernel), tb_m 23 (by decide +kernel) (by decide +kernel)⟩
theorem ky_X5_publish : kY yX5_publish cX5_publish 2 (some .int) 1 := ⟨tb_m 931 (by decide +kernel) (by decide +kernel), tb_m 58 (by decide +kernel) (by decide +kernel), by decide +kernel, by decide +kernel⟩
theorem ki_X5_publish : kI yX5_publish := ⟨tb_m 930 (by decide +kernel) (by decide +kernel), tb_m 24 (by decide +kernel) (by decide +kernel)⟩
theorem ky_X5_happen : kY yX5_happen cX5_happen 2 (some .int) 1 := ⟨tb_m 919 (by decide +kernel) (by decide +kernel), tb_m 58 (by decide +kernel) (by decide +kernel), by decide +kernel, by decide +kernel⟩
theorem ki_X5_happen : kI yX5_happen := ⟨tb_m 918 (by decide +kernel) (by decide +kernel), tb_m 21 (by decide +kernel) (by decide +kernel)⟩
theorem ky_X5_keepNow : kY yX5_keepNow cX5_keepNow 2 none 0 := ⟨tb_m 911 (by decide +kernel) (by decide +kernel), tb_m 58 (by decide +kernel) (by decide +kernel), by decide +kernel, by decide +kernel⟩
theorem ki_X5_keepNow : kI yX5_keepNow := ⟨tb_m 910 (by decide +kernel) (by decide +kernel), tb_m 19 (by decide +kernel) (by decide +kernel)⟩
theorem ky_X5_putBack : kY yX5_putBack cX5_putBack 2 none 0 := ⟨tb_m 939 (by decide +kernel) (by decide +kernel), tb_m 58 (by decide +kernel) (by decide +kernel), by decide +kernel, by decide +kernel⟩
theorem ki_X5_putBack : kI yX5_putBack := ⟨tb_m 938 (by decide +kernel) (by decide +kernel), tb_m 26 (by decide +kernel) (by decide +kernel)⟩
theorem ky_X5_goDay : kY yX5_goDay cX5_goDay 3 none 0 := ⟨tb_m 915 (by decide +kernel) (by decide +kernel), tb_m 58 (by decide +kernel) (by decide +kernel), by decide +kernel, by decide +kernel⟩
theorem ki_X5_goDay : kI yX5_goDay := ⟨tb_m 914 (by decide +kernel) (by decide +kernel), tb_m 20 (by decide +kernel) (by decide +kernel)⟩
theorem ky_X5_judge : kY yX5_judge cX5_judge 2 (some .int) 1 := ⟨tb_m 905 (by decide +kernel) (by decide +kernel), tb_m 58 (by decide +kernel) (by decide +kernel), by decide +kernel, by decide +kernel⟩
theorem ki_X5_judge : kI yX5_judge := ⟨tb_m 903 (by decide +kernel) (by decide +kernel), tb_m 904 (by decide +kernel) (by decide +kernel)⟩
theorem ky_X5_behind : kY yX5_behind cX5_behind 4 (some .int) 2 := ⟨tb_m 943 (by decide +kernel) (by decide +kernel), tb_m 58 (by decide +kernel) (by decide +kernel), by decide +kernel, by decide +kernel⟩
theorem ki_X5_behind : kI yX5_behind := ⟨tb_m 941 (by decide +kernel) (by decide +kernel), tb_m 942 (by decide +kernel) (by decide +kernel)⟩
theorem ky_X5_done : kY yX5_done cX5_done 1 (some .int) 0 := ⟨tb_m 947 (by decide +kernel) (by decide +kernel), tb_m 58 (by decide +kernel) (by decide +kernel), by decide +kernel, by decide +kernel⟩
theorem ki_X5_done : kI yX5_done := ⟨tb_m 945 (by decide +kernel) (by decide +kernel), tb_m 946 (by decide +kernel) (by decide +kernel)⟩
theorem ky_X5_bearing : kY yX5_bearing cX5_bearing 4 (some .int) 1 := ⟨tb_m 959 (by decide +kernel) (by decide +kernel), tb_m 58 (by decide +kernel) (by decide +kernel), by decide +kernel, by decide +kernel⟩
theorem ki_X5_bearing : kI yX5_bearing := ⟨tb_m 958 (by decide +kernel) (by decide +kernel), tb_m 28 (by decide +kernel) (by decide +kernel)⟩
theorem ky_X5_findFar : kY yX5_findFar cX5_findFar 7 none 2 := ⟨tb_m 963 (by decide +kernel) (by decide +kernel), tb_m 58 (by decide +kernel) (by decide +kernel), by decide +kernel, by decide +kernel⟩
theorem ki_X5_findFar : kI yX5_findFar := ⟨tb_m 962 (by decide +kernel) (by decide +kernel), tb_m 29 (by decide +kernel) (by decide +kernel)⟩
theorem ky_X5_farBy : kY yX5_farBy cX5_farBy 4 (some .int) 3 := ⟨tb_m 982 (by decide +kernel) (by decide +kernel), tb_m 58 (by decide +kernel) (by decide +kernel), by decide +kernel, by decide +kernel⟩
theorem ki_X5_farBy : kI yX5_farBy := ⟨tb_m 981 (by decide +kernel) (by decide +kernel), tb_m 32 (by decide +kernel) (by decide +kernel)⟩
theorem ky_X5_hasWay : kY yX5_hasWay cX5_hasWay 4 (some .boolean) 3 := ⟨tb_m 978 (by decide +kernel) (by decide +kernel), tb_m 58 (by decide +kernel) (by decide +kernel), by decide +kernel, by decide +kernel⟩
theorem ki_X5_hasWay : kI yX5_hasWay := ⟨tb_m 977 (by decide +kernel) (by decide +kernel), tb_m 31 (by decide +kernel) (by decide +kernel)⟩
theorem ky_X5_isAsked : kY yX5_isAsked cX5_isAsked 3 (some .boolean) 2 := ⟨tb_m 955 (by decide +kernel) (by decide +kernel), tb_m 58 (by decide +kernel) (by decide +kernel), by decide +kernel, by decide +kernel⟩
theorem ki_X5_isAsked : kI yX5_isAsked := ⟨tb_m 954 (by decide +kernel) (by decide +kernel), tb_m 27 (by decide +kernel) (by decide +kernel)⟩
theorem ky_X5_way : kY yX5_way cX5_way 10 (some .int) 3 := ⟨tb_m 951 (by decide +kernel) (by decide +kernel), tb_m 58 (by decide +kernel) (by decide +kernel), by decide +kernel, by decide +kernel⟩
theorem ki_X5_way : kI yX5_way := ⟨tb_m 949 (by decide +kernel) (by decide +kernel), tb_m 950 (by decide +kernel) (by decide +kernel)⟩
theorem ky_X5_leadsOn : kY yX5_leadsOn cX5_leadsOn 5 (some .boolean) 3 := ⟨tb_m 967 (by decide +kernel) (by decide +kernel), tb_m 58 (by decide +kernel) (by decide +kernel), by decide +kernel, by decide +kernel⟩
theorem ki_X5_leadsOn : kI yX5_leadsOn := ⟨tb_m 966 (by decide +kernel) (by decide +kernel), tb_m 30 (by decide +kernel) (by decide +kernel)⟩
theorem ky_X5_offerSet : kY yX5_offerSet cX5_offerSet 4 none 2 := ⟨tb_m 986 (by decide +kernel) (by decide +kernel), tb_m 58 (by decide +kernel) (by decide +kernel), by decide +kernel, by decide +kernel⟩
theorem ki_X5_offerSet : kI yX5_offerSet := ⟨tb_m 985 (by decide +kernel) (by decide +kernel), tb_m 33 (by decide +kernel) (by decide +kernel)⟩
theorem ky_X5_tellSet : kY yX5_tellSet cX5_tellSet 2 (some .int) 1 := ⟨tb_m 990 (by decide +kernel) (by decide +kernel), tb_m 58 (by decide +kernel) (by decide +kernel), by decide +kernel, by decide +kernel⟩
theorem ki_X5_tellSet : kI yX5_tellSet := ⟨tb_m 989 (by decide +kernel) (by decide +kernel), tb_m 34 (by decide +kernel) (by decide +kernel)⟩
theorem ky_X5_least0 : kY yX5_least0 cX5_least0 1 (some .int) 1 := ⟨tb_m 974 (by decide +kernel) (by decide +kernel), tb_m 58 (by decide +kernel) (by decide +kernel), by decide +kernel, by decide +kernel⟩
theorem ks_X5_least0 : kS yX5_least0 := tb_m 973 (by decide +kernel) (by decide +kernel)
theorem ky_X5_left : kY yX5_left cX5_left 5 (some .int) 3 := ⟨tb_m 971 (by decide +kernel) (by decide +kernel), tb_m 58 (by decide +kernel) (by decide +kernel), by decide +kernel, by decide +kernel⟩
theorem ki_X5_left : kI yX5_left := ⟨tb_m 969 (by decide +kernel) (by decide +kernel), tb_m 970 (by decide +kernel) (by decide +kernel)⟩
theorem ky_X5_cried : kY yX5_cried cX5_cried 6 (some .int) 3 := ⟨tb_m 994 (by decide +kernel) (by decide +kernel), tb_m 58 (by decide +kernel) (by decide +kernel), by decide +kernel, by decide +kernel⟩
theorem ki_X5_cried : kI yX5_cried := ⟨tb_m 992 (by decide +kernel) (by decide +kernel), tb_m 993 (by decide +kernel) (by decide +kernel)⟩
theorem ky_X5_lies : kY yX5_lies cX5_lies 5 (some .int) 1 := ⟨tb_m 1002 (by decide +kernel) (by decide +kernel), tb_m 58 (by decide +kernel) (by decide +kernel), by decide +kernel, by decide +kernel⟩
theorem ki_X5_lies : kI yX5_lies := ⟨tb_m 1001 (by decide +kernel) (by decide +kernel), tb_m 35 (by decide +kernel) (by decide +kernel)⟩
theorem ky_X5_floatedBy : kY yX5_floatedBy cX5_floatedBy 5 (some .int) 2 := ⟨tb_m 1006 (by decide +kernel) (by decide +kernel), tb_m 58 (by decide +kernel) (by decide +kernel), by decide +kernel, by decide +kernel⟩
theorem ki_X5_floatedBy : kI yX5_floatedBy := ⟨tb_m 1005 (by decide +kernel) (by decide +kernel), tb_m 36 (by decide +kernel) (by decide +kernel)⟩
theorem ky_X5_floated : kY yX5_floated cX5_floated 6 (some .int) 3 := ⟨tb_m 998 (by decide +kernel) (by decide +kernel), tb_m 58 (by decide +kernel) (by decide +kernel), by decide +kernel, by decide +kernel⟩
theorem ki_X5_floated : kI yX5_floated := ⟨tb_m 996 (by decide +kernel) (by decide +kernel), tb_m 997 (by decide +kernel) (by decide +kernel)⟩
theorem ky_X5_mended : kY yX5_mended cX5_mended 10 (some .int) 3 := ⟨tb_m 1010 (by decide +kernel) (by decide +kernel), tb_m 58 (by decide +kernel) (by decide +kernel), by decide +kernel, by decide +kernel⟩
theorem ki_X5_mended : kI yX5_mended := ⟨tb_m 1008 (by decide +kernel) (by decide +kernel), tb_m 1009 (by decide +kernel) (by decide +kernel)⟩
theorem ky_X5_reachedBy : kY yX5_reachedBy cX5_reachedBy 7 (some .int) 1 := ⟨tb_m 1023 (by decide +kernel) (by decide +kernel), tb_m 58 (by decide +kernel) (by decide +kernel), by decide +kernel, by decide +kernel⟩
theorem ki_X5_reachedBy : kI yX5_reachedBy := ⟨tb_m 1022 (by decide +kernel) (by decide +kernel), tb_m 38 (by decide +kernel) (by decide +kernel)⟩
theorem ky_X5_knowersOf : kY yX5_knowersOf cX5_knowersOf 4 (some .int) 1 := ⟨tb_m 1019 (by decide +kernel) (by decide +kernel), tb_m 58 (by decide +kernel) (by decide +kernel), by decide +kernel, by decide +kernel⟩
theorem ki_X5_knowersOf : kI yX5_knowersOf := ⟨tb_m 1018 (by decide +kernel) (by decide +kernel), tb_m 37 (by decide +kernel) (by decide +kernel)⟩
theorem ky_X5_rumour : kY yX5_rumour cX5_rumour 6 (some .int) 1 := ⟨tb_m 1015 (by decide +kernel) (by decide +kernel), tb_m 58 (by decide +kernel) (by decide +kernel), by decide +kernel, by decide +kernel⟩
theorem ki_X5_rumour : kI yX5_rumour := ⟨tb_m 1013 (by decide +kernel) (by decide +kernel), tb_m 1014 (by decide +kernel) (by decide +kernel)⟩
theorem ky_X5_tens : kY yX5_tens cX5_tens 3 (some .int) 1 := ⟨tb_m 1035 (by decide +kernel) (by decide +kernel), tb_m 58 (by decide +kernel) (by decide +kernel), by decide +kernel, by decide +kernel⟩
theorem ks_X5_tens : kS yX5_tens := tb_m 1034 (by decide +kernel) (by decide +kernel)
theorem ky_X5_layErrands : kY yX5_layErrands cX5_layErrands 7 (some .boolean) 2 := ⟨tb_m 1032 (by decide +kernel) (by decide +kernel), tb_m 58 (by decide +kernel) (by decide +kernel), by decide +kernel, by decide +kernel⟩
theorem ki_X5_layErrands : kI yX5_layErrands := ⟨tb_m 1031 (by decide +kernel) (by decide +kernel), tb_m 39 (by decide +kernel) (by decide +kernel)⟩
theorem ky_X5_goesErrand : kY yX5_goesErrand cX5_goesErrand 4 (some .boolean) 2 := ⟨tb_m 1047 (by decide +kernel) (by decide +kernel), tb_m 58 (by decide +kernel) (by decide +kernel), by decide +kernel, by decide +kernel⟩
theorem ki_X5_goesErrand : kI yX5_goesErrand := ⟨tb_m 1046 (by decide +kernel) (by decide +kernel), tb_m 42 (by decide +kernel) (by decide +kernel)⟩
theorem ky_X5_layRow : kY yX5_layRow cX5_layRow 5 (some .boolean) 1 := ⟨tb_m 1039 (by decide +kernel) (by decide +kernel), tb_m 58 (by decide +kernel) (by decide +kernel), by decide +kernel, by decide +kernel⟩
theorem ki_X5_layRow : kI yX5_layRow := ⟨tb_m 1038 (by decide +kernel) (by decide +kernel), tb_m 40 (by decide +kernel) (by decide +kernel)⟩
theorem ky_X5_canAll : kY yX5_canAll cX5_canAll 3 (some .boolean) 0 := ⟨tb_m 1043 (by decide +kernel) (by decide +kernel), tb_m 58 (by decide +kernel) (by decide +kernel), by decide +kernel, by decide +kernel⟩
theorem ki_X5_canAll : kI yX5_canAll := ⟨tb_m 1042 (by decide +kernel) (by decide +kernel), tb_m 41 (by decide +kernel) (by decide +kernel)⟩
theorem ky_X5_errands : kY yX5_errands cX5_errands 6 (some .int) 3 := ⟨tb_m 1027 (by decide +kernel) (by decide +kernel), tb_m 58 (by decide +kernel) (by decide +kernel), by decide +kernel, by decide +kernel⟩
theorem ki_X5_errands : kI yX5_errands := ⟨tb_m 1025 (by decide +kernel) (by decide +kernel), tb_m 1026 (by decide +kernel) (by decide +kernel)⟩
theorem ky_X5_half : kY yX5_half cX5_half 1 (some .int) 1 := ⟨tb_m 1054 (by decide +kernel) (by decide +kernel), tb_m 58 (by decide +kernel) (by decide +kernel), by decide +kernel, by decide +kernel⟩
theorem ks_X5_half : kS yX5_half := tb_m 1053 (by decide +kernel) (by decide +kernel)
theorem ky_X5_canBear : kY yX5_canBear cX5_canBear 4 (some .boolean) 3 := ⟨tb_m 1058 (by decide +kernel) (by decide +kernel), tb_m 58 (by decide +kernel) (by decide +kernel), by decide +kernel, by decide +kernel⟩
theorem ki_X5_canBear : kI yX5_canBear := ⟨tb_m 1057 (by decide +kernel) (by decide +kernel), tb_m 43 (by decide +kernel) (by decide +kernel)⟩
theorem ky_X5_two : kY yX5_two cX5_two 8 (some .int) 3 := ⟨tb_m 1051 (by decide +kernel) (by decide +kernel), tb_m 58 (by decide +kernel) (by decide +kernel), by decide +kernel, by decide +kernel⟩
theorem ki_X5_two : kI yX5_two := ⟨tb_m 1049 (by decide +kernel) (by decide +kernel), tb_m 1050 (by decide +kernel) (by decide +kernel)⟩
theorem ky_X5_feeOf : kY yX5_feeOf cX5_feeOf 5 (some .int) 2 := ⟨tb_m 1066 (by decide +kernel) (by decide +kernel), tb_m 58 (by decide +kernel) (by decide +kernel), by decide +kernel, by decide +kernel⟩
theorem ki_X5_feeOf : kI yX5_feeOf := ⟨tb_m 1065 (by decide +kernel) (by decide +kernel), tb_m 44 (by decide +kernel) (by decide +kernel)⟩
theorem ky_X5_fee : kY yX5_fee cX5_fee 3 (some .int) 2 := ⟨tb_m 1062 (by decide +kernel) (by decide +kernel), tb_m 58 (by decide +kernel) (by decide +kernel), by decide +kernel, by decide +kernel⟩
theorem ki_X5_fee : kI yX5_fee := ⟨tb_m 1060 (by decide +kernel) (by decide +kernel), tb_m 1061 (by decide +kernel) (by decide +kernel)⟩
theorem ky_X5_fees : kY yX5_fees cX5_fees 7 (some .int) 2 := ⟨tb_m 1070 (by decide +kernel) (by decide +kernel), tb_m 58 (by decide +kernel) (by decide +kernel), by decide +kernel, by decide +kernel⟩
theorem ki_X5_fees : kI yX5_fees := ⟨tb_m 1068 (by decide +kernel) (by decide +kernel), tb_m 1069 (by decide +kernel) (by decide +kernel)⟩
theorem ky_X5_seen : kY yX5_seen cX5_seen 3 (some .int) 2 := ⟨tb_m 1074 (by decide +kernel) (by decide +kernel), tb_m 58 (by decide +kernel) (by decide +kernel), by decide +kernel, by decide +kernel⟩
theorem ki_X5_seen : kI yX5_seen := ⟨tb_m 1072 (by decide +kernel) (by decide +kernel), tb_m 1073 (by decide +kernel) (by decide +kernel)⟩
theorem ky_X5_forget : kY yX5_forget cX5_forget 2 (some .int) 0 := ⟨tb_m 1079 (by decide +kernel) (by decide +kernel), tb_m 58 (by decide +kernel) (by decide +kernel), by decide +kernel, by decide +kernel⟩
theorem ki_X5_forget : kI yX5_forget := ⟨tb_m 1077 (by decide +kernel) (by decide +kernel), tb_m 1078 (by decide +kernel) (by decide +kernel)⟩
theorem ky_X5_whoBent : kY yX5_whoBent cX5_whoBent 4 (some .int) 1 := ⟨tb_m 1087 (by decide +kernel) (by decide +kernel), tb_m 58 (by decide +kernel) (by decide +kernel), by decide +kernel, by decide +kernel⟩
theorem ki_X5_whoBent : kI yX5_whoBent := ⟨tb_m 1086 (by decide +kernel) (by decide +kernel), tb_m 45 (by decide +kernel) (by decide +kernel)⟩
theorem ky_X5_who : kY yX5_who cX5_who 2 (some .int) 1 := ⟨tb_m 1083 (by decide +kernel) (by decide +kernel), tb_m 58 (by decide +kernel) (by decide +kernel), by decide +kernel, by decide +kernel⟩
theorem ki_X5_who : kI yX5_who := ⟨tb_m 1081 (by decide +kernel) (by decide +kernel), tb_m 1082 (by decide +kernel) (by decide +kernel)⟩
theorem ky_X5_fits : kY yX5_fits cX5_fits 6 (some .boolean) 1 := ⟨tb_m 1095 (by decide +kernel) (by decide +kernel), tb_m 58 (by decide +kernel) (by decide +kernel), by decide +kernel, by decide +kernel⟩
theorem ki_X5_fits : kI yX5_fits := ⟨tb_m 1094 (by decide +kernel) (by decide +kernel), tb_m 46 (by decide +kernel) (by decide +kernel)⟩
theorem ky_X5_fit : kY yX5_fit cX5_fit 4 (some .int) 0 := ⟨tb_m 1091 (by decide +kernel) (by decide +kernel), tb_m 58 (by decide +kernel) (by decide +kernel), by decide +kernel, by decide +kernel⟩
theorem ki_X5_fit : kI yX5_fit := ⟨tb_m 1089 (by decide +kernel) (by decide +kernel), tb_m 1090 (by decide +kernel) (by decide +kernel)⟩
theorem ky_X5_lowest : kY yX5_lowest cX5_lowest 11 (some .long) 3 := ⟨tb_m 1105 (by decide +kernel) (by decide +kernel), tb_m 58 (by decide +kernel) (by decide +kernel), by decide +kernel, by decide +kernel⟩
theorem ks_X5_lowest : kS yX5_lowest := tb_m 1104 (by decide +kernel) (by decide +kernel)
theorem ky_X5_chance : kY yX5_chance cX5_chance 14 (some .long) 4 := ⟨tb_m 1099 (by decide +kernel) (by decide +kernel), tb_m 58 (by decide +kernel) (by decide +kernel), by decide +kernel, by decide +kernel⟩
theorem ki_X5_chance : kI yX5_chance := ⟨tb_m 1097 (by decide +kernel) (by decide +kernel), tb_m 1098 (by decide +kernel) (by decide +kernel)⟩
theorem ky_X5_year : kY yX5_year cX5_year 9 (some .int) 3 := ⟨tb_m 1109 (by decide +kernel) (by decide +kernel), tb_m 58 (by decide +kernel) (by decide +kernel), by decide +kernel, by decide +kernel⟩
theorem ki_X5_year : kI yX5_year := ⟨tb_m 1107 (by decide +kernel) (by decide +kernel), tb_m 1108 (by decide +kernel) (by decide +kernel)⟩
theorem ky_X5_pass : kY yX5_pass cX5_pass 3 (some .int) 1 := ⟨tb_m 1125 (by decide +kernel) (by decide +kernel), tb_m 58 (by decide +kernel) (by decide +kernel), by decide +kernel, by decide +kernel⟩
theorem ki_X5_pass : kI yX5_pass := ⟨tb_m 1124 (by decide +kernel) (by decide +kernel), tb_m 48 (by decide +kernel) (by decide +kernel)⟩
theorem ky_X5_passAll : kY yX5_passAll cX5_passAll 2 none 0 := ⟨tb_m 1121 (by decide +kernel) (by decide +kernel), tb_m 58 (by decide +kernel) (by decide +kernel), by decide +kernel, by decide +kernel⟩
theorem ki_X5_passAll : kI yX5_passAll := ⟨tb_m 1120 (by decide +kernel) (by decide +kernel), tb_m 47 (by decide +kernel) (by decide +kernel)⟩
theorem ky_X5_image : kY yX5_image cX5_image 2 (some .int) 1 := ⟨tb_m 1117 (by decide +kernel) (by decide +kernel), tb_m 58 (by decide +kernel) (by decide +kernel), by decide +kernel, by decide +kernel⟩
theorem ki_X5_image : kI yX5_image := ⟨tb_m 1115 (by decide +kernel) (by decide +kernel), tb_m 1116 (by decide +kernel) (by decide +kernel)⟩
theorem ky_X5_restore : kY yX5_restore cX5_restore 2 (some .int) 1 := ⟨tb_m 1129 (by decide +kernel) (by decide +kernel), tb_m 58 (by decide +kernel) (by decide +kernel), by decide +kernel, by decide +kernel⟩
theorem ki_X5_restore : kI yX5_restore := ⟨tb_m 1127 (by decide +kernel) (by decide +kernel), tb_m 1128 (by decide +kernel) (by decide +kernel)⟩
theorem ky_X5_toldOfBridge : kY yX5_toldOfBridge cX5_toldOfBridge 3 (some .int) 2 := ⟨tb_m 1145 (by decide +kernel) (by decide +kernel), tb_m 58 (by decide +kernel) (by decide +kernel), by decide +kernel, by decide +kernel⟩
theorem ki_X5_toldOfBridge : kI yX5_toldOfBridge := ⟨tb_m 1144 (by decide +kernel) (by decide +kernel), tb_m 50 (by decide +kernel) (by decide +kernel)⟩
theorem ky_X5_toldOfPerson : kY yX5_toldOfPerson cX5_toldOfPerson 3 (some .int) 2 := ⟨tb_m 1139 (by decide +kernel) (by decide +kernel), tb_m 58 (by decide +kernel) (by decide +kernel), by decide +kernel, by decide +kernel⟩
theorem ki_X5_toldOfPerson : kI yX5_toldOfPerson := ⟨tb_m 1138 (by decide +kernel) (by decide +kernel), tb_m 49 (by decide +kernel) (by decide +kernel)⟩
theorem ky_X5_told : kY yX5_told cX5_told 2 (some .int) 1 := ⟨tb_m 1133 (by decide +kernel) (by decide +kernel), tb_m 58 (by decide +kernel) (by decide +kernel), by decide +kernel, by decide +kernel⟩
theorem ki_X5_told : kI yX5_told := ⟨tb_m 1131 (by decide +kernel) (by decide +kernel), tb_m 1132 (by decide +kernel) (by decide +kernel)⟩
theorem ky_J6_bitCount_0f7a4 : kY yJ6_bitCount_0f7a4 cJ6_bitCount_0f7a4 1 (some .int) 1 := ⟨tb_m 264 (by decide +kernel) (by decide +kernel), tb_m 60 (by decide +kernel) (by decide +kernel), by decide +kernel, by decide +kernel⟩
theorem ks_J6_bitCount_0f7a4 : kS yJ6_bitCount_0f7a4 := tb_m 263 (by decide +kernel) (by decide +kernel)
theorem ky_J9_floorDiv_7cf53 : kY yJ9_floorDiv_7cf53 cJ9_floorDiv_7cf53 3 (some .int) 2 := ⟨tb_m 530 (by decide +kernel) (by decide +kernel), tb_m 59 (by decide +kernel) (by decide +kernel), by decide +kernel, by decide +kernel⟩
theorem ks_J9_floorDiv_7cf53 : kS yJ9_floorDiv_7cf53 := tb_m 529 (by decide +kernel) (by decide +kernel)
theorem ky_J9_max_7cf53 : kY yJ9_max_7cf53 cJ9_max_7cf53 2 (some .int) 2 := ⟨tb_m 261 (by decide +kernel) (by decide +kernel), tb_m 59 (by decide +kernel) (by decide +kernel), by decide +kernel, by decide +kernel⟩
theorem ks_J9_max_7cf53 : kS yJ9_max_7cf53 := tb_m 260 (by decide +kernel) (by decide +kernel)
theorem ky_J9_max_f86c9 : kY yJ9_max_f86c9 cJ9_max_f86c9 4 (some .long) 2 := ⟨tb_m 585 (by decide +kernel) (by decide +kernel), tb_m 59 (by decide +kernel) (by decide +kernel), by decide +kernel, by decide +kernel⟩
theorem ks_J9_max_f86c9 : kS yJ9_max_f86c9 := tb_m 584 (by decide +kernel) (by decide +kernel)
theorem ky_J9_min_7cf53 : kY yJ9_min_7cf53 cJ9_min_7cf53 2 (some .int) 2 := ⟨tb_m 258 (by decide +kernel) (by decide +kernel), tb_m 59 (by decide +kernel) (by decide +kernel), by decide +kernel, by decide +kernel⟩
theorem ks_J9_min_7cf53 : kS yJ9_min_7cf53 := tb_m 257 (by decide +kernel) (by decide +kernel)
theorem ky_J7_fill_53178 : kY yJ7_fill_53178 cJ7_fill_53178 4 none 2 := ⟨tb_m 82 (by decide +kernel) (by decide +kernel), tb_m 54 (by decide +kernel) (by decide +kernel), by decide +kernel, by decide +kernel⟩
theorem ks_J7_fill_53178 : kS yJ7_fill_53178 := tb_m 81 (by decide +kernel) (by decide +kernel)
end
section
theorem kac : Cond.native arraycopyName ∈ tb ∧ Cond.static arraycopyName ∈ tb ∧ Cond.initialized "java/lang/System" ∈ tb := ⟨tb_m 348 (by decide +kernel) (by decide +kernel), tb_m 347 (by decide +kernel) (by decide +kernel), tb_m 61 (by decide +kernel) (by decide +kernel)⟩
theorem kmac_X3_74 : Cond.methodLink RX3 74 arraycopyName ∈ tb := tb_m 346 (by decide +kernel) (by decide +kernel)
theorem kmac_X4_285 : Cond.methodLink RX4 285 arraycopyName ∈ tb := tb_m 518 (by decide +kernel) (by decide +kernel)
/-! THE ENGINE: Ctr, a method's contract over a whole world; G, a frame of the method in such a world; a rule an instruction -/
abbrev gE : Type := (Nat → ClassId) × (Nat → Nat → Nat) × ClassId × ClassId × ClassId
abbrev gT (D : gE) : List (ClassId × FieldType) := [(D.2.2.1, .int), (D.2.2.2.1, .boolean), (D.2.2.2.2, .object RX3)]
/-- what stays as it is: classes and array classes, the array over Town, the nest's links -/
def gB (D : gE) (U : State) : Prop := va_K (D.1, D.2.1) vwCl (gT D) U ∧ va_AO RX3 U ∧ va_Nw (.methodLinkNest RX1 21 yX4_has RX4) U ∧ va_Nw (.methodLinkNest RX1 25 yX4_within RX4) U ∧ va_Nw (.methodLinkNest RX2 19 yX4_within RX4) U ∧ va_Nw (.methodLinkNest RX3 80 yX4_within RX4) U ∧ va_Nw (.methodLinkNest RX3 84 yX4_has RX4) U
theorem gB.warm {D : gE} {s U : State} (hW : s.WarmedH U.vm) (h : gB D s) : gB D U := ⟨va_K.moved hW.alike h.1, h.2.1.moved hW.alike, va_Nw.warmM hW h.2.2.1, va_Nw.warmM hW h.2.2.2.1, va_Nw.warmM hW h.2.2.2.2.1, va_Nw.warmM hW h.2.2.2.2.2.1, va_Nw.warmM hW h.2.2.2.2.2.2⟩
theorem gB.same {D : gE} {u U : State} (hv : u.vm = U.vm) (h : gB D u) : gB D U := ⟨va_K.moved (by rw [hv]; exact Vm.Alike.refl U.vm) h.1, h.2.1.moved (by rw [hv]; exact Vm.Alike.refl U.vm), va_Nw.same rfl hv h.2.2.1, va_Nw.same rfl hv h.2.2.2.1, va_Nw.same rfl hv h.2.2.2.2.1, va_Nw.same rfl hv h.2.2.2.2.2.1, va_Nw.same rfl hv h.2.2.2.2.2.2⟩
def gPc (D : gE) (av : List Value) (sz : Nat) (ws : va_W) : Array Value → State → Prop := va_Pc av (fun U => U.heap.size = sz ∧ va_P (D.1, D.2.1) vwCl ws U.heap ∧ gB D U ∧ va_D (fun _ => True) ws)
def gQc (D : gE) (Q : Option Value → va_W → Prop) (A : Nat → Prop) : Array Value → State → Outcome → State → Prop := fun _ st oc t => (∃ (v : Option Value) (u : va_W), oc = .returned v ∧ Q v u ∧ va_P (D.1, D.2.1) vwCl u t.heap ∧ va_D A u) ∧ va_F A st t
/-- CONTRACT: from the world ws with the arguments av the method returns v with a world u, with Q v u -/
def Ctr (l : Launch) (D : gE) (y : MethodName) (cc : ByteArray) (nL : Nat) (rt : Option FieldType) (rm : Room) (av : List Value) (ws : va_W) (Q : Option Value → va_W → Prop) : Prop :=
  ∀ sz : Nat, Met l y (Cond.code y cc nL rt :: tb) rm (gPc D av sz ws) (gQc D Q (va_A ws sz)) rm.cells rm.slots (va_A ws sz)
def gF (D : gE) (y : MethodName) (cc : ByteArray) (nL : Nat) (rt : Option FieldType) (p : Program) (s : State) (m : MethodId) (args : Array Value) (meth : Method) (c : Code) (A : Nat → Prop) : Prop :=
  p.tables.exec = Jvm.exec ∧ c.code = cc ∧ c.maxLocals = nL ∧ meth.sig.returnType = rt ∧ meth.locks = false ∧ meth.name = y.name ∧ s.vm.findClass y.cls = some m.cls ∧ (∀ w ∈ tb, w.before args s = true) ∧ gB D s ∧ (∀ q, s.heap.size ≤ q → A q)
/-- FRAME: the method y at pc, with locals lv, stack st, in the world ws, comes to its end with Q -/
def G (l : Launch) (D : gE) (y : MethodName) (cc : ByteArray) (nL : Nat) (rt : Option FieldType) (rm : Room) (Q : Option Value → va_W → Prop) (cells slots : Nat) (pc : Nat) (lv : List (Nat × Value)) (st : List Value) (ws : va_W) : Prop :=
  ∀ (p : Program) (e : Env) (s : State) (m : MethodId) (args : Array Value) (below : List Frame) (meth : Method) (c : Code) (H : Heap) (locs : List Loc) (A : Nat → Prop) (ls : Array Slot), gF D y cc nL rt p s m args meth c A → va_P (D.1, D.2.1) vwCl ws H → va_D A ws → va_S A s.heap H locs → lv_has ls nL lv →
    W p l e rm s m args below meth c H locs cells slots (MQ below (gQc D Q A) args s rm.cells rm.slots A) (F0 m pc ls st)
/-- rooms: d frames more, nothing made -/
abbrev rr (d : Nat) : Room := { frames := d, cells := 0, slots := 0, locals := 48 * d }
abbrev pv (v : Option Value) (r : List Value) : List Value := match v with
  | some x => x :: r
  | none => r
/-- as Met.ofW, for a method of any class that no row of the natives' table runs -/
theorem g_ofW {l : Launch} {y : MethodName} {ws ws' : List Cond} {rm : Room} {Pc : Array Value → State → Prop} {Qc : Array Value → State → Outcome → State → Prop} {mc ms : Nat} {free : Addr → Prop} {cc : ByteArray} {maxL : Nat} {ret : Option FieldType}
    (hy : plainFor y = true) (hw : ws = Cond.code y cc maxL ret :: ws')
    (body : ∀ p e s m args below meth c s₁, BodyLoose p l y (headSpec ws rm) cc maxL ret e s m args below meth c s₁ → c.maxLocals = maxL → Pc args s →
      W p l e (headSpec ws rm).room s m args below meth c s.heap [] 0 0 (MQ below Qc args s mc ms free) (entryFrame m args maxL)) : Met l y ws rm Pc Qc mc ms free := by
  refine MetFree.of_bodySF (code := cc) (maxLocals := maxL) (ret := ret) hy ?_ ?_
  · intro args s m h hn
    obtain ⟨meth, c, h1, h2, h3, h4, h5, h6, -, -⟩ := Cond.code_spec hn (atoms_spec (ws := ws) h _ (by rw [hw]; exact List.mem_cons_self))
    exact ⟨meth, c, h1, h2, h3, h4, h5, h6⟩
  · intro p e s m args below meth c s₁ B hml hP _
    have hh0 : s₁.heap = s.heap := by rw [B.state]; rfl
    obtain ⟨t, a1, o, b1, b2, b3⟩ := body p e s m args below meth c s₁ B hml hP s₁ hh0 (Stand.of_body B)
    exact ⟨t, o, a1, b1, b2, ⟨b3.1, b3.2⟩⟩
section ENG
variable {l : Launch} {D : gE} {y y' : MethodName} {cc cc' : ByteArray} {nL nL' : Nat} {rt rt' : Option FieldType} {rm rm' : Room} {Q Q' : Option Value → va_W → Prop} {cells slots pc : Nat} {lv lv' : List (Nat × Value)} {st : List Value} {ws ws' : va_W}
theorem g_start {n : Nat} (hy : kY y cc nL rt n) {av : List Value} (hav : (lg_sl av).length ≤ nL) (h : G l D y cc nL rt rm Q 0 0 0 (lv_args 0 av) [] ws) : Ctr l D y cc nL rt rm av ws Q := by
  intro sz
  refine g_ofW (cc := cc) (maxL := nL) (ret := rt) hy.2.2.2 rfl ?_
  intro p e s m args below meth c s₁ B hml hv
  obtain ⟨rfl, hsz, hP, hB, hD0⟩ := hv
  have hts := atoms_spec (ws := Cond.code y cc nL rt :: tb) B.pre
  subst hsz
  have hl := lv_entry av (n := nL) hav
  rw [lg_entry_eq]
  exact h p e s m _ below meth c s.heap [] (va_A ws s.heap.size) _ ⟨B.exec, B.bytes, hml, B.returns, B.notSynchronized, (name_of_methodNamed B.named B.method).1, findClass_of_methodNamed B.named, fun w hw => hts w (List.mem_cons_of_mem _ hw), hB, fun q hq => Or.inr hq⟩ hP hD0.self va_S.rf hl
theorem g_lv (h : ∀ ls : Array Slot, lv_has ls nL lv → lv_has ls nL lv') (k : G l D y cc nL rt rm Q cells slots pc lv' st ws) : G l D y cc nL rt rm Q cells slots pc lv st ws :=
  fun p e s m args below meth c H locs A ls hF hP hD hS hl => k p e s m args below meth c H locs A ls hF hP hD hS (h ls hl)
/-- the locals, fewer or in another order -/
theorem g_pick (ks : List Nat) (h : lv_pick lv ks = lv') (k : G l D y cc nL rt rm Q cells slots pc lv' st ws) : G l D y cc nL rt rm Q cells slots pc lv st ws := g_lv (fun _ hl => lv_sub hl ks h) k
theorem g_ws (h : ws = ws') (k : G l D y cc nL rt rm Q cells slots pc lv st ws') : G l D y cc nL rt rm Q cells slots pc lv st ws := h ▸ k
theorem g_st {st' : List Value} (h : st = st') (k : G l D y cc nL rt rm Q cells slots pc lv st' ws) : G l D y cc nL rt rm Q cells slots pc lv st ws := h ▸ k
theorem g_q (hq : ∀ v u, Q' v u → Q v u) (k : G l D y cc nL rt rm Q' cells slots pc lv st ws) : G l D y cc nL rt rm Q cells slots pc lv st ws := by
  intro p e s m args below meth c H locs A ls hF hP hD hS hl T hT X
  obtain ⟨t, h1, oc, h2, h3, ⟨⟨v, u, h4, h5, h6⟩, h7⟩, h8⟩ := k p e s m args below meth c H locs A ls hF hP hD hS hl T hT X
  exact ⟨t, h1, oc, h2, h3, ⟨⟨v, u, h4, hq v u h5, h6⟩, h7⟩, h8⟩
theorem g_topi {x : Int32} (h : ∀ z : Int32, z = x → G l D y cc nL rt rm Q cells slots pc lv (.int z :: st) ws) : G l D y cc nL rt rm Q cells slots pc lv (.int x :: st) ws := h x rfl
theorem g_topl {x : Int64} (h : ∀ z : Int64, z = x → G l D y cc nL rt rm Q cells slots pc lv (.long z :: st) ws) : G l D y cc nL rt rm Q cells slots pc lv (.long x :: st) ws := h x rfl
theorem g_tope {x z : Int32} (e : x = z) (h : G l D y cc nL rt rm Q cells slots pc lv (.int z :: st) ws) : G l D y cc nL rt rm Q cells slots pc lv (.int x :: st) ws := e ▸ h
theorem g_tople {x z : Int64} (e : x = z) (h : G l D y cc nL rt rm Q cells slots pc lv (.long z :: st) ws) : G l D y cc nL rt rm Q cells slots pc lv (.long x :: st) ws := e ▸ h
theorem g_iconst {n : Int} {v : Int32} (hd : decode cc pc = .ok (.iconst n, 1)) (hv : Int32.ofInt n = v) (k : G l D y cc nL rt rm Q cells slots (pc + 1) lv (.int v :: st) ws) : G l D y cc nL rt rm Q cells slots pc lv st ws :=
  fun p e s m args below meth c H locs A ls hF hP hD hS hl => lv_iconst hF.1 hF.2.1 hd hv (k p e s m args below meth c H locs A ls hF hP hD hS hl)
theorem g_bipush {n : Int} {v : Int32} (hd : decode cc pc = .ok (.bipush n, 2)) (hv : (Int8.ofInt n).toInt32 = v) (k : G l D y cc nL rt rm Q cells slots (pc + 2) lv (.int v :: st) ws) : G l D y cc nL rt rm Q cells slots pc lv st ws :=
  fun p e s m args below meth c H locs A ls hF hP hD hS hl => lv_bipush hF.1 hF.2.1 hd hv (k p e s m args below meth c H locs A ls hF hP hD hS hl)
theorem g_sipush {n : Int} {v : Int32} (hd : decode cc pc = .ok (.sipush n, 3)) (hv : (Int16.ofInt n).toInt32 = v) (k : G l D y cc nL rt rm Q cells slots (pc + 3) lv (.int v :: st) ws) : G l D y cc nL rt rm Q cells slots pc lv st ws :=
  fun p e s m args below meth c H locs A ls hF hP hD hS hl => lv_sipush hF.1 hF.2.1 hd hv (k p e s m args below meth c H locs A ls hF hP hD hS hl)
theorem g_lconst {n : Fin 2} {v : Int64} (hd : decode cc pc = .ok (.lconst n, 1)) (hv : Int64.ofNat (n : Nat) = v) (k : G l D y cc nL rt rm Q cells slots (pc + 1) lv (.long v :: st) ws) : G l D y cc nL rt rm Q cells slots pc lv st ws :=
  fun p e s m args below meth c H locs A ls hF hP hD hS hl => lv_lconst hF.1 hF.2.1 hd hv (k p e s m args below meth c H locs A ls hF hP hD hS hl)
theorem g_ldc {idx : Nat} {v : Int32} (hc : Cond.constant y.cls idx v ∈ tb) (hd : decode cc pc = .ok (.ldc idx, 2)) (k : G l D y cc nL rt rm Q cells slots (pc + 2) lv (.int v :: st) ws) : G l D y cc nL rt rm Q cells slots pc lv st ws :=
  fun p e s m args below meth c H locs A ls hF hP hD hS hl => lv_ldc hF.1 hF.2.1 hF.2.2.2.2.2.2.1 (hF.2.2.2.2.2.2.2.1 _ hc) hd (k p e s m args below meth c H locs A ls hF hP hD hS hl)
theorem g_ldc_w {idx : Nat} {v : Int32} (hc : Cond.constant y.cls idx v ∈ tb) (hd : decode cc pc = .ok (.ldc_w idx, 3)) (k : G l D y cc nL rt rm Q cells slots (pc + 3) lv (.int v :: st) ws) : G l D y cc nL rt rm Q cells slots pc lv st ws :=
  fun p e s m args below meth c H locs A ls hF hP hD hS hl => lv_ldcw hF.1 hF.2.1 hF.2.2.2.2.2.2.1 (hF.2.2.2.2.2.2.2.1 _ hc) hd (k p e s m args below meth c H locs A ls hF hP hD hS hl)
theorem g_ldc2_w {idx : Nat} {v : Int64} (hc : Cond.constantLong y.cls idx v ∈ tb) (hd : decode cc pc = .ok (.ldc2_w idx, 3)) (k : G l D y cc nL rt rm Q cells slots (pc + 3) lv (.long v :: st) ws) : G l D y cc nL rt rm Q cells slots pc lv st ws :=
  fun p e s m args below meth c H locs A ls hF hP hD hS hl => lv_ldc2 hF.1 hF.2.1 hF.2.2.2.2.2.2.1 (hF.2.2.2.2.2.2.2.1 _ hc) hd (k p e s m args below meth c H locs A ls hF hP hD hS hl)
theorem g_iload_n {f : Fin 4} {i : Nat} {x : Int32} (hd : decode cc pc = .ok (.iload_n f, 1)) (hi : (f : Nat) = i) (q : Nat) (hq : lv[q]? = some (i, .int x)) (k : G l D y cc nL rt rm Q cells slots (pc + 1) lv (.int x :: st) ws) : G l D y cc nL rt rm Q cells slots pc lv st ws :=
  fun p e s m args below meth c H locs A ls hF hP hD hS hl => lv_iload_n hF.1 hF.2.1 hd hi (lv_at hl q hq) (k p e s m args below meth c H locs A ls hF hP hD hS hl)
theorem g_iload {i : Nat} {x : Int32} (hd : decode cc pc = .ok (.iload i, 2)) (q : Nat) (hq : lv[q]? = some (i, .int x)) (k : G l D y cc nL rt rm Q cells slots (pc + 2) lv (.int x :: st) ws) : G l D y cc nL rt rm Q cells slots pc lv st ws :=
  fun p e s m args below meth c H locs A ls hF hP hD hS hl => lv_iload hF.1 hF.2.1 hd (lv_at hl q hq) (k p e s m args below meth c H locs A ls hF hP hD hS hl)
theorem g_lload_n {f : Fin 4} {i : Nat} {x : Int64} (hd : decode cc pc = .ok (.lload_n f, 1)) (hi : (f : Nat) = i) (q : Nat) (hq : lv[q]? = some (i, .long x)) (k : G l D y cc nL rt rm Q cells slots (pc + 1) lv (.long x :: st) ws) : G l D y cc nL rt rm Q cells slots pc lv st ws :=
  fun p e s m args below meth c H locs A ls hF hP hD hS hl => lv_lload_n hF.1 hF.2.1 hd hi (lv_at hl q hq) (k p e s m args below meth c H locs A ls hF hP hD hS hl)
theorem g_lload {i : Nat} {x : Int64} (hd : decode cc pc = .ok (.lload i, 2)) (q : Nat) (hq : lv[q]? = some (i, .long x)) (k : G l D y cc nL rt rm Q cells slots (pc + 2) lv (.long x :: st) ws) : G l D y cc nL rt rm Q cells slots pc lv st ws :=
  fun p e s m args below meth c H locs A ls hF hP hD hS hl => lv_lload hF.1 hF.2.1 hd (lv_at hl q hq) (k p e s m args below meth c H locs A ls hF hP hD hS hl)
theorem g_aload_n {f : Fin 4} {i : Nat} {x : Nat} (hd : decode cc pc = .ok (.aload_n f, 1)) (hi : (f : Nat) = i) (q : Nat) (hq : lv[q]? = some (i, .ref x)) (k : G l D y cc nL rt rm Q cells slots (pc + 1) lv (.ref x :: st) ws) : G l D y cc nL rt rm Q cells slots pc lv st ws :=
  fun p e s m args below meth c H locs A ls hF hP hD hS hl => lv_aload_n hF.1 hF.2.1 hd hi (lv_at hl q hq) (k p e s m args below meth c H locs A ls hF hP hD hS hl)
theorem g_aload {i : Nat} {x : Nat} (hd : decode cc pc = .ok (.aload i, 2)) (q : Nat) (hq : lv[q]? = some (i, .ref x)) (k : G l D y cc nL rt rm Q cells slots (pc + 2) lv (.ref x :: st) ws) : G l D y cc nL rt rm Q cells slots pc lv st ws :=
  fun p e s m args below meth c H locs A ls hF hP hD hS hl => lv_aload hF.1 hF.2.1 hd (lv_at hl q hq) (k p e s m args below meth c H locs A ls hF hP hD hS hl)
theorem g_istore_n {f : Fin 4} {i : Nat} {x : Int32} (hd : decode cc pc = .ok (.istore_n f, 1)) (hi : (f : Nat) = i) (hn : i < nL) (hq : (i, Value.int x) :: lv.filter (fun q => !(q.1 == i) && !(q.1 + 1 == i && q.2.category == 2)) = lv') (k : G l D y cc nL rt rm Q cells slots (pc + 1) lv' st ws) : G l D y cc nL rt rm Q cells slots pc lv (.int x :: st) ws :=
  fun p e s m args below meth c H locs A ls hF hP hD hS hl => lv_istore_n hF.1 hF.2.1 hd hi hl hn hq (fun ls hl => k p e s m args below meth c H locs A ls hF hP hD hS hl)
theorem g_istore {i : Nat} {x : Int32} (hd : decode cc pc = .ok (.istore i, 2)) (hn : i < nL) (hq : (i, Value.int x) :: lv.filter (fun q => !(q.1 == i) && !(q.1 + 1 == i && q.2.category == 2)) = lv') (k : G l D y cc nL rt rm Q cells slots (pc + 2) lv' st ws) : G l D y cc nL rt rm Q cells slots pc lv (.int x :: st) ws :=
  fun p e s m args below meth c H locs A ls hF hP hD hS hl => lv_istore hF.1 hF.2.1 hd hl hn hq (fun ls hl => k p e s m args below meth c H locs A ls hF hP hD hS hl)
theorem g_lstore_n {f : Fin 4} {i : Nat} {x : Int64} (hd : decode cc pc = .ok (.lstore_n f, 1)) (hi : (f : Nat) = i) (hn : i + 1 < nL) (hq : (i, Value.long x) :: lv.filter (fun q => !(q.1 == i) && (!(q.1 == i + 1) && !(q.1 + 1 == i && q.2.category == 2))) = lv') (k : G l D y cc nL rt rm Q cells slots (pc + 1) lv' st ws) : G l D y cc nL rt rm Q cells slots pc lv (.long x :: st) ws :=
  fun p e s m args below meth c H locs A ls hF hP hD hS hl => lv_lstore_n hF.1 hF.2.1 hd hi hl hn hq (fun ls hl => k p e s m args below meth c H locs A ls hF hP hD hS hl)
theorem g_lstore {i : Nat} {x : Int64} (hd : decode cc pc = .ok (.lstore i, 2)) (hn : i + 1 < nL) (hq : (i, Value.long x) :: lv.filter (fun q => !(q.1 == i) && (!(q.1 == i + 1) && !(q.1 + 1 == i && q.2.category == 2))) = lv') (k : G l D y cc nL rt rm Q cells slots (pc + 2) lv' st ws) : G l D y cc nL rt rm Q cells slots pc lv (.long x :: st) ws :=
  fun p e s m args below meth c H locs A ls hF hP hD hS hl => lv_lstore hF.1 hF.2.1 hd hl hn hq (fun ls hl => k p e s m args below meth c H locs A ls hF hP hD hS hl)
theorem g_astore_n {f : Fin 4} {i : Nat} {x : Nat} (hd : decode cc pc = .ok (.astore_n f, 1)) (hi : (f : Nat) = i) (hn : i < nL) (hq : (i, Value.ref x) :: lv.filter (fun q => !(q.1 == i) && !(q.1 + 1 == i && q.2.category == 2)) = lv') (k : G l D y cc nL rt rm Q cells slots (pc + 1) lv' st ws) : G l D y cc nL rt rm Q cells slots pc lv (.ref x :: st) ws :=
  fun p e s m args below meth c H locs A ls hF hP hD hS hl => lv_astore_n hF.1 hF.2.1 hd hi hl hn hq (fun ls hl => k p e s m args below meth c H locs A ls hF hP hD hS hl)
theorem g_astore {i : Nat} {x : Nat} (hd : decode cc pc = .ok (.astore i, 2)) (hn : i < nL) (hq : (i, Value.ref x) :: lv.filter (fun q => !(q.1 == i) && !(q.1 + 1 == i && q.2.category == 2)) = lv') (k : G l D y cc nL rt rm Q cells slots (pc + 2) lv' st ws) : G l D y cc nL rt rm Q cells slots pc lv (.ref x :: st) ws :=
  fun p e s m args below meth c H locs A ls hF hP hD hS hl => lv_astore hF.1 hF.2.1 hd hl hn hq (fun ls hl => k p e s m args below meth c H locs A ls hF hP hD hS hl)
theorem g_iinc {i : Nat} {n : Int} {x v : Int32} (hd : decode cc pc = .ok (.iinc i n, 3)) (q : Nat) (hq0 : lv[q]? = some (i, .int x)) (hv : x + Int32.ofInt n = v) (hn : i < nL) (hq : (i, Value.int v) :: lv.filter (fun q => !(q.1 == i) && !(q.1 + 1 == i && q.2.category == 2)) = lv') (k : G l D y cc nL rt rm Q cells slots (pc + 3) lv' st ws) : G l D y cc nL rt rm Q cells slots pc lv st ws :=
  fun p e s m args below meth c H locs A ls hF hP hD hS hl => lv_iinc hF.1 hF.2.1 hd hl hq0 hv hn hq (fun ls hl => k p e s m args below meth c H locs A ls hF hP hD hS hl)
theorem g_iadd {x z : Int32} (hd : decode cc pc = .ok (.iadd, 1)) (k : G l D y cc nL rt rm Q cells slots (pc + 1) lv (.int (x + z) :: st) ws) : G l D y cc nL rt rm Q cells slots pc lv (.int z :: .int x :: st) ws :=
  fun p e s m args below meth c H locs A ls hF hP hD hS hl => lv_iadd hF.1 hF.2.1 hd (k p e s m args below meth c H locs A ls hF hP hD hS hl)
theorem g_isub {x z : Int32} (hd : decode cc pc = .ok (.isub, 1)) (k : G l D y cc nL rt rm Q cells slots (pc + 1) lv (.int (x - z) :: st) ws) : G l D y cc nL rt rm Q cells slots pc lv (.int z :: .int x :: st) ws :=
  fun p e s m args below meth c H locs A ls hF hP hD hS hl => lv_isub hF.1 hF.2.1 hd (k p e s m args below meth c H locs A ls hF hP hD hS hl)
theorem g_imul {x z : Int32} (hd : decode cc pc = .ok (.imul, 1)) (k : G l D y cc nL rt rm Q cells slots (pc + 1) lv (.int (x * z) :: st) ws) : G l D y cc nL rt rm Q cells slots pc lv (.int z :: .int x :: st) ws :=
  fun p e s m args below meth c H locs A ls hF hP hD hS hl => lv_imul hF.1 hF.2.1 hd (k p e s m args below meth c H locs A ls hF hP hD hS hl)
theorem g_iand {x z : Int32} (hd : decode cc pc = .ok (.iand, 1)) (k : G l D y cc nL rt rm Q cells slots (pc + 1) lv (.int (x &&& z) :: st) ws) : G l D y cc nL rt rm Q cells slots pc lv (.int z :: .int x :: st) ws :=
  fun p e s m args below meth c H locs A ls hF hP hD hS hl => lv_iand hF.1 hF.2.1 hd (k p e s m args below meth c H locs A ls hF hP hD hS hl)
theorem g_ior {x z : Int32} (hd : decode cc pc = .ok (.ior, 1)) (k : G l D y cc nL rt rm Q cells slots (pc + 1) lv (.int (x ||| z) :: st) ws) : G l D y cc nL rt rm Q cells slots pc lv (.int z :: .int x :: st) ws :=
  fun p e s m args below meth c H locs A ls hF hP hD hS hl => lv_ior hF.1 hF.2.1 hd (k p e s m args below meth c H locs A ls hF hP hD hS hl)
theorem g_ixor {x z : Int32} (hd : decode cc pc = .ok (.ixor, 1)) (k : G l D y cc nL rt rm Q cells slots (pc + 1) lv (.int (x ^^^ z) :: st) ws) : G l D y cc nL rt rm Q cells slots pc lv (.int z :: .int x :: st) ws :=
  fun p e s m args below meth c H locs A ls hF hP hD hS hl => lv_ixor hF.1 hF.2.1 hd (k p e s m args below meth c H locs A ls hF hP hD hS hl)
theorem g_ishl {x z : Int32} (hd : decode cc pc = .ok (.ishl, 1)) (k : G l D y cc nL rt rm Q cells slots (pc + 1) lv (.int (x <<< (z &&& 31)) :: st) ws) : G l D y cc nL rt rm Q cells slots pc lv (.int z :: .int x :: st) ws :=
  fun p e s m args below meth c H locs A ls hF hP hD hS hl => lv_ishl hF.1 hF.2.1 hd (k p e s m args below meth c H locs A ls hF hP hD hS hl)
theorem g_ishr {x z : Int32} (hd : decode cc pc = .ok (.ishr, 1)) (k : G l D y cc nL rt rm Q cells slots (pc + 1) lv (.int (x >>> (z &&& 31)) :: st) ws) : G l D y cc nL rt rm Q cells slots pc lv (.int z :: .int x :: st) ws :=
  fun p e s m args below meth c H locs A ls hF hP hD hS hl => lv_ishr hF.1 hF.2.1 hd (k p e s m args below meth c H locs A ls hF hP hD hS hl)
theorem g_iushr {x z v : Int32} (hd : decode cc pc = .ok (.iushr, 1)) (hv : (x.toUInt32 >>> (z.toUInt32 &&& Int32.toUInt32 31)).toInt32 = v) (k : G l D y cc nL rt rm Q cells slots (pc + 1) lv (.int v :: st) ws) : G l D y cc nL rt rm Q cells slots pc lv (.int z :: .int x :: st) ws :=
  fun p e s m args below meth c H locs A ls hF hP hD hS hl => lv_iushr hF.1 hF.2.1 hd hv (k p e s m args below meth c H locs A ls hF hP hD hS hl)
theorem g_idiv {x z : Int32} (hd : decode cc pc = .ok (.idiv, 1)) (hz : ¬ z = 0) (k : G l D y cc nL rt rm Q cells slots (pc + 1) lv (.int (x / z) :: st) ws) : G l D y cc nL rt rm Q cells slots pc lv (.int z :: .int x :: st) ws :=
  fun p e s m args below meth c H locs A ls hF hP hD hS hl => lv_idiv hF.1 hF.2.1 hd hz (k p e s m args below meth c H locs A ls hF hP hD hS hl)
theorem g_irem {x z : Int32} (hd : decode cc pc = .ok (.irem, 1)) (hz : ¬ z = 0) (k : G l D y cc nL rt rm Q cells slots (pc + 1) lv (.int (x - x / z * z) :: st) ws) : G l D y cc nL rt rm Q cells slots pc lv (.int z :: .int x :: st) ws :=
  fun p e s m args below meth c H locs A ls hF hP hD hS hl => lv_irem hF.1 hF.2.1 hd hz (k p e s m args below meth c H locs A ls hF hP hD hS hl)
theorem g_ldiv {x z : Int64} (hd : decode cc pc = .ok (.ldiv, 1)) (hz : ¬ z = 0) (k : G l D y cc nL rt rm Q cells slots (pc + 1) lv (.long (x / z) :: st) ws) : G l D y cc nL rt rm Q cells slots pc lv (.long z :: .long x :: st) ws :=
  fun p e s m args below meth c H locs A ls hF hP hD hS hl => lv_ldiv hF.1 hF.2.1 hd hz (k p e s m args below meth c H locs A ls hF hP hD hS hl)
theorem g_lrem {x z : Int64} (hd : decode cc pc = .ok (.lrem, 1)) (hz : ¬ z = 0) (k : G l D y cc nL rt rm Q cells slots (pc + 1) lv (.long (x - x / z * z) :: st) ws) : G l D y cc nL rt rm Q cells slots pc lv (.long z :: .long x :: st) ws :=
  fun p e s m args below meth c H locs A ls hF hP hD hS hl => lv_lrem hF.1 hF.2.1 hd hz (k p e s m args below meth c H locs A ls hF hP hD hS hl)
theorem g_ladd {x z : Int64} (hd : decode cc pc = .ok (.ladd, 1)) (k : G l D y cc nL rt rm Q cells slots (pc + 1) lv (.long (x + z) :: st) ws) : G l D y cc nL rt rm Q cells slots pc lv (.long z :: .long x :: st) ws :=
  fun p e s m args below meth c H locs A ls hF hP hD hS hl => lv_ladd hF.1 hF.2.1 hd (k p e s m args below meth c H locs A ls hF hP hD hS hl)
theorem g_lsub {x z : Int64} (hd : decode cc pc = .ok (.lsub, 1)) (k : G l D y cc nL rt rm Q cells slots (pc + 1) lv (.long (x - z) :: st) ws) : G l D y cc nL rt rm Q cells slots pc lv (.long z :: .long x :: st) ws :=
  fun p e s m args below meth c H locs A ls hF hP hD hS hl => lv_lsub hF.1 hF.2.1 hd (k p e s m args below meth c H locs A ls hF hP hD hS hl)
theorem g_lmul {x z : Int64} (hd : decode cc pc = .ok (.lmul, 1)) (k : G l D y cc nL rt rm Q cells slots (pc + 1) lv (.long (x * z) :: st) ws) : G l D y cc nL rt rm Q cells slots pc lv (.long z :: .long x :: st) ws :=
  fun p e s m args below meth c H locs A ls hF hP hD hS hl => lv_lmul hF.1 hF.2.1 hd (k p e s m args below meth c H locs A ls hF hP hD hS hl)
theorem g_lcmp {x z : Int64} (hd : decode cc pc = .ok (.lcmp, 1)) (k : G l D y cc nL rt rm Q cells slots (pc + 1) lv (.int (lg_cmp x z) :: st) ws) : G l D y cc nL rt rm Q cells slots pc lv (.long z :: .long x :: st) ws :=
  fun p e s m args below meth c H locs A ls hF hP hD hS hl => W.lcmp hF.1 hF.2.1 hd (k p e s m args below meth c H locs A ls hF hP hD hS hl)
theorem g_i2l {x : Int32} (hd : decode cc pc = .ok (.i2l, 1)) (k : G l D y cc nL rt rm Q cells slots (pc + 1) lv (.long x.toInt64 :: st) ws) : G l D y cc nL rt rm Q cells slots pc lv (.int x :: st) ws :=
  fun p e s m args below meth c H locs A ls hF hP hD hS hl => lv_i2l hF.1 hF.2.1 hd rfl (k p e s m args below meth c H locs A ls hF hP hD hS hl)
theorem g_l2i {x : Int64} (hd : decode cc pc = .ok (.l2i, 1)) (k : G l D y cc nL rt rm Q cells slots (pc + 1) lv (.int x.toInt32 :: st) ws) : G l D y cc nL rt rm Q cells slots pc lv (.long x :: st) ws :=
  fun p e s m args below meth c H locs A ls hF hP hD hS hl => lv_l2i hF.1 hF.2.1 hd rfl (k p e s m args below meth c H locs A ls hF hP hD hS hl)
theorem g_dup {v : Value} (hd : decode cc pc = .ok (.dup, 1)) (hc : v.category = 1) (k : G l D y cc nL rt rm Q cells slots (pc + 1) lv (v :: v :: st) ws) : G l D y cc nL rt rm Q cells slots pc lv (v :: st) ws :=
  fun p e s m args below meth c H locs A ls hF hP hD hS hl => lv_dup hF.1 hF.2.1 hd hc (k p e s m args below meth c H locs A ls hF hP hD hS hl)
theorem g_pop {v : Value} (hd : decode cc pc = .ok (.pop, 1)) (hc : v.category = 1) (k : G l D y cc nL rt rm Q cells slots (pc + 1) lv st ws) : G l D y cc nL rt rm Q cells slots pc lv (v :: st) ws :=
  fun p e s m args below meth c H locs A ls hF hP hD hS hl => lv_pop hF.1 hF.2.1 hd hc (k p e s m args below meth c H locs A ls hF hP hD hS hl)
theorem g_dup2 {v w : Value} (hd : decode cc pc = .ok (.dup2, 1)) (hc : v.category = 1) (hc2 : w.category = 1) (k : G l D y cc nL rt rm Q cells slots (pc + 1) lv (v :: w :: v :: w :: st) ws) : G l D y cc nL rt rm Q cells slots pc lv (v :: w :: st) ws :=
  fun p e s m args below meth c H locs A ls hF hP hD hS hl => lv_dup2_11 hF.1 hF.2.1 hd hc hc2 (k p e s m args below meth c H locs A ls hF hP hD hS hl)
theorem g_ifeq {x : Int32} {off : Int} (tgt : Nat) (hd : decode cc pc = .ok (.ifCond .eq off, 3)) (ht : (pc : Int) + off = (tgt : Int)) (kt : x = 0 → G l D y cc nL rt rm Q cells slots tgt lv st ws) (kf : ¬ x = 0 → G l D y cc nL rt rm Q cells slots (pc + 3) lv st ws) : G l D y cc nL rt rm Q cells slots pc lv (.int x :: st) ws :=
  fun p e s m args below meth c H locs A ls hF hP hD hS hl => lv_if_eq hF.1 hF.2.1 hd ht (fun h => (kt h) p e s m args below meth c H locs A ls hF hP hD hS hl) (fun h => ((fun h => kf h) h) p e s m args below meth c H locs A ls hF hP hD hS hl)
theorem g_icmpeq {x z : Int32} {off : Int} (tgt : Nat) (hd : decode cc pc = .ok (.if_icmp .eq off, 3)) (ht : (pc : Int) + off = (tgt : Int)) (kt : x = z → G l D y cc nL rt rm Q cells slots tgt lv st ws) (kf : ¬ x = z → G l D y cc nL rt rm Q cells slots (pc + 3) lv st ws) : G l D y cc nL rt rm Q cells slots pc lv (.int z :: .int x :: st) ws :=
  fun p e s m args below meth c H locs A ls hF hP hD hS hl => lv_icmp_eq hF.1 hF.2.1 hd ht (fun h => (kt h) p e s m args below meth c H locs A ls hF hP hD hS hl) (fun h => ((fun h => kf h) h) p e s m args below meth c H locs A ls hF hP hD hS hl)
theorem g_ifne {x : Int32} {off : Int} (tgt : Nat) (hd : decode cc pc = .ok (.ifCond .ne off, 3)) (ht : (pc : Int) + off = (tgt : Int)) (kt : ¬ x = 0 → G l D y cc nL rt rm Q cells slots tgt lv st ws) (kf : x = 0 → G l D y cc nL rt rm Q cells slots (pc + 3) lv st ws) : G l D y cc nL rt rm Q cells slots pc lv (.int x :: st) ws :=
  fun p e s m args below meth c H locs A ls hF hP hD hS hl => lv_if_ne hF.1 hF.2.1 hd ht (fun h => (kt h) p e s m args below meth c H locs A ls hF hP hD hS hl) (fun h => ((fun h => kf h) h) p e s m args below meth c H locs A ls hF hP hD hS hl)
theorem g_icmpne {x z : Int32} {off : Int} (tgt : Nat) (hd : decode cc pc = .ok (.if_icmp .ne off, 3)) (ht : (pc : Int) + off = (tgt : Int)) (kt : ¬ x = z → G l D y cc nL rt rm Q cells slots tgt lv st ws) (kf : x = z → G l D y cc nL rt rm Q cells slots (pc + 3) lv st ws) : G l D y cc nL rt rm Q cells slots pc lv (.int z :: .int x :: st) ws :=
  fun p e s m args below meth c H locs A ls hF hP hD hS hl => lv_icmp_ne hF.1 hF.2.1 hd ht (fun h => (kt h) p e s m args below meth c H locs A ls hF hP hD hS hl) (fun h => ((fun h => kf h) h) p e s m args below meth c H locs A ls hF hP hD hS hl)
theorem g_iflt {x : Int32} {off : Int} (tgt : Nat) (hd : decode cc pc = .ok (.ifCond .lt off, 3)) (ht : (pc : Int) + off = (tgt : Int)) (kt : x < 0 → G l D y cc nL rt rm Q cells slots tgt lv st ws) (kf : ¬ x < 0 → G l D y cc nL rt rm Q cells slots (pc + 3) lv st ws) : G l D y cc nL rt rm Q cells slots pc lv (.int x :: st) ws :=
  fun p e s m args below meth c H locs A ls hF hP hD hS hl => lv_if_lt hF.1 hF.2.1 hd ht (fun h => (kt h) p e s m args below meth c H locs A ls hF hP hD hS hl) (fun h => ((fun h => kf h) h) p e s m args below meth c H locs A ls hF hP hD hS hl)
theorem g_icmplt {x z : Int32} {off : Int} (tgt : Nat) (hd : decode cc pc = .ok (.if_icmp .lt off, 3)) (ht : (pc : Int) + off = (tgt : Int)) (kt : x < z → G l D y cc nL rt rm Q cells slots tgt lv st ws) (kf : ¬ x < z → G l D y cc nL rt rm Q cells slots (pc + 3) lv st ws) : G l D y cc nL rt rm Q cells slots pc lv (.int z :: .int x :: st) ws :=
  fun p e s m args below meth c H locs A ls hF hP hD hS hl => lv_icmp_lt hF.1 hF.2.1 hd ht (fun h => (kt h) p e s m args below meth c H locs A ls hF hP hD hS hl) (fun h => ((fun h => kf h) h) p e s m args below meth c H locs A ls hF hP hD hS hl)
theorem g_ifge {x : Int32} {off : Int} (tgt : Nat) (hd : decode cc pc = .ok (.ifCond .ge off, 3)) (ht : (pc : Int) + off = (tgt : Int)) (kt : 0 ≤ x → G l D y cc nL rt rm Q cells slots tgt lv st ws) (kf : ¬ 0 ≤ x → G l D y cc nL rt rm Q cells slots (pc + 3) lv st ws) : G l D y cc nL rt rm Q cells slots pc lv (.int x :: st) ws :=
  fun p e s m args below meth c H locs A ls hF hP hD hS hl => lv_if_ge hF.1 hF.2.1 hd ht (fun h => (kt h) p e s m args below meth c H locs A ls hF hP hD hS hl) (fun h => ((fun h => kf h) h) p e s m args below meth c H locs A ls hF hP hD hS hl)
theorem g_icmpge {x z : Int32} {off : Int} (tgt : Nat) (hd : decode cc pc = .ok (.if_icmp .ge off, 3)) (ht : (pc : Int) + off = (tgt : Int)) (kt : z ≤ x → G l D y cc nL rt rm Q cells slots tgt lv st ws) (kf : ¬ z ≤ x → G l D y cc nL rt rm Q cells slots (pc + 3) lv st ws) : G l D y cc nL rt rm Q cells slots pc lv (.int z :: .int x :: st) ws :=
  fun p e s m args below meth c H locs A ls hF hP hD hS hl => lv_icmp_ge hF.1 hF.2.1 hd ht (fun h => (kt h) p e s m args below meth c H locs A ls hF hP hD hS hl) (fun h => ((fun h => kf h) h) p e s m args below meth c H locs A ls hF hP hD hS hl)
theorem g_ifgt {x : Int32} {off : Int} (tgt : Nat) (hd : decode cc pc = .ok (.ifCond .gt off, 3)) (ht : (pc : Int) + off = (tgt : Int)) (kt : 0 < x → G l D y cc nL rt rm Q cells slots tgt lv st ws) (kf : ¬ 0 < x → G l D y cc nL rt rm Q cells slots (pc + 3) lv st ws) : G l D y cc nL rt rm Q cells slots pc lv (.int x :: st) ws :=
  fun p e s m args below meth c H locs A ls hF hP hD hS hl => lv_if_gt hF.1 hF.2.1 hd ht (fun h => (kt h) p e s m args below meth c H locs A ls hF hP hD hS hl) (fun h => ((fun h => kf h) h) p e s m args below meth c H locs A ls hF hP hD hS hl)
theorem g_icmpgt {x z : Int32} {off : Int} (tgt : Nat) (hd : decode cc pc = .ok (.if_icmp .gt off, 3)) (ht : (pc : Int) + off = (tgt : Int)) (kt : z < x → G l D y cc nL rt rm Q cells slots tgt lv st ws) (kf : ¬ z < x → G l D y cc nL rt rm Q cells slots (pc + 3) lv st ws) : G l D y cc nL rt rm Q cells slots pc lv (.int z :: .int x :: st) ws :=
  fun p e s m args below meth c H locs A ls hF hP hD hS hl => lv_icmp_gt hF.1 hF.2.1 hd ht (fun h => (kt h) p e s m args below meth c H locs A ls hF hP hD hS hl) (fun h => ((fun h => kf h) h) p e s m args below meth c H locs A ls hF hP hD hS hl)
theorem g_ifle {x : Int32} {off : Int} (tgt : Nat) (hd : decode cc pc = .ok (.ifCond .le off, 3)) (ht : (pc : Int) + off = (tgt : Int)) (kt : x ≤ 0 → G l D y cc nL rt rm Q cells slots tgt lv st ws) (kf : ¬ x ≤ 0 → G l D y cc nL rt rm Q cells slots (pc + 3) lv st ws) : G l D y cc nL rt rm Q cells slots pc lv (.int x :: st) ws :=
  fun p e s m args below meth c H locs A ls hF hP hD hS hl => lv_if_le hF.1 hF.2.1 hd ht (fun h => (kt h) p e s m args below meth c H locs A ls hF hP hD hS hl) (fun h => ((fun h => kf h) h) p e s m args below meth c H locs A ls hF hP hD hS hl)
theorem g_icmple {x z : Int32} {off : Int} (tgt : Nat) (hd : decode cc pc = .ok (.if_icmp .le off, 3)) (ht : (pc : Int) + off = (tgt : Int)) (kt : x ≤ z → G l D y cc nL rt rm Q cells slots tgt lv st ws) (kf : ¬ x ≤ z → G l D y cc nL rt rm Q cells slots (pc + 3) lv st ws) : G l D y cc nL rt rm Q cells slots pc lv (.int z :: .int x :: st) ws :=
  fun p e s m args below meth c H locs A ls hF hP hD hS hl => lv_icmp_le hF.1 hF.2.1 hd ht (fun h => (kt h) p e s m args below meth c H locs A ls hF hP hD hS hl) (fun h => ((fun h => kf h) h) p e s m args below meth c H locs A ls hF hP hD hS hl)
theorem g_goto {off : Int} (tgt : Nat) (hd : decode cc pc = .ok (.goto off, 3)) (ht : (pc : Int) + off = (tgt : Int)) (k : G l D y cc nL rt rm Q cells slots tgt lv st ws) : G l D y cc nL rt rm Q cells slots pc lv st ws :=
  fun p e s m args below meth c H locs A ls hF hP hD hS hl => lv_goto hF.1 hF.2.1 hd ht (k p e s m args below meth c H locs A ls hF hP hD hS hl)
theorem g_ifnonnull {a : Nat} {off : Int} (tgt : Nat) (hd : decode cc pc = .ok (.ifnonnull off, 3)) (ht : (pc : Int) + off = (tgt : Int)) (k : G l D y cc nL rt rm Q cells slots tgt lv st ws) : G l D y cc nL rt rm Q cells slots pc lv (.ref a :: st) ws :=
  fun p e s m args below meth c H locs A ls hF hP hD hS hl => lv_ifnonnull hF.1 hF.2.1 hd ht (k p e s m args below meth c H locs A ls hF hP hD hS hl)
theorem g_ifnonnullN {off : Int} (hd : decode cc pc = .ok (.ifnonnull off, 3)) (k : G l D y cc nL rt rm Q cells slots (pc + 3) lv st ws) : G l D y cc nL rt rm Q cells slots pc lv (.null :: st) ws :=
  fun p e s m args below meth c H locs A ls hF hP hD hS hl => lv_ifnonnullN hF.1 hF.2.1 hd (k p e s m args below meth c H locs A ls hF hP hD hS hl)
theorem g_lookup {dflt : Int} {ps : Array (Int × Int)} {len : Nat} {x : Int32} {off : Int} (tgt : Nat) (hd : decode cc pc = .ok (.lookupswitch dflt ps, len)) (hp : (ps.toList.zip (ps.toList.drop 1)).all (fun (a, next) => a.1 < next.1) = true) (ho : Op.lookupswitch.offset ps.toList dflt x.toInt = off) (ht : (pc : Int) + off = (tgt : Int)) (k : G l D y cc nL rt rm Q cells slots tgt lv st ws) : G l D y cc nL rt rm Q cells slots pc lv (.int x :: st) ws :=
  fun p e s m args below meth c H locs A ls hF hP hD hS hl => lv_lookup hF.1 hF.2.1 hd hp ho ht (k p e s m args below meth c H locs A ls hF hP hD hS hl)
theorem g_tableOut {dflt lo hi : Int} {offs : Array Int} {len : Nat} {x : Int32} (tgt : Nat) (hd : decode cc pc = .ok (.tableswitch dflt lo hi offs, len)) (h : x.toInt < lo ∨ hi < x.toInt) (ht : (pc : Int) + dflt = (tgt : Int)) (k : G l D y cc nL rt rm Q cells slots tgt lv st ws) : G l D y cc nL rt rm Q cells slots pc lv (.int x :: st) ws :=
  fun p e s m args below meth c H locs A ls hF hP hD hS hl => lv_tableOut hF.1 hF.2.1 hd h ht (k p e s m args below meth c H locs A ls hF hP hD hS hl)
theorem g_tableIn {dflt lo hi : Int} {offs : Array Int} {len : Nat} {x : Int32} {off : Int} (tgt : Nat) (hd : decode cc pc = .ok (.tableswitch dflt lo hi offs, len)) (h1 : ¬ x.toInt < lo) (h2 : ¬ hi < x.toInt) (ho : offs[(x.toInt - lo).toNat]? = some off) (ht : (pc : Int) + off = (tgt : Int)) (k : G l D y cc nL rt rm Q cells slots tgt lv st ws) : G l D y cc nL rt rm Q cells slots pc lv (.int x :: st) ws :=
  fun p e s m args below meth c H locs A ls hF hP hD hS hl => lv_tableIn hF.1 hF.2.1 hd h1 h2 ho ht (k p e s m args below meth c H locs A ls hF hP hD hS hl)
/-- fields -/
theorem g_get {C : String} {T : u_T} {N ci idx a k : Nat} {fs : List Value} {v : Value} (hf : kF y.cls idx C T k) (hC : kC ci C T N) (hk : k < N) (q0 : Nat) (he : ws[q0]? = some (a, .inr (ci, fs))) (hv : fs[k]? = some v) (hd : decode cc pc = .ok (.getfield idx, 3)) (kk : G l D y cc nL rt rm Q cells slots (pc + 3) lv (v :: st) ws) : G l D y cc nL rt rm Q cells slots pc lv (.ref a :: st) ws :=
  fun p e s m args below meth c H locs A ls hF hP hD hS hl => va_get (ref := C) hF.1 hF.2.1 hF.2.2.2.2.2.2.2.1 hC.2.1 hF.2.2.2.2.2.2.1 hF.2.2.2.2.2.2.2.2.1.1 hP q0 he hC.1 k hk (hF.2.2.2.2.2.2.2.1 _ hf) (fun x hx => by rw [hC.2.2 k hk] at hx; exact hx) hv hd (kk p e s m args below meth c H locs A ls hF hP hD hS hl)
theorem g_put {C : String} {T : u_T} {N ci idx a k : Nat} {ty : Nat → FieldType} {fs : List Value} {v : Value} (hf : kF y.cls idx C T k) (hC : kC ci C T N) (hT : kT T N ty) (hk : k < N) (q0 : Nat) (he : ws[q0]? = some (a, .inr (ci, fs))) (hfin : (T k).2.2.2 = false) (hn : narrow (ty k) v = v) (hfit : fits (ty k) v = true) (hl0 : k < fs.length) (hd : decode cc pc = .ok (.putfield idx, 3)) (hw : ws.set q0 (a, .inr (ci, fs.set k v)) = ws') (kk : G l D y cc nL rt rm Q cells slots (pc + 3) lv st ws') : G l D y cc nL rt rm Q cells slots pc lv (v :: .ref a :: st) ws :=
  fun p e s m args below meth c H locs A ls hF hP hD hS hl => va_put (ref := C) hF.1 hF.2.1 hF.2.2.2.2.2.2.2.1 hC.2.1 ty hT.1 hT.2 hF.2.2.2.2.2.2.1 hF.2.2.2.2.2.2.2.2.1.1 hP hD hS q0 he hC.1 k hk (hF.2.2.2.2.2.2.2.1 _ hf) (fun x hx => by rw [hC.2.2 k hk] at hx; exact hx) hfin (hT.1 k hk) hn hfit hl0 hd (fun H locs hP hD hS => by rw [hw] at hP hD; exact kk p e s m args below meth c H locs A ls hF hP hD hS hl)
theorem g_putF {C : String} {T : u_T} {N ci idx a k : Nat} {ty : Nat → FieldType} {fs : List Value} {v : Value} (hf : kF y.cls idx C T k) (hC : kC ci C T N) (hT : kT T N ty) (hk : k < N) (q0 : Nat) (he : ws[q0]? = some (a, .inr (ci, fs))) (hfin : (T k).2.2.2 = true) (hi : y.name = "<init>") (hcl : C = y.cls) (hn : narrow (ty k) v = v) (hfit : fits (ty k) v = true) (hl0 : k < fs.length) (hd : decode cc pc = .ok (.putfield idx, 3)) (hw : ws.set q0 (a, .inr (ci, fs.set k v)) = ws') (kk : G l D y cc nL rt rm Q cells slots (pc + 3) lv st ws') : G l D y cc nL rt rm Q cells slots pc lv (v :: .ref a :: st) ws :=
  fun p e s m args below meth c H locs A ls hF hP hD hS hl => va_putF (ref := C) hF.1 hF.2.1 hF.2.2.2.2.2.2.2.1 hC.2.1 ty hT.1 hT.2 hF.2.2.2.2.2.2.1 hF.2.2.2.2.2.2.2.2.1.1 hP hD hS q0 he hC.1 k hk (hF.2.2.2.2.2.2.2.1 _ hf) (fun x hx => by rw [hC.2.2 k hk] at hx; exact hx) hfin (hF.2.2.2.2.2.1.trans hi) ((hC.2.2 k hk).trans hcl) (hT.1 k hk) hn hfit hl0 hd (fun H locs hP hD hS => by rw [hw] at hP hD; exact kk p e s m args below meth c H locs A ls hF hP hD hS hl)
/-- arrays of int, of boolean, of Town -/
theorem g_iaload {a n : Nat} {f : Nat → Int32} {i : Int32} (q0 : Nat) (ha : ws[q0]? = some (a, .inl (D.2.2.1, n, .inl f))) (hin : vp_in i n) (hd : decode cc pc = .ok (.iaload, 1)) (kk : G l D y cc nL rt rm Q cells slots (pc + 1) lv (.int (f i.toNatClampNeg) :: st) ws) : G l D y cc nL rt rm Q cells slots pc lv (.int i :: .ref a :: st) ws :=
  fun p e s m args below meth c H locs A ls hF hP hD hS hl => va_iald hF.1 hF.2.1 hF.2.2.2.2.2.2.2.2.1.1 hP q0 0 ha rfl hin hd (kk p e s m args below meth c H locs A ls hF hP hD hS hl)
theorem g_iastore {a n : Nat} {f : Nat → Int32} {i x : Int32} (q0 : Nat) (ha : ws[q0]? = some (a, .inl (D.2.2.1, n, .inl f))) (hin : vp_in i n) (hd : decode cc pc = .ok (.iastore, 1)) (hw : ws.set q0 (a, .inl (D.2.2.1, n, .inl (upd f i.toNatClampNeg x))) = ws') (kk : G l D y cc nL rt rm Q cells slots (pc + 1) lv st ws') : G l D y cc nL rt rm Q cells slots pc lv (.int x :: .int i :: .ref a :: st) ws :=
  fun p e s m args below meth c H locs A ls hF hP hD hS hl => va_iast hF.1 hF.2.1 hF.2.2.2.2.2.2.2.2.1.1 hP hD hS q0 0 ha rfl hin hd (fun H locs hP hD hS => by rw [hw] at hP hD; exact kk p e s m args below meth c H locs A ls hF hP hD hS hl)
theorem g_baload {a n : Nat} {f : Nat → Int32} {i : Int32} (q0 : Nat) (ha : ws[q0]? = some (a, .inl (D.2.2.2.1, n, .inl f))) (hin : vp_in i n) (hd : decode cc pc = .ok (.baload, 1)) (kk : G l D y cc nL rt rm Q cells slots (pc + 1) lv (.int (f i.toNatClampNeg) :: st) ws) : G l D y cc nL rt rm Q cells slots pc lv (.int i :: .ref a :: st) ws :=
  fun p e s m args below meth c H locs A ls hF hP hD hS hl => va_zald hF.1 hF.2.1 hF.2.2.2.2.2.2.2.2.1.1 hP q0 1 ha rfl hin hd (kk p e s m args below meth c H locs A ls hF hP hD hS hl)
theorem g_bastore1 {a n : Nat} {f : Nat → Int32} {i : Int32} (q0 : Nat) (ha : ws[q0]? = some (a, .inl (D.2.2.2.1, n, .inl f))) (hin : vp_in i n) (hd : decode cc pc = .ok (.bastore, 1)) (hw : ws.set q0 (a, .inl (D.2.2.2.1, n, .inl (upd f i.toNatClampNeg 1))) = ws') (kk : G l D y cc nL rt rm Q cells slots (pc + 1) lv st ws') : G l D y cc nL rt rm Q cells slots pc lv (.int 1 :: .int i :: .ref a :: st) ws :=
  fun p e s m args below meth c H locs A ls hF hP hD hS hl => va_zast hF.1 hF.2.1 hF.2.2.2.2.2.2.2.2.1.1 hP hD hS q0 1 ha rfl hin hd (fun H locs hP hD hS => by first | (rw [hw] at hP hD; exact kk p e s m args below meth c H locs A ls hF hP hD hS hl) | (have e1 : vp_nar .boolean 1 = 1 := rfl; rw [e1, hw] at hP hD; exact kk p e s m args below meth c H locs A ls hF hP hD hS hl))
theorem g_aaload {a n : Nat} {f : Nat → Option Nat} {i : Int32} (q0 : Nat) (ha : ws[q0]? = some (a, .inl (D.2.2.2.2, n, .inr (.inr (.inr (.inr f)))))) (hin : vp_in i n) (hd : decode cc pc = .ok (.aaload, 1)) (kk : G l D y cc nL rt rm Q cells slots (pc + 1) lv (va_rf (f i.toNatClampNeg) :: st) ws) : G l D y cc nL rt rm Q cells slots pc lv (.int i :: .ref a :: st) ws :=
  fun p e s m args below meth c H locs A ls hF hP hD hS hl => va_aldq hF.1 hF.2.1 hF.2.2.2.2.2.2.2.2.1.1 hP q0 2 ha rfl hin hd (kk p e s m args below meth c H locs A ls hF hP hD hS hl)
theorem g_aastore {a n v ci : Nat} {vs : List Value} {f : Nat → Option Nat} {i : Int32} {r : vw_C} (q0 qk : Nat) (ha : ws[q0]? = some (a, .inl (D.2.2.2.2, n, .inr (.inr (.inr (.inr f)))))) (hv : ws[qk]? = some (v, .inr (ci, vs))) (hc : vwCl[ci]? = some r) (hr : r.1 = RX3) (hin : vp_in i n) (hd : decode cc pc = .ok (.aastore, 1)) (hw : ws.set q0 (a, .inl (D.2.2.2.2, n, .inr (.inr (.inr (.inr (va_up f i.toNatClampNeg (some v))))))) = ws') (kk : G l D y cc nL rt rm Q cells slots (pc + 1) lv st ws') : G l D y cc nL rt rm Q cells slots pc lv (.ref v :: .int i :: .ref a :: st) ws :=
  fun p e s m args below meth c H locs A ls hF hP hD hS hl => va_astq hF.1 hF.2.1 hF.2.2.2.2.2.2.2.2.1.1 hP hD hS q0 2 qk ci ha (by rw [hr]; rfl) hv hc hin hd (fun H locs hP hD hS => by rw [hw] at hP hD; exact kk p e s m args below meth c H locs A ls hF hP hD hS hl)
theorem g_alen {a : Nat} {x : vp_A} {v : Int32} (q0 : Nat) (ha : ws[q0]? = some (a, .inl (D.2.2.1, x))) (hv : Int32.ofNat x.1 = v) (hd : decode cc pc = .ok (.arraylength, 1)) (kk : G l D y cc nL rt rm Q cells slots (pc + 1) lv (.int v :: st) ws) : G l D y cc nL rt rm Q cells slots pc lv (.ref a :: st) ws :=
  fun p e s m args below meth c H locs A ls hF hP hD hS hl => va_alen hF.1 hF.2.1 hF.2.2.2.2.2.2.2.2.1.1 hP q0 0 ha (ty := .int) rfl hv hd (kk p e s m args below meth c H locs A ls hF hP hD hS hl)
theorem g_arraycopy {idx a a0 n0 n1 : Nat} {f g : Nat → Int32} {sp dp n : Int32} (hm : Cond.methodLink y.cls idx arraycopyName ∈ tb) (q0 q1 : Nat) (ha0 : ws[q0]? = some (a0, .inl (D.2.2.1, n0, .inl f))) (ha1 : ws[q1]? = some (a, .inl (D.2.2.1, n1, .inl g))) (h1 : ¬ sp < 0) (h2 : ¬ dp < 0) (h3 : ¬ n < 0) (h4 : sp.toNatClampNeg + n.toNatClampNeg ≤ n0) (h5 : dp.toNatClampNeg + n.toNatClampNeg ≤ n1) (hfr : 1 ≤ rm.frames) (hlo : (st.map fun v => v.category).sum + (nativeFrameWords "java/lang/System" "arraycopy" 5 + 11) ≤ rm.locals) (hd : decode cc pc = .ok (.invokestatic idx, 3)) (hw : ws.set q1 (a, .inl (D.2.2.1, n1, .inl (va_cpy f g sp.toNatClampNeg dp.toNatClampNeg n.toNatClampNeg))) = ws') (kk : G l D y cc nL rt rm Q cells slots (pc + 3) lv st ws') : G l D y cc nL rt rm Q cells slots pc lv (.int n :: .int dp :: .ref a :: .int sp :: .ref a0 :: st) ws :=
  fun p e s m args below meth c H locs A ls hF hP hD hS hl => va_copyi hF.1 hF.2.1 (hF.2.2.1.trans hl.1.symm) hF.2.2.2.2.2.2.1 (hF.2.2.2.2.2.2.2.1 _ hm) (hF.2.2.2.2.2.2.2.1 _ kac.1) (hF.2.2.2.2.2.2.2.1 _ kac.2.1) (hF.2.2.2.2.2.2.2.1 _ kac.2.2) hF.2.2.2.2.2.2.2.2.1.1 hP hD hS q0 q1 0 0 ha0 ha1 (ty := .int) rfl rfl rfl h1 h2 h3 h4 h5 (fun _ _ => rfl) hfr hlo hd (fun H locs hP hD hS => by rw [hw] at hP hD; exact kk p e s m args below meth c H locs A ls hF hP hD hS hl)
/-- returns -/
theorem g_ireturn {v : Int32} (hd : decode cc pc = .ok (.ireturn, 1)) (hc : cells ≤ rm.cells) (hs : slots ≤ rm.slots) (hq : Q (some (.int v)) ws) : G l D y cc nL (some .int) rm Q cells slots pc lv [.int v] ws :=
  fun p e s m args below meth c H locs A ls hF hP hD hS hl => W.widen hc hs (W.iret hF.1 hF.2.1 hF.2.2.2.1 (fun t ht _ => ⟨⟨_, ws, rfl, hq, by rw [ht]; exact hP, hD⟩, hS.F ht⟩) hS.2.2 hd hF.2.2.2.2.1)
theorem g_zreturn {v : Int32} (hd : decode cc pc = .ok (.ireturn, 1)) (hc : cells ≤ rm.cells) (hs : slots ≤ rm.slots) (hv : v = 0 ∨ v = 1) (hq : Q (some (.int v)) ws) : G l D y cc nL (some .boolean) rm Q cells slots pc lv [.int v] ws :=
  fun p e s m args below meth c H locs A ls hF hP hD hS hl => W.widen hc hs (W.zret hF.1 hF.2.1 hF.2.2.2.1 (by rcases hv with rfl | rfl <;> rfl) (fun t ht _ => ⟨⟨_, ws, rfl, hq, by rw [ht]; exact hP, hD⟩, hS.F ht⟩) hS.2.2 hd hF.2.2.2.2.1)
theorem g_lreturn {v : Int64} (hd : decode cc pc = .ok (.lreturn, 1)) (hc : cells ≤ rm.cells) (hs : slots ≤ rm.slots) (hq : Q (some (.long v)) ws) : G l D y cc nL (some .long) rm Q cells slots pc lv [.long v] ws :=
  fun p e s m args below meth c H locs A ls hF hP hD hS hl => W.widen hc hs (W.lret hF.1 hF.2.1 hF.2.2.2.1 (fun t ht _ => ⟨⟨_, ws, rfl, hq, by rw [ht]; exact hP, hD⟩, hS.F ht⟩) hS.2.2 hd hF.2.2.2.2.1)
theorem g_return (hd : decode cc pc = .ok (.return_, 1)) (hc : cells ≤ rm.cells) (hs : slots ≤ rm.slots) (hq : Q none ws) : G l D y cc nL none rm Q cells slots pc lv [] ws :=
  fun p e s m args below meth c H locs A ls hF hP hD hS hl => W.widen hc hs (W.vret hF.1 hF.2.1 hF.2.2.2.1 (fun t ht _ => ⟨⟨_, ws, rfl, hq, by rw [ht]; exact hP, hD⟩, hS.F ht⟩) hS.2.2 hd hF.2.2.2.2.1)
/-- calls: a run of the callee by its contract, then on -/
theorem g_run {p : Program} {e : Env} {s : State} {m : MethodId} {args : Array Value} {below : List Frame} {meth : Method} {c : Code} {H : Heap} {locs : List Loc} {A : Nat → Prop} {ls : Array Slot} {mc ms : Nat} {st0 : List Value} {a : Array Value}
    (hr : va_Run p l e rm s m args below meth c H locs cells slots mc ms (F0 m pc ls st0) st (gQc D Q' (va_A ws H.size) a) (va_A ws H.size)) (hF : gF D y cc nL rt p s m args meth c A) (hD : va_D A ws) (hS : va_S A s.heap H locs) (hl : lv_has ls nL lv)
    (kk : ∀ v u, Q' v u → G l D y cc nL rt rm Q (cells + mc) (slots + ms) (pc + 3) lv (pv v st) u) : W p l e rm s m args below meth c H locs cells slots (MQ below (gQc D Q A) args s rm.cells rm.slots A) (F0 m pc ls st0) := by
  have hA : ∀ q, va_A ws H.size q → A q := by
    intro q h
    rcases h with ⟨k, e, h⟩ | h
    · exact hD.2 k (q, e) h
    · exact hF.2.2.2.2.2.2.2.2.2 q (Nat.le_trans hS.1 h)
  intro T hT X
  obtain ⟨v, st₀, t, T', L, h0, X', hL, e1, e2, ⟨⟨v', u, hv, hp, hP1, hD1⟩, hz, hk⟩, stp⟩ := hr T hT X
  cases hv
  rw [h0] at hz hk
  have hS1 : va_S A s.heap T'.heap (locs ++ L) := ⟨Nat.le_trans hS.1 (by rw [e1]; exact hz), fun q h1 h2 => by rw [e1, hk q (Nat.lt_of_lt_of_le h1 hS.1) (fun z => h2 (hA q z))]; exact hS.2.1 q h1 h2, fun q hq => by
      rcases List.mem_append.mp hq with h | h
      · exact hS.2.2 q h
      · exact hA _ (hL q h)⟩
  have hK := kk v u hp p e s m args below meth c T'.heap (locs ++ L) A ls hF (by rw [e1]; exact hP1) (hD1.weaken (fun k q _ h => hA q.1 h)) hS1 hl
  cases v with
  | none =>
    obtain ⟨t2, a1, b1⟩ := hK T' rfl X'
    exact ⟨t2, stp t2 a1, b1⟩
  | some x =>
    obtain ⟨t2, a1, b1⟩ := hK T' rfl X'
    exact ⟨t2, stp t2 a1, b1⟩
theorem g_goodin {n : Nat} (hy : kY y' cc' nL' rt' n) : GoodIn tb (Cond.code y' cc' nL' rt' :: tb) := by
  intro w hw
  rcases List.mem_cons.mp hw with rfl | h
  · exact ⟨hy.1, good_of_word (tb_all hy.1).2⟩
  · exact ⟨h, good_of_word (tb_all h).2⟩
theorem g_pre {av : List Value} {s : State} {H : Heap} {A : Nat → Prop} (hB : gB D s) (hP : va_P (D.1, D.2.1) vwCl ws H) (hD : va_D A ws) : PreS s H (gPc D av H.size ws) av :=
  ⟨fun a U g mk q => by obtain ⟨q0, q1, qP, qB, qD⟩ := q; exact ⟨q0, q1, qP, gB.same (u := U) rfl qB, qD⟩, fun U hU hW => ⟨rfl, by rw [hU], by rw [hU]; exact hP, gB.warm hW hB, hD.weaken (fun _ _ _ _ => trivial)⟩⟩
/-- an instance method (private too) of an object of the world -/
theorem g_callVA {idx n b ci N : Nat} {T : u_T} {fs As : List Value} (hm : kM y.cls idx y') (hy : kY y' cc' nL' rt' n) (hi : kI y') (hR : rm'.frames + 1 ≤ rm.frames ∧ 8 + (nL' + 11) + rm'.locals ≤ rm.locals) (hcs : cells + rm'.cells ≤ rm.cells ∧ slots + rm'.slots ≤ rm.slots) (q0 : Nat) (he : ws[q0]? = some (b, .inr (ci, fs))) (hC : vwCl[ci]? = some (y'.cls, T, N)) (hn : As.length = n) (hst : (st.map fun v => v.category).sum ≤ 8) (hd : decode cc pc = .ok (.invokevirtual idx, 3)) {st0 : List Value} (hs : st0 = As.reverse ++ .ref b :: st)
    (hM : Ctr l D y' cc' nL' rt' rm' (.ref b :: As) ws (fun v u => G l D y cc nL rt rm Q (cells + rm'.cells) (slots + rm'.slots) (pc + 3) lv (pv v st) u)) : G l D y cc nL rt rm Q cells slots pc lv st0 ws := by
  intro p e s m args below meth c H locs A ls hF hP hD hS hl
  have hpre := g_pre (av := .ref b :: As) hF.2.2.2.2.2.2.2.2.1 hP hD
  refine g_run (va_runV (As := As) (rest := st) (b := b) (C := y'.cls) (bytes := cc') (maxL := nL') (ret := rt') ⟨hF.1, hF.2.1, hF.2.2.1, hF.2.2.2.2.2.2.1, hF.2.2.2.2.2.2.2.1⟩ (hM H.size) ⟨callB_of n hF.2.2.2.2.2.2.2.1 (g_goodin hy) rfl rfl rfl (hF.2.2.2.2.2.2.2.1 _ hy.2.1) (hF.2.2.2.2.2.2.2.1 _ hm) hy.2.2.1 hR, hF.2.2.2.2.2.2.2.1 _ hi.1, hF.2.2.2.2.2.2.2.1 _ hi.2⟩ ⟨hpre.1, va_recv hF.2.2.2.2.2.2.2.2.1.1 hP hC he, hpre.2⟩ rfl hn hl.1 hs (lv_room hst) hd hcs) hF hD hS hl (fun v u h => h)
/-- a static method of any class, by a plain link -/
theorem g_callSA {idx n : Nat} {As : List Value} (hm : kM y.cls idx y') (hy : kY y' cc' nL' rt' n) (hi : kS y') (hR : rm'.frames + 1 ≤ rm.frames ∧ 8 + (nL' + 11) + rm'.locals ≤ rm.locals) (hcs : cells + rm'.cells ≤ rm.cells ∧ slots + rm'.slots ≤ rm.slots) (hn : As.length = n) (hst : (st.map fun v => v.category).sum ≤ 8) (hd : decode cc pc = .ok (.invokestatic idx, 3)) {st0 : List Value} (hs : st0 = As.reverse ++ st)
    (hM : Ctr l D y' cc' nL' rt' rm' As ws (fun v u => G l D y cc nL rt rm Q (cells + rm'.cells) (slots + rm'.slots) (pc + 3) lv (pv v st) u)) : G l D y cc nL rt rm Q cells slots pc lv st0 ws := by
  intro p e s m args below meth c H locs A ls hF hP hD hS hl
  refine g_run (va_runS (As := As) (rest := st) (bytes := cc') (maxL := nL') (ret := rt') ⟨hF.1, hF.2.1, hF.2.2.1, hF.2.2.2.2.2.2.1, hF.2.2.2.2.2.2.2.1⟩ (hM H.size) ⟨callB_of n hF.2.2.2.2.2.2.2.1 (g_goodin hy) rfl rfl rfl (hF.2.2.2.2.2.2.2.1 _ hy.2.1) (hF.2.2.2.2.2.2.2.1 _ hm) hy.2.2.1 hR, hF.2.2.2.2.2.2.2.1 _ hi⟩ (g_pre hF.2.2.2.2.2.2.2.2.1 hP hD) rfl hn hl.1 hs (lv_room hst) hd hcs) hF hD hS hl (fun v u h => h)
/-- a constructor -/
theorem g_callIA {idx n b : Nat} {As : List Value} (hm : kM y.cls idx y') (hy : kY y' cc' nL' none n) (hi : kN y') (hR : rm'.frames + 1 ≤ rm.frames ∧ 8 + (nL' + 11) + rm'.locals ≤ rm.locals) (hcs : cells + rm'.cells ≤ rm.cells ∧ slots + rm'.slots ≤ rm.slots) (hn : As.length = n) (hst : (st.map fun v => v.category).sum ≤ 8) (hd : decode cc pc = .ok (.invokespecial idx, 3)) {st0 : List Value} (hs : st0 = As.reverse ++ .ref b :: st)
    (hM : Ctr l D y' cc' nL' none rm' (.ref b :: As) ws (fun v u => G l D y cc nL rt rm Q (cells + rm'.cells) (slots + rm'.slots) (pc + 3) lv (pv v st) u)) : G l D y cc nL rt rm Q cells slots pc lv st0 ws := by
  intro p e s m args below meth c H locs A ls hF hP hD hS hl
  refine g_run (va_runI (As := As) (rest := st) (b := b) (bytes := cc') (maxL := nL') ⟨hF.1, hF.2.1, hF.2.2.1, hF.2.2.2.2.2.2.1, hF.2.2.2.2.2.2.2.1⟩ (hM H.size) ⟨callB_of n hF.2.2.2.2.2.2.2.1 (g_goodin hy) rfl rfl rfl (hF.2.2.2.2.2.2.2.1 _ hy.2.1) (hF.2.2.2.2.2.2.2.1 _ hm) hy.2.2.1 hR, hi.2, hF.2.2.2.2.2.2.2.1 _ hi.1⟩ (g_pre hF.2.2.2.2.2.2.2.2.1 hP hD) rfl hn hl.1 hs (lv_room hst) hd hcs) hF hD hS hl (fun v u h => h)
/-- a private static method of the nest's host -/
theorem g_callNA {idx n : Nat} {As : List Value} {host : String} (hm : ∀ s : State, gB D s → va_Nw (.methodLinkNest y.cls idx y' host) s) (hy : kY y' cc' nL' rt' n) (hi : kS y') (hR : rm'.frames + 1 ≤ rm.frames ∧ 8 + (nL' + 11) + rm'.locals ≤ rm.locals) (hcs : cells + rm'.cells ≤ rm.cells ∧ slots + rm'.slots ≤ rm.slots) (hn : As.length = n) (hst : (st.map fun v => v.category).sum ≤ 8) (hd : decode cc pc = .ok (.invokestatic idx, 3)) {st0 : List Value} (hs : st0 = As.reverse ++ st)
    (hM : Ctr l D y' cc' nL' rt' rm' As ws (fun v u => G l D y cc nL rt rm Q (cells + rm'.cells) (slots + rm'.slots) (pc + 3) lv (pv v st) u)) : G l D y cc nL rt rm Q cells slots pc lv st0 ws := by
  intro p e s m args below meth c H locs A ls hF hP hD hS hl
  refine g_run (va_runSN (As := As) (rest := st) (bytes := cc') (maxL := nL') (ret := rt') (host := host) ⟨hF.1, hF.2.1, hF.2.2.1, hF.2.2.2.2.2.2.1, hF.2.2.2.2.2.2.2.1⟩ (hM H.size) ⟨va_cnB n hF.2.2.2.2.2.2.2.1 (g_goodin hy) rfl rfl rfl (hm s hF.2.2.2.2.2.2.2.2.1) (hF.2.2.2.2.2.2.2.1 _ hy.2.1) hy.2.2.1 hR, hF.2.2.2.2.2.2.2.1 _ hi, trivial⟩ (g_pre hF.2.2.2.2.2.2.2.2.1 hP hD) rfl hn hl.1 hs (lv_room hst) hd hcs) hF hD hS hl (fun v u h => h)
theorem rr_ok {d : Nat} (h : nL' ≤ 29) : (rr d).frames + 1 ≤ (rr (d + 1)).frames ∧ 8 + (nL' + 11) + (rr d).locals ≤ (rr (d + 1)).locals := ⟨Nat.le_refl _, by show 8 + (nL' + 11) + 48 * d ≤ 48 * (d + 1); omega⟩
theorem g_callV {d : Nat} {idx n b ci N : Nat} {T : u_T} {fs As : List Value} (hm : kM y.cls idx y') (hy : kY y' cc' nL' rt' n) (hi : kI y') (hnl : nL' ≤ 29) (q0 : Nat) (he : ws[q0]? = some (b, .inr (ci, fs))) (hC : vwCl[ci]? = some (y'.cls, T, N)) (hn : As.length = n) (hst : (st.map fun v => v.category).sum ≤ 8) (hd : decode cc pc = .ok (.invokevirtual idx, 3)) {st0 : List Value} (hs : st0 = As.reverse ++ .ref b :: st)
    (hM : Ctr l D y' cc' nL' rt' (rr d) (.ref b :: As) ws (fun v u => G l D y cc nL rt (rr (d + 1)) Q 0 0 (pc + 3) lv (pv v st) u)) : G l D y cc nL rt (rr (d + 1)) Q 0 0 pc lv st0 ws := by
  have hcs : 0 + (rr d).cells ≤ (rr (d + 1)).cells ∧ 0 + (rr d).slots ≤ (rr (d + 1)).slots := ⟨Nat.le_refl _, Nat.le_refl _⟩
  exact g_callVA hm hy hi (rr_ok hnl) ⟨hcs.1, hcs.2⟩ q0 he hC hn hst hd hs hM
theorem g_callS {d : Nat} {idx n : Nat} {As : List Value} (hm : kM y.cls idx y') (hy : kY y' cc' nL' rt' n) (hi : kS y') (hnl : nL' ≤ 29) (hn : As.length = n) (hst : (st.map fun v => v.category).sum ≤ 8) (hd : decode cc pc = .ok (.invokestatic idx, 3)) {st0 : List Value} (hs : st0 = As.reverse ++ st)
    (hM : Ctr l D y' cc' nL' rt' (rr d) As ws (fun v u => G l D y cc nL rt (rr (d + 1)) Q 0 0 (pc + 3) lv (pv v st) u)) : G l D y cc nL rt (rr (d + 1)) Q 0 0 pc lv st0 ws := by
  have hcs : 0 + (rr d).cells ≤ (rr (d + 1)).cells ∧ 0 + (rr d).slots ≤ (rr (d + 1)).slots := ⟨Nat.le_refl _, Nat.le_refl _⟩
  exact g_callSA hm hy hi (rr_ok hnl) ⟨hcs.1, hcs.2⟩ hn hst hd hs hM
theorem g_callN {d : Nat} {idx n : Nat} {As : List Value} {host : String} (hm : ∀ s : State, gB D s → va_Nw (.methodLinkNest y.cls idx y' host) s) (hy : kY y' cc' nL' rt' n) (hi : kS y') (hnl : nL' ≤ 29) (hn : As.length = n) (hst : (st.map fun v => v.category).sum ≤ 8) (hd : decode cc pc = .ok (.invokestatic idx, 3)) {st0 : List Value} (hs : st0 = As.reverse ++ st)
    (hM : Ctr l D y' cc' nL' rt' (rr d) As ws (fun v u => G l D y cc nL rt (rr (d + 1)) Q 0 0 (pc + 3) lv (pv v st) u)) : G l D y cc nL rt (rr (d + 1)) Q 0 0 pc lv st0 ws := by
  have hcs : 0 + (rr d).cells ≤ (rr (d + 1)).cells ∧ 0 + (rr d).slots ≤ (rr (d + 1)).slots := ⟨Nat.le_refl _, Nat.le_refl _⟩
  exact g_callNA hm hy hi (rr_ok hnl) ⟨hcs.1, hcs.2⟩ hn hst hd hs hM
end ENG
end
section
/-! THE WORLD: every cell of class and reference by its number (Towns 0, 12, 62, 74 with their rows behind them; WeighedWords 24, images 25, Pad 26, signs 27, Day 28, Orders 29, its rows 30 to 32; the reference 33, its rows 34 to 61); L: the addresses; the state: ints of objects, rows of ints, how many images were made, which image lies where -/
abbrev St : Type := (Nat → Nat → Int32) × (Nat → Nat → Int32) × Nat × (Nat → Option Nat)
abbrev sI (σ : St) : Nat → Nat → Int32 := σ.1
abbrev sA (σ : St) : Nat → Nat → Int32 := σ.2.1
abbrev sK (σ : St) : Nat := σ.2.2.1
abbrev sM (σ : St) : Nat → Option Nat := σ.2.2.2
def tnF (I : Nat → Int32) (L : Nat → Nat) (b : Nat) : List Value := [.int (I 0), .int (I 1), .ref (L (b + 1)), .ref (L (b + 2)), .ref (L (b + 3)), .ref (L (b + 4)), .int (I 6), .ref (L (b + 5)), .ref (L (b + 6)), .ref (L (b + 7)), .ref (L (b + 8)), .ref (L (b + 9)), .int (I 12), .int (I 13), .int (I 14), .ref (L (b + 10)), .ref (L (b + 11))]
def mdF (I : Nat → Int32) (L : Nat → Nat) : List Value := [.int (I 0), .int (I 1), .int (I 2), .int (I 3), .ref (L 34), .ref (L 35), .ref (L 36), .ref (L 37), .ref (L 38), .ref (L 39), .ref (L 40), .ref (L 41), .ref (L 42), .int (I 13), .ref (L 43), .ref (L 44), .int (I 16), .ref (L 45), .int (I 18), .ref (L 46), .ref (L 47), .ref (L 48), .ref (L 49), .int (I 23), .int (I 24), .int (I 25), .int (I 26), .int (I 27), .int (I 28), .int (I 29), .ref (L 50), .ref (L 51), .ref (L 52), .ref (L 53), .int (I 34), .ref (L 54), .int (I 36), .ref (L 55), .ref (L 56), .int (I 39), .ref (L 57), .ref (L 58), .ref (L 59), .ref (L 60), .ref (L 61), .int (I 45), .int (I 46)]
def alens : List Nat := [0, 8, 8, 8, 8, 6, 6, 6, 8, 8, 6, 6, 0, 8, 8, 8, 8, 6, 6, 6, 8, 8, 6, 6, 0, 2, 0, 60, 0, 0, 6, 6, 36, 0, 8, 8, 8, 8, 6, 6, 6, 8, 8, 6, 6, 60, 60, 60, 60, 60, 6, 6, 8, 8, 6, 6, 6, 6, 6, 6, 200, 2]
def alen (q : Nat) : Nat := alens.getD (if q < 62 then q else (q - 62) % 12) 0
def cellE (D : gE) (L : Nat → Nat) (q : Nat) (I A : Nat → Int32) (im : Nat → Option Nat) : va_E :=
  if q = 0 ∨ q = 12 ∨ q = 62 ∨ q = 74 then .inr (3, tnF I L q)
  else if q = 24 then .inr (4, [.ref (L 0), .ref (L 12), .ref (L 25), .ref (L 26), .ref (L 28), .ref (L 29)])
  else if q = 25 then .inl (D.2.2.2.2, 2, .inr (.inr (.inr (.inr (fun i => (im i).map L)))))
  else if q = 26 then .inr (2, [.ref (L 27), .int (I 1)])
  else if q = 28 then .inr (0, [.int (I 0), .int (I 1), .int (I 2), .int (I 3), .int (I 4), .int (I 5)])
  else if q = 29 then .inr (1, [.ref (L 30), .ref (L 31), .ref (L 32)])
  else if q = 33 then .inr (5, mdF I L)
  else if q = 61 then .inl (D.2.2.2.1, 2, .inl A)
  else .inl (D.2.2.1, alen q, .inl A)
def wsOf (D : gE) (L : Nat → Nat) (σ : St) : va_W := (List.range (62 + 12 * sK σ)).map (fun q => (L q, cellE D L q (sI σ q) (sA σ q) (sM σ)))
def setI (σ : St) (o k : Nat) (x : Int32) : St := (fun o' => if o' = o then upd (sI σ o) k x else sI σ o', sA σ, sK σ, sM σ)
def setA (σ : St) (q : Nat) (f : Nat → Int32) : St := (sI σ, fun q' => if q' = q then f else sA σ q', sK σ, sM σ)
/-- a Town that is there -/
def tn (σ : St) (b : Nat) : Prop := b = 0 ∨ b = 12 ∨ (b = 62 ∧ 1 ≤ sK σ) ∨ (b = 74 ∧ 2 ≤ sK σ)
/-- an int row with a number of its own -/
def isIA (q : Nat) : Bool := q < 62 && !(q == 0 || q == 12 || q == 24 || q == 25 || q == 26 || q == 28 || q == 29 || q == 33 || q == 61)
section WLD
variable {D : gE} {L : Nat → Nat} {σ : St}
theorem ws_len : (wsOf D L σ).length = 62 + 12 * sK σ := by simp [wsOf]
theorem ws_at {q : Nat} (h : q < 62 + 12 * sK σ) : (wsOf D L σ)[q]? = some (L q, cellE D L q (sI σ q) (sA σ q) (sM σ)) := by
  simp only [wsOf, List.getElem?_map, List.getElem?_range h, Option.map_some]
theorem tn_lt {b : Nat} (h : tn σ b) : b + 11 < 62 + 12 * sK σ := by
  rcases h with h | h | ⟨h, h2⟩ | ⟨h, h2⟩ <;> omega
theorem at_tn {b : Nat} (h : tn σ b) : (wsOf D L σ)[b]? = some (L b, .inr (3, tnF (sI σ b) L b)) := by
  rw [ws_at (by have := tn_lt h; omega)]
  have hb : b = 0 ∨ b = 12 ∨ b = 62 ∨ b = 74 := by rcases h with h | h | ⟨h, -⟩ | ⟨h, -⟩ <;> simp [h]
  unfold cellE
  rw [if_pos hb]
theorem at_ta {b : Nat} (h : tn σ b) (j : Nat) (h1 : 1 ≤ j) (h2 : j ≤ 11) : (wsOf D L σ)[b + j]? = some (L (b + j), .inl (D.2.2.1, alen j, .inl (sA σ (b + j)))) := by
  rw [ws_at (by have := tn_lt h; omega)]
  unfold cellE
  have hb : b = 0 ∨ b = 12 ∨ b = 62 ∨ b = 74 := by rcases h with h | h | ⟨h, -⟩ | ⟨h, -⟩ <;> simp [h]
  rw [if_neg (by omega), if_neg (by omega), if_neg (by omega), if_neg (by omega), if_neg (by omega), if_neg (by omega), if_neg (by omega), if_neg (by omega)]
  have e : alen (b + j) = alen j := by
    have hj : ∀ j, j < 12 → 1 ≤ j → alen (0 + j) = alen j ∧ alen (12 + j) = alen j ∧ alen (62 + j) = alen j ∧ alen (74 + j) = alen j := by decide +kernel
    have := hj j (by omega) h1
    rcases hb with rfl | rfl | rfl | rfl
    · exact this.1
    · exact this.2.1
    · exact this.2.2.1
    · exact this.2.2.2
  rw [e]
theorem at_ia {q : Nat} (h : isIA q = true) : (wsOf D L σ)[q]? = some (L q, .inl (D.2.2.1, alen q, .inl (sA σ q))) := by
  simp only [isIA, Bool.and_eq_true, Bool.not_eq_true', Bool.or_eq_false_iff, beq_eq_false_iff_ne, decide_eq_true_eq] at h
  rw [ws_at (by omega)]
  unfold cellE
  rw [if_neg (by omega), if_neg (by omega), if_neg (by omega), if_neg (by omega), if_neg (by omega), if_neg (by omega), if_neg (by omega), if_neg (by omega)]
theorem at_24 : (wsOf D L σ)[24]? = some (L 24, .inr (4, [.ref (L 0), .ref (L 12), .ref (L 25), .ref (L 26), .ref (L 28), .ref (L 29)])) := ws_at (by omega)
theorem at_25 : (wsOf D L σ)[25]? = some (L 25, .inl (D.2.2.2.2, 2, .inr (.inr (.inr (.inr (fun i => (sM σ i).map L)))))) := ws_at (by omega)
theorem at_26 : (wsOf D L σ)[26]? = some (L 26, .inr (2, [.ref (L 27), .int (sI σ 26 1)])) := ws_at (by omega)
theorem at_28 : (wsOf D L σ)[28]? = some (L 28, .inr (0, [.int (sI σ 28 0), .int (sI σ 28 1), .int (sI σ 28 2), .int (sI σ 28 3), .int (sI σ 28 4), .int (sI σ 28 5)])) := ws_at (by omega)
theorem at_29 : (wsOf D L σ)[29]? = some (L 29, .inr (1, [.ref (L 30), .ref (L 31), .ref (L 32)])) := ws_at (by omega)
theorem at_33 : (wsOf D L σ)[33]? = some (L 33, .inr (5, mdF (sI σ 33) L)) := ws_at (by omega)
theorem at_61 : (wsOf D L σ)[61]? = some (L 61, .inl (D.2.2.2.1, 2, .inl (sA σ 61))) := ws_at (by omega)
theorem ws_ext {σ' : St} {q : Nat} {e : va_E} (hk : sK σ' = sK σ) (h : q < 62 + 12 * sK σ) (hq : cellE D L q (sI σ' q) (sA σ' q) (sM σ') = e) (ho : ∀ r, r ≠ q → cellE D L r (sI σ' r) (sA σ' r) (sM σ') = cellE D L r (sI σ r) (sA σ r) (sM σ)) : (wsOf D L σ).set q (L q, e) = wsOf D L σ' := by
  apply List.ext_getElem?
  intro r
  by_cases hr : r < 62 + 12 * sK σ
  · rw [List.getElem?_set, ws_at (σ := σ') (by rw [hk]; exact hr)]
    by_cases e1 : q = r
    · subst e1
      rw [if_pos rfl, if_pos (by rw [ws_len]; exact hr), hq]
    · rw [if_neg e1, ws_at hr, ho r (fun z => e1 z.symm)]
  · rw [List.getElem?_eq_none (by rw [List.length_set, ws_len]; omega), List.getElem?_eq_none (by rw [ws_len, hk]; omega)]
theorem ws_setI {o k ci : Nat} {x : Int32} {fs : List Value} (ho : o < 62 + 12 * sK σ) (hc : cellE D L o (upd (sI σ o) k x) (sA σ o) (sM σ) = .inr (ci, fs)) : (wsOf D L σ).set o (L o, .inr (ci, fs)) = wsOf D L (setI σ o k x) := by
  refine ws_ext (by rfl) ho ?_ ?_
  · show cellE D L o (if o = o then _ else _) _ _ = _
    rw [if_pos rfl]
    exact hc
  · intro r hr
    show cellE D L r (if r = o then _ else _) _ _ = _
    rw [if_neg hr]
    rfl
theorem ws_setA {q n : Nat} {c : ClassId} (h : (wsOf D L σ)[q]? = some (L q, .inl (c, n, .inl (sA σ q)))) (f : Nat → Int32) : (wsOf D L σ).set q (L q, .inl (c, n, .inl f)) = wsOf D L (setA σ q f) := by
  have hq : q < 62 + 12 * sK σ := by
    rw [← ws_len (D := D) (L := L)]
    exact (List.getElem?_eq_some_iff.mp h).1
  rw [ws_at hq] at h
  have h1 := (Prod.mk.inj (Option.some.inj h)).2
  refine ws_ext (by rfl) hq ?_ ?_
  · show cellE D L q _ (if q = q then _ else _) _ = _
    rw [if_pos rfl]
    show cellE D L q (sI σ q) f (sM σ) = _
    revert h1
    unfold cellE
    split
    · intro h1; cases h1
    split
    · intro h1; cases h1
    split
    · intro h1; injection h1 with h1; injection h1 with h1 h2; injection h2 with h2 h3; cases h3
    split
    · intro h1; cases h1
    split
    · intro h1; cases h1
    split
    · intro h1; cases h1
    split
    · intro h1; cases h1
    split
    · intro h1; injection h1 with h1; injection h1 with h1 h2; injection h2 with h2 h3; rw [h1, h2]
    · intro h1; injection h1 with h1; injection h1 with h1 h2; injection h2 with h2 h3; rw [h1, h2]
  · intro r hr
    show cellE D L r _ (if r = q then _ else _) _ = _
    rw [if_neg hr]
    rfl
theorem tnF_set {I : Nat → Int32} {b k : Nat} {x : Int32} (hk : k = 0 ∨ k = 1 ∨ k = 6 ∨ k = 12 ∨ k = 13 ∨ k = 14) : tnF (upd I k x) L b = (tnF I L b).set k (.int x) := by
  rcases hk with rfl | rfl | rfl | rfl | rfl | rfl <;> rfl
theorem mdF_set {I : Nat → Int32} {k : Nat} {x : Int32} (hk : [0, 1, 2, 3, 13, 16, 18, 23, 24, 25, 26, 27, 28, 29, 34, 36, 39, 45, 46].contains k = true) : mdF (upd I k x) L = (mdF I L).set k (.int x) := by
  have hk := List.contains_iff_mem.mp hk
  simp only [List.mem_cons, List.not_mem_nil, or_false] at hk
  rcases hk with rfl | rfl | rfl | rfl | rfl | rfl | rfl | rfl | rfl | rfl | rfl | rfl | rfl | rfl | rfl | rfl | rfl | rfl | rfl <;> rfl
theorem put_tn {b k : Nat} {x : Int32} (h : tn σ b) (hk : k = 0 ∨ k = 1 ∨ k = 6 ∨ k = 12 ∨ k = 13 ∨ k = 14) : (wsOf D L σ).set b (L b, .inr (3, (tnF (sI σ b) L b).set k (.int x))) = wsOf D L (setI σ b k x) := by
  have hb : b = 0 ∨ b = 12 ∨ b = 62 ∨ b = 74 := by rcases h with h | h | ⟨h, -⟩ | ⟨h, -⟩ <;> simp [h]
  refine ws_setI (by have := tn_lt h; omega) ?_
  unfold cellE
  rw [if_pos hb, tnF_set hk]
theorem put_33 {k : Nat} {x : Int32} (hk : [0, 1, 2, 3, 13, 16, 18, 23, 24, 25, 26, 27, 28, 29, 34, 36, 39, 45, 46].contains k = true) : (wsOf D L σ).set 33 (L 33, .inr (5, (mdF (sI σ 33) L).set k (.int x))) = wsOf D L (setI σ 33 k x) := by
  refine ws_setI (by omega) ?_
  show (Sum.inr (5, mdF _ L) : va_E) = _
  rw [mdF_set hk]
theorem put_26 {x : Int32} : (wsOf D L σ).set 26 (L 26, .inr (2, ([.ref (L 27), .int (sI σ 26 1)] : List Value).set 1 (.int x))) = wsOf D L (setI σ 26 1 x) := ws_setI (by omega) rfl
theorem put_28 {k : Nat} {x : Int32} (hk : k < 6) : (wsOf D L σ).set 28 (L 28, .inr (0, ([.int (sI σ 28 0), .int (sI σ 28 1), .int (sI σ 28 2), .int (sI σ 28 3), .int (sI σ 28 4), .int (sI σ 28 5)] : List Value).set k (.int x))) = wsOf D L (setI σ 28 k x) := by
  refine ws_setI (by omega) ?_
  rcases (show k = 0 ∨ k = 1 ∨ k = 2 ∨ k = 3 ∨ k = 4 ∨ k = 5 by omega) with rfl | rfl | rfl | rfl | rfl | rfl <;> rfl
end WLD
section WR
variable {l : Launch} {D : gE} {y y' : MethodName} {cc cc' : ByteArray} {nL nL' : Nat} {rt rt' : Option FieldType} {rm rm' : Room} {Q Q' : Option Value → va_W → Prop} {cells slots pc : Nat} {lv lv' : List (Nat × Value)} {st : List Value} {L : Nat → Nat} {σ : St}
/-- a row read and written at a number -/
theorem s_ald {q n j : Nat} (ha : (wsOf D L σ)[q]? = some (L q, .inl (D.2.2.1, n, .inl (sA σ q)))) (hj : j < n) (hn : n < 2 ^ 31) (hd : decode cc pc = .ok (.iaload, 1)) (kk : G l D y cc nL rt rm Q cells slots (pc + 1) lv (.int (sA σ q j) :: st) (wsOf D L σ)) : G l D y cc nL rt rm Q cells slots pc lv (.int (nI j) :: .ref (L q) :: st) (wsOf D L σ) := by
  refine g_iaload q ha (vp_in_nI hj hn) hd ?_
  rw [nI_clamp (by omega)]
  exact kk
theorem s_ast {q n j : Nat} {x : Int32} (ha : (wsOf D L σ)[q]? = some (L q, .inl (D.2.2.1, n, .inl (sA σ q)))) (hj : j < n) (hn : n < 2 ^ 31) (hd : decode cc pc = .ok (.iastore, 1)) (kk : G l D y cc nL rt rm Q cells slots (pc + 1) lv st (wsOf D L (setA σ q (upd (sA σ q) j x)))) : G l D y cc nL rt rm Q cells slots pc lv (.int x :: .int (nI j) :: .ref (L q) :: st) (wsOf D L σ) := by
  refine g_iastore q ha (vp_in_nI hj hn) hd (ws' := wsOf D L (setA σ q (upd (sA σ q) j x))) ?_ kk
  rw [nI_clamp (by omega)]
  exact ws_setA ha _
/-- fields of a Town -/
theorem s_getT {b idx k : Nat} {v : Value} (hb : tn σ b) (hf : kF y.cls idx RX3 TX3 k) (hk : k < 17) (hv : (tnF (sI σ b) L b)[k]? = some v) (hd : decode cc pc = .ok (.getfield idx, 3)) (kk : G l D y cc nL rt rm Q cells slots (pc + 3) lv (v :: st) (wsOf D L σ)) : G l D y cc nL rt rm Q cells slots pc lv (.ref (L b) :: st) (wsOf D L σ) := g_get hf kC_X3 hk b (at_tn hb) hv hd kk
theorem s_putT {b idx k : Nat} {x : Int32} (hb : tn σ b) (hf : kF y.cls idx RX3 TX3 k) (hk : k = 0 ∨ k = 1 ∨ k = 6 ∨ k = 12 ∨ k = 13 ∨ k = 14) (hd : decode cc pc = .ok (.putfield idx, 3)) (kk : G l D y cc nL rt rm Q cells slots (pc + 3) lv st (wsOf D L (setI σ b k x))) : G l D y cc nL rt rm Q cells slots pc lv (.int x :: .ref (L b) :: st) (wsOf D L σ) := by
  have h0 : k < 17 ∧ (TX3 k).2.2.2 = false ∧ tyX3 k = .int := by rcases hk with rfl | rfl | rfl | rfl | rfl | rfl <;> exact ⟨by omega, rfl, rfl⟩
  exact g_put hf kC_X3 kT_X3 h0.1 b (at_tn hb) h0.2.1 (by rw [h0.2.2]; rfl) (by rw [h0.2.2]; rfl) h0.1 hd (put_tn hb hk) kk
/-- fields of the reference -/
theorem s_getM {idx k : Nat} {v : Value} (hf : kF y.cls idx RX5 TX5 k) (hk : k < 47) (hv : (mdF (sI σ 33) L)[k]? = some v) (hd : decode cc pc = .ok (.getfield idx, 3)) (kk : G l D y cc nL rt rm Q cells slots (pc + 3) lv (v :: st) (wsOf D L σ)) : G l D y cc nL rt rm Q cells slots pc lv (.ref (L 33) :: st) (wsOf D L σ) := g_get hf kC_X5 hk 33 at_33 hv hd kk
theorem s_putM {idx k : Nat} {x : Int32} (hf : kF y.cls idx RX5 TX5 k) (hk : [0, 1, 2, 3, 13, 16, 18, 23, 24, 25, 26, 27, 28, 29, 34, 36, 39, 45].contains k = true) (hd : decode cc pc = .ok (.putfield idx, 3)) (kk : G l D y cc nL rt rm Q cells slots (pc + 3) lv st (wsOf D L (setI σ 33 k x))) : G l D y cc nL rt rm Q cells slots pc lv (.int x :: .ref (L 33) :: st) (wsOf D L σ) := by
  have h0 : ∀ k, [0, 1, 2, 3, 13, 16, 18, 23, 24, 25, 26, 27, 28, 29, 34, 36, 39, 45].contains k = true → k < 47 ∧ (TX5 k).2.2.2 = false ∧ tyX5 k = .int := by
    intro k hk
    have hk := List.contains_iff_mem.mp hk
    simp only [List.mem_cons, List.not_mem_nil, or_false] at hk
    rcases hk with rfl | rfl | rfl | rfl | rfl | rfl | rfl | rfl | rfl | rfl | rfl | rfl | rfl | rfl | rfl | rfl | rfl | rfl <;> exact ⟨by omega, rfl, rfl⟩
  have h0 := h0 k hk
  exact g_put hf kC_X5 kT_X5 h0.1 33 at_33 h0.2.1 (by rw [h0.2.2]; rfl) (by rw [h0.2.2]; rfl) (by show k < 47; exact h0.1) hd (put_33 (by revert hk; simp only [List.contains_iff_mem, List.mem_cons, List.not_mem_nil, or_false]; omega)) kk
/-- the reference's boolean field -/
theorem s_putMz {idx : Nat} {x : Int32} (hx : x = 0 ∨ x = 1) (hf : kF y.cls idx RX5 TX5 46) (hd : decode cc pc = .ok (.putfield idx, 3)) (kk : G l D y cc nL rt rm Q cells slots (pc + 3) lv st (wsOf D L (setI σ 33 46 x))) : G l D y cc nL rt rm Q cells slots pc lv (.int x :: .ref (L 33) :: st) (wsOf D L σ) :=
  g_put hf kC_X5 kT_X5 (by decide) 33 at_33 rfl (by rcases hx with rfl | rfl <;> rfl) (by rcases hx with rfl | rfl <;> rfl) (by show 46 < 47; decide) hd (put_33 (by decide)) kk
theorem s_putP {idx : Nat} {x : Int32} (hf : kF y.cls idx RX2 TX2 1) (hd : decode cc pc = .ok (.putfield idx, 3)) (kk : G l D y cc nL rt rm Q cells slots (pc + 3) lv st (wsOf D L (setI σ 26 1 x))) : G l D y cc nL rt rm Q cells slots pc lv (.int x :: .ref (L 26) :: st) (wsOf D L σ) :=
  g_put hf kC_X2 kT_X2 (by decide) 26 at_26 rfl rfl rfl (Nat.lt_succ_self 1) hd put_26 kk
theorem s_putD {idx k : Nat} {x : Int32} (hk : k < 6) (hf : kF y.cls idx RX0 TX0 k) (hd : decode cc pc = .ok (.putfield idx, 3)) (kk : G l D y cc nL rt rm Q cells slots (pc + 3) lv st (wsOf D L (setI σ 28 k x))) : G l D y cc nL rt rm Q cells slots pc lv (.int x :: .ref (L 28) :: st) (wsOf D L σ) := by
  have h0 : (TX0 k).2.2.2 = false ∧ tyX0 k = .int := by rcases (show k = 0 ∨ k = 1 ∨ k = 2 ∨ k = 3 ∨ k = 4 ∨ k = 5 by omega) with rfl | rfl | rfl | rfl | rfl | rfl <;> exact ⟨rfl, rfl⟩
  exact g_put hf kC_X0 kT_X0 hk 28 at_28 h0.1 (by rw [h0.2]; rfl) (by rw [h0.2]; rfl) hk hd (put_28 hk) kk
end WR
end
