section
-- ===== PART A: goes FIRST, ahead of the names: the tables' words, and 'selects' of the private methods out of them =====
/-- a private method of a class that the tables say can be made, by its rows of tables_1 -/
def lw_okq (q : MethodName × Nat) : Prop := (q.1.cls ≠ "java/lang/invoke/MethodHandle" ∧ q.1.cls ≠ "java/lang/invoke/VarHandle") ∧ Cond.instantiable q.1.cls q.2 ∈ tables_1 ∧ Cond.privateMethod q.1 ∈ tables_1 ∧ Cond.instanceMethod q.1 ∈ tables_1
theorem lw_p0 : lw_okq (⟨"WeighedWords$Day", "takeStep", "(LWeighedWords$Pad;ILWeighedWords$Town;)I"⟩, 6) := ⟨⟨by decide +kernel, by decide +kernel⟩, List.mem_of_getElem? (i := 120) (by decide +kernel), List.mem_of_getElem? (i := 299) (by decide +kernel), List.mem_of_getElem? (i := 300) (by decide +kernel)⟩
theorem lw_p1 : lw_okq (⟨"WeighedWords", "refuseTrip", "(III)I"⟩, 6) := ⟨⟨by decide +kernel, by decide +kernel⟩, List.mem_of_getElem? (i := 12) (by decide +kernel), List.mem_of_getElem? (i := 397) (by decide +kernel), List.mem_of_getElem? (i := 398) (by decide +kernel)⟩
theorem lw_p2 : lw_okq (⟨"WeighedWords", "fewest", "(III)I"⟩, 6) := ⟨⟨by decide +kernel, by decide +kernel⟩, List.mem_of_getElem? (i := 12) (by decide +kernel), List.mem_of_getElem? (i := 401) (by decide +kernel), List.mem_of_getElem? (i := 402) (by decide +kernel)⟩
theorem lw_p3 : lw_okq (⟨"WeighedWords", "weakestBridge", "(III)I"⟩, 6) := ⟨⟨by decide +kernel, by decide +kernel⟩, List.mem_of_getElem? (i := 12) (by decide +kernel), List.mem_of_getElem? (i := 425) (by decide +kernel), List.mem_of_getElem? (i := 426) (by decide +kernel)⟩
theorem lw_p4 : lw_okq (⟨"WeighedWords", "arrivers", "(II)I"⟩, 6) := ⟨⟨by decide +kernel, by decide +kernel⟩, List.mem_of_getElem? (i := 12) (by decide +kernel), List.mem_of_getElem? (i := 481) (by decide +kernel), List.mem_of_getElem? (i := 482) (by decide +kernel)⟩
theorem lw_p5 : lw_okq (⟨"WeighedWords", "feeOf", "(II)I"⟩, 6) := ⟨⟨by decide +kernel, by decide +kernel⟩, List.mem_of_getElem? (i := 12) (by decide +kernel), List.mem_of_getElem? (i := 489) (by decide +kernel), List.mem_of_getElem? (i := 490) (by decide +kernel)⟩
theorem lw_p6 : lw_okq (⟨"WeighedWords", "tellPerson", "(II)I"⟩, 6) := ⟨⟨by decide +kernel, by decide +kernel⟩, List.mem_of_getElem? (i := 12) (by decide +kernel), List.mem_of_getElem? (i := 564) (by decide +kernel), List.mem_of_getElem? (i := 565) (by decide +kernel)⟩
theorem lw_p7 : lw_okq (⟨"WeighedWords", "tellBridge", "(II)I"⟩, 6) := ⟨⟨by decide +kernel, by decide +kernel⟩, List.mem_of_getElem? (i := 12) (by decide +kernel), List.mem_of_getElem? (i := 568) (by decide +kernel), List.mem_of_getElem? (i := 569) (by decide +kernel)⟩
theorem lw_p8 : lw_okq (⟨"WeighedWordsModel", "begin", "(I)V"⟩, 47) := ⟨⟨by decide +kernel, by decide +kernel⟩, List.mem_of_getElem? (i := 572) (by decide +kernel), List.mem_of_getElem? (i := 578) (by decide +kernel), List.mem_of_getElem? (i := 579) (by decide +kernel)⟩
theorem lw_p9 : lw_okq (⟨"WeighedWordsModel", "isTerrace", "(I)Z"⟩, 47) := ⟨⟨by decide +kernel, by decide +kernel⟩, List.mem_of_getElem? (i := 572) (by decide +kernel), List.mem_of_getElem? (i := 739) (by decide +kernel), List.mem_of_getElem? (i := 740) (by decide +kernel)⟩
theorem lw_p10 : lw_okq (⟨"WeighedWordsModel", "isBridge", "(I)Z"⟩, 47) := ⟨⟨by decide +kernel, by decide +kernel⟩, List.mem_of_getElem? (i := 572) (by decide +kernel), List.mem_of_getElem? (i := 751) (by decide +kernel), List.mem_of_getElem? (i := 752) (by decide +kernel)⟩
theorem lw_p11 : lw_okq (⟨"WeighedWordsModel", "isThere", "(I)Z"⟩, 47) := ⟨⟨by decide +kernel, by decide +kernel⟩, List.mem_of_getElem? (i := 572) (by decide +kernel), List.mem_of_getElem? (i := 764) (by decide +kernel), List.mem_of_getElem? (i := 765) (by decide +kernel)⟩
theorem lw_p12 : lw_okq (⟨"WeighedWordsModel", "readFirst", "(I)Z"⟩, 47) := ⟨⟨by decide +kernel, by decide +kernel⟩, List.mem_of_getElem? (i := 572) (by decide +kernel), List.mem_of_getElem? (i := 800) (by decide +kernel), List.mem_of_getElem? (i := 801) (by decide +kernel)⟩
theorem lw_p13 : lw_okq (⟨"WeighedWordsModel", "readSecond", "(I)Z"⟩, 47) := ⟨⟨by decide +kernel, by decide +kernel⟩, List.mem_of_getElem? (i := 572) (by decide +kernel), List.mem_of_getElem? (i := 809) (by decide +kernel), List.mem_of_getElem? (i := 810) (by decide +kernel)⟩
theorem lw_p14 : lw_okq (⟨"WeighedWordsModel", "readNews", "(I)Z"⟩, 47) := ⟨⟨by decide +kernel, by decide +kernel⟩, List.mem_of_getElem? (i := 572) (by decide +kernel), List.mem_of_getElem? (i := 815) (by decide +kernel), List.mem_of_getElem? (i := 816) (by decide +kernel)⟩
theorem lw_p15 : lw_okq (⟨"WeighedWordsModel", "knowers", "(I)I"⟩, 47) := ⟨⟨by decide +kernel, by decide +kernel⟩, List.mem_of_getElem? (i := 572) (by decide +kernel), List.mem_of_getElem? (i := 828) (by decide +kernel), List.mem_of_getElem? (i := 829) (by decide +kernel)⟩
def lw_privs_1 : List (MethodName × Nat) := [(⟨"WeighedWords$Day", "takeStep", "(LWeighedWords$Pad;ILWeighedWords$Town;)I"⟩, 6), (⟨"WeighedWords", "refuseTrip", "(III)I"⟩, 6), (⟨"WeighedWords", "fewest", "(III)I"⟩, 6), (⟨"WeighedWords", "weakestBridge", "(III)I"⟩, 6), (⟨"WeighedWords", "arrivers", "(II)I"⟩, 6), (⟨"WeighedWords", "feeOf", "(II)I"⟩, 6), (⟨"WeighedWords", "tellPerson", "(II)I"⟩, 6), (⟨"WeighedWords", "tellBridge", "(II)I"⟩, 6), (⟨"WeighedWordsModel", "begin", "(I)V"⟩, 47), (⟨"WeighedWordsModel", "isTerrace", "(I)Z"⟩, 47), (⟨"WeighedWordsModel", "isBridge", "(I)Z"⟩, 47), (⟨"WeighedWordsModel", "isThere", "(I)Z"⟩, 47), (⟨"WeighedWordsModel", "readFirst", "(I)Z"⟩, 47), (⟨"WeighedWordsModel", "readSecond", "(I)Z"⟩, 47), (⟨"WeighedWordsModel", "readNews", "(I)Z"⟩, 47), (⟨"WeighedWordsModel", "knowers", "(I)I"⟩, 47)]
theorem lw_r1 : ∀ q ∈ lw_privs_1, lw_okq q := List.forall_mem_cons.mpr ⟨lw_p0, List.forall_mem_cons.mpr ⟨lw_p1, List.forall_mem_cons.mpr ⟨lw_p2, List.forall_mem_cons.mpr ⟨lw_p3, List.forall_mem_cons.mpr ⟨lw_p4, List.forall_mem_cons.mpr ⟨lw_p5, List.forall_mem_cons.mpr ⟨lw_p6, List.forall_mem_cons.mpr ⟨lw_p7, List.forall_mem_cons.mpr ⟨lw_p8, List.forall_mem_cons.mpr ⟨lw_p9, List.forall_mem_cons.mpr ⟨lw_p10, List.forall_mem_cons.mpr ⟨lw_p11, List.forall_mem_cons.mpr ⟨lw_p12, List.forall_mem_cons.mpr ⟨lw_p13, List.forall_mem_cons.mpr ⟨lw_p14, List.forall_mem_cons.mpr ⟨lw_p15, fun _ h => absurd h List.not_mem_nil⟩⟩⟩⟩⟩⟩⟩⟩⟩⟩⟩⟩⟩⟩⟩⟩
theorem lw_p16 : lw_okq (⟨"WeighedWordsModel", "heavyBy", "(III)I"⟩, 47) := ⟨⟨by decide +kernel, by decide +kernel⟩, List.mem_of_getElem? (i := 572) (by decide +kernel), List.mem_of_getElem? (i := 832) (by decide +kernel), List.mem_of_getElem? (i := 833) (by decide +kernel)⟩
theorem lw_p17 : lw_okq (⟨"WeighedWordsModel", "carriedBy", "(I)I"⟩, 47) := ⟨⟨by decide +kernel, by decide +kernel⟩, List.mem_of_getElem? (i := 572) (by decide +kernel), List.mem_of_getElem? (i := 840) (by decide +kernel), List.mem_of_getElem? (i := 841) (by decide +kernel)⟩
theorem lw_p18 : lw_okq (⟨"WeighedWordsModel", "sumOf", "(II)I"⟩, 47) := ⟨⟨by decide +kernel, by decide +kernel⟩, List.mem_of_getElem? (i := 572) (by decide +kernel), List.mem_of_getElem? (i := 844) (by decide +kernel), List.mem_of_getElem? (i := 845) (by decide +kernel)⟩
theorem lw_p19 : lw_okq (⟨"WeighedWordsModel", "keepNow", "()V"⟩, 47) := ⟨⟨by decide +kernel, by decide +kernel⟩, List.mem_of_getElem? (i := 572) (by decide +kernel), List.mem_of_getElem? (i := 858) (by decide +kernel), List.mem_of_getElem? (i := 859) (by decide +kernel)⟩
theorem lw_p20 : lw_okq (⟨"WeighedWordsModel", "goDay", "()V"⟩, 47) := ⟨⟨by decide +kernel, by decide +kernel⟩, List.mem_of_getElem? (i := 572) (by decide +kernel), List.mem_of_getElem? (i := 862) (by decide +kernel), List.mem_of_getElem? (i := 863) (by decide +kernel)⟩
theorem lw_p21 : lw_okq (⟨"WeighedWordsModel", "happen", "(I)I"⟩, 47) := ⟨⟨by decide +kernel, by decide +kernel⟩, List.mem_of_getElem? (i := 572) (by decide +kernel), List.mem_of_getElem? (i := 866) (by decide +kernel), List.mem_of_getElem? (i := 867) (by decide +kernel)⟩
theorem lw_p22 : lw_okq (⟨"WeighedWordsModel", "tell", "(III)I"⟩, 47) := ⟨⟨by decide +kernel, by decide +kernel⟩, List.mem_of_getElem? (i := 572) (by decide +kernel), List.mem_of_getElem? (i := 870) (by decide +kernel), List.mem_of_getElem? (i := 871) (by decide +kernel)⟩
theorem lw_p23 : lw_okq (⟨"WeighedWordsModel", "cross", "(II)I"⟩, 47) := ⟨⟨by decide +kernel, by decide +kernel⟩, List.mem_of_getElem? (i := 572) (by decide +kernel), List.mem_of_getElem? (i := 874) (by decide +kernel), List.mem_of_getElem? (i := 875) (by decide +kernel)⟩
theorem lw_p24 : lw_okq (⟨"WeighedWordsModel", "publish", "(I)I"⟩, 47) := ⟨⟨by decide +kernel, by decide +kernel⟩, List.mem_of_getElem? (i := 572) (by decide +kernel), List.mem_of_getElem? (i := 878) (by decide +kernel), List.mem_of_getElem? (i := 879) (by decide +kernel)⟩
theorem lw_p25 : lw_okq (⟨"WeighedWordsModel", "passNight", "()V"⟩, 47) := ⟨⟨by decide +kernel, by decide +kernel⟩, List.mem_of_getElem? (i := 572) (by decide +kernel), List.mem_of_getElem? (i := 882) (by decide +kernel), List.mem_of_getElem? (i := 883) (by decide +kernel)⟩
theorem lw_p26 : lw_okq (⟨"WeighedWordsModel", "putBack", "()V"⟩, 47) := ⟨⟨by decide +kernel, by decide +kernel⟩, List.mem_of_getElem? (i := 572) (by decide +kernel), List.mem_of_getElem? (i := 886) (by decide +kernel), List.mem_of_getElem? (i := 887) (by decide +kernel)⟩
theorem lw_p27 : lw_okq (⟨"WeighedWordsModel", "isAsked", "(II)Z"⟩, 47) := ⟨⟨by decide +kernel, by decide +kernel⟩, List.mem_of_getElem? (i := 572) (by decide +kernel), List.mem_of_getElem? (i := 902) (by decide +kernel), List.mem_of_getElem? (i := 903) (by decide +kernel)⟩
theorem lw_p28 : lw_okq (⟨"WeighedWordsModel", "bearing", "(I)I"⟩, 47) := ⟨⟨by decide +kernel, by decide +kernel⟩, List.mem_of_getElem? (i := 572) (by decide +kernel), List.mem_of_getElem? (i := 906) (by decide +kernel), List.mem_of_getElem? (i := 907) (by decide +kernel)⟩
theorem lw_p29 : lw_okq (⟨"WeighedWordsModel", "findFar", "(II)V"⟩, 47) := ⟨⟨by decide +kernel, by decide +kernel⟩, List.mem_of_getElem? (i := 572) (by decide +kernel), List.mem_of_getElem? (i := 910) (by decide +kernel), List.mem_of_getElem? (i := 911) (by decide +kernel)⟩
theorem lw_p30 : lw_okq (⟨"WeighedWordsModel", "leadsOn", "(III)Z"⟩, 47) := ⟨⟨by decide +kernel, by decide +kernel⟩, List.mem_of_getElem? (i := 572) (by decide +kernel), List.mem_of_getElem? (i := 914) (by decide +kernel), List.mem_of_getElem? (i := 915) (by decide +kernel)⟩
theorem lw_p31 : lw_okq (⟨"WeighedWordsModel", "hasWay", "(III)Z"⟩, 47) := ⟨⟨by decide +kernel, by decide +kernel⟩, List.mem_of_getElem? (i := 572) (by decide +kernel), List.mem_of_getElem? (i := 925) (by decide +kernel), List.mem_of_getElem? (i := 926) (by decide +kernel)⟩
def lw_privs_2 : List (MethodName × Nat) := [(⟨"WeighedWordsModel", "heavyBy", "(III)I"⟩, 47), (⟨"WeighedWordsModel", "carriedBy", "(I)I"⟩, 47), (⟨"WeighedWordsModel", "sumOf", "(II)I"⟩, 47), (⟨"WeighedWordsModel", "keepNow", "()V"⟩, 47), (⟨"WeighedWordsModel", "goDay", "()V"⟩, 47), (⟨"WeighedWordsModel", "happen", "(I)I"⟩, 47), (⟨"WeighedWordsModel", "tell", "(III)I"⟩, 47), (⟨"WeighedWordsModel", "cross", "(II)I"⟩, 47), (⟨"WeighedWordsModel", "publish", "(I)I"⟩, 47), (⟨"WeighedWordsModel", "passNight", "()V"⟩, 47), (⟨"WeighedWordsModel", "putBack", "()V"⟩, 47), (⟨"WeighedWordsModel", "isAsked", "(II)Z"⟩, 47), (⟨"WeighedWordsModel", "bearing", "(I)I"⟩, 47), (⟨"WeighedWordsModel", "findFar", "(II)V"⟩, 47), (⟨"WeighedWordsModel", "leadsOn", "(III)Z"⟩, 47), (⟨"WeighedWordsModel", "hasWay", "(III)Z"⟩, 47)]
theorem lw_r2 : ∀ q ∈ lw_privs_2, lw_okq q := List.forall_mem_cons.mpr ⟨lw_p16, List.forall_mem_cons.mpr ⟨lw_p17, List.forall_mem_cons.mpr ⟨lw_p18, List.forall_mem_cons.mpr ⟨lw_p19, List.forall_mem_cons.mpr ⟨lw_p20, List.forall_mem_cons.mpr ⟨lw_p21, List.forall_mem_cons.mpr ⟨lw_p22, List.forall_mem_cons.mpr ⟨lw_p23, List.forall_mem_cons.mpr ⟨lw_p24, List.forall_mem_cons.mpr ⟨lw_p25, List.forall_mem_cons.mpr ⟨lw_p26, List.forall_mem_cons.mpr ⟨lw_p27, List.forall_mem_cons.mpr ⟨lw_p28, List.forall_mem_cons.mpr ⟨lw_p29, List.forall_mem_cons.mpr ⟨lw_p30, List.forall_mem_cons.mpr ⟨lw_p31, fun _ h => absurd h List.not_mem_nil⟩⟩⟩⟩⟩⟩⟩⟩⟩⟩⟩⟩⟩⟩⟩⟩
theorem lw_p32 : lw_okq (⟨"WeighedWordsModel", "farBy", "(III)I"⟩, 47) := ⟨⟨by decide +kernel, by decide +kernel⟩, List.mem_of_getElem? (i := 572) (by decide +kernel), List.mem_of_getElem? (i := 929) (by decide +kernel), List.mem_of_getElem? (i := 930) (by decide +kernel)⟩
theorem lw_p33 : lw_okq (⟨"WeighedWordsModel", "offerSet", "(IZ)V"⟩, 47) := ⟨⟨by decide +kernel, by decide +kernel⟩, List.mem_of_getElem? (i := 572) (by decide +kernel), List.mem_of_getElem? (i := 933) (by decide +kernel), List.mem_of_getElem? (i := 934) (by decide +kernel)⟩
theorem lw_p34 : lw_okq (⟨"WeighedWordsModel", "tellSet", "(I)I"⟩, 47) := ⟨⟨by decide +kernel, by decide +kernel⟩, List.mem_of_getElem? (i := 572) (by decide +kernel), List.mem_of_getElem? (i := 937) (by decide +kernel), List.mem_of_getElem? (i := 938) (by decide +kernel)⟩
theorem lw_p35 : lw_okq (⟨"WeighedWordsModel", "lies", "(I)I"⟩, 47) := ⟨⟨by decide +kernel, by decide +kernel⟩, List.mem_of_getElem? (i := 572) (by decide +kernel), List.mem_of_getElem? (i := 949) (by decide +kernel), List.mem_of_getElem? (i := 950) (by decide +kernel)⟩
theorem lw_p36 : lw_okq (⟨"WeighedWordsModel", "floatedBy", "(II)I"⟩, 47) := ⟨⟨by decide +kernel, by decide +kernel⟩, List.mem_of_getElem? (i := 572) (by decide +kernel), List.mem_of_getElem? (i := 953) (by decide +kernel), List.mem_of_getElem? (i := 954) (by decide +kernel)⟩
theorem lw_p37 : lw_okq (⟨"WeighedWordsModel", "knowersOf", "(I)I"⟩, 47) := ⟨⟨by decide +kernel, by decide +kernel⟩, List.mem_of_getElem? (i := 572) (by decide +kernel), List.mem_of_getElem? (i := 966) (by decide +kernel), List.mem_of_getElem? (i := 967) (by decide +kernel)⟩
theorem lw_p38 : lw_okq (⟨"WeighedWordsModel", "reachedBy", "(I)I"⟩, 47) := ⟨⟨by decide +kernel, by decide +kernel⟩, List.mem_of_getElem? (i := 572) (by decide +kernel), List.mem_of_getElem? (i := 970) (by decide +kernel), List.mem_of_getElem? (i := 971) (by decide +kernel)⟩
theorem lw_p39 : lw_okq (⟨"WeighedWordsModel", "layErrands", "(II)Z"⟩, 47) := ⟨⟨by decide +kernel, by decide +kernel⟩, List.mem_of_getElem? (i := 572) (by decide +kernel), List.mem_of_getElem? (i := 979) (by decide +kernel), List.mem_of_getElem? (i := 980) (by decide +kernel)⟩
theorem lw_p40 : lw_okq (⟨"WeighedWordsModel", "layRow", "(I)Z"⟩, 47) := ⟨⟨by decide +kernel, by decide +kernel⟩, List.mem_of_getElem? (i := 572) (by decide +kernel), List.mem_of_getElem? (i := 986) (by decide +kernel), List.mem_of_getElem? (i := 987) (by decide +kernel)⟩
theorem lw_p41 : lw_okq (⟨"WeighedWordsModel", "canAll", "()Z"⟩, 47) := ⟨⟨by decide +kernel, by decide +kernel⟩, List.mem_of_getElem? (i := 572) (by decide +kernel), List.mem_of_getElem? (i := 990) (by decide +kernel), List.mem_of_getElem? (i := 991) (by decide +kernel)⟩
theorem lw_p42 : lw_okq (⟨"WeighedWordsModel", "goesErrand", "(II)Z"⟩, 47) := ⟨⟨by decide +kernel, by decide +kernel⟩, List.mem_of_getElem? (i := 572) (by decide +kernel), List.mem_of_getElem? (i := 994) (by decide +kernel), List.mem_of_getElem? (i := 995) (by decide +kernel)⟩
theorem lw_p43 : lw_okq (⟨"WeighedWordsModel", "canBear", "(III)Z"⟩, 47) := ⟨⟨by decide +kernel, by decide +kernel⟩, List.mem_of_getElem? (i := 572) (by decide +kernel), List.mem_of_getElem? (i := 1005) (by decide +kernel), List.mem_of_getElem? (i := 1006) (by decide +kernel)⟩
theorem lw_p44 : lw_okq (⟨"WeighedWordsModel", "feeOf", "(II)I"⟩, 47) := ⟨⟨by decide +kernel, by decide +kernel⟩, List.mem_of_getElem? (i := 572) (by decide +kernel), List.mem_of_getElem? (i := 1013) (by decide +kernel), List.mem_of_getElem? (i := 1014) (by decide +kernel)⟩
theorem lw_p45 : lw_okq (⟨"WeighedWordsModel", "whoBent", "(I)I"⟩, 47) := ⟨⟨by decide +kernel, by decide +kernel⟩, List.mem_of_getElem? (i := 572) (by decide +kernel), List.mem_of_getElem? (i := 1034) (by decide +kernel), List.mem_of_getElem? (i := 1035) (by decide +kernel)⟩
theorem lw_p46 : lw_okq (⟨"WeighedWordsModel", "fits", "(I)Z"⟩, 47) := ⟨⟨by decide +kernel, by decide +kernel⟩, List.mem_of_getElem? (i := 572) (by decide +kernel), List.mem_of_getElem? (i := 1042) (by decide +kernel), List.mem_of_getElem? (i := 1043) (by decide +kernel)⟩
theorem lw_p47 : lw_okq (⟨"WeighedWordsModel", "passAll", "()V"⟩, 47) := ⟨⟨by decide +kernel, by decide +kernel⟩, List.mem_of_getElem? (i := 572) (by decide +kernel), List.mem_of_getElem? (i := 1068) (by decide +kernel), List.mem_of_getElem? (i := 1069) (by decide +kernel)⟩
def lw_privs_3 : List (MethodName × Nat) := [(⟨"WeighedWordsModel", "farBy", "(III)I"⟩, 47), (⟨"WeighedWordsModel", "offerSet", "(IZ)V"⟩, 47), (⟨"WeighedWordsModel", "tellSet", "(I)I"⟩, 47), (⟨"WeighedWordsModel", "lies", "(I)I"⟩, 47), (⟨"WeighedWordsModel", "floatedBy", "(II)I"⟩, 47), (⟨"WeighedWordsModel", "knowersOf", "(I)I"⟩, 47), (⟨"WeighedWordsModel", "reachedBy", "(I)I"⟩, 47), (⟨"WeighedWordsModel", "layErrands", "(II)Z"⟩, 47), (⟨"WeighedWordsModel", "layRow", "(I)Z"⟩, 47), (⟨"WeighedWordsModel", "canAll", "()Z"⟩, 47), (⟨"WeighedWordsModel", "goesErrand", "(II)Z"⟩, 47), (⟨"WeighedWordsModel", "canBear", "(III)Z"⟩, 47), (⟨"WeighedWordsModel", "feeOf", "(II)I"⟩, 47), (⟨"WeighedWordsModel", "whoBent", "(I)I"⟩, 47), (⟨"WeighedWordsModel", "fits", "(I)Z"⟩, 47), (⟨"WeighedWordsModel", "passAll", "()V"⟩, 47)]
theorem lw_r3 : ∀ q ∈ lw_privs_3, lw_okq q := List.forall_mem_cons.mpr ⟨lw_p32, List.forall_mem_cons.mpr ⟨lw_p33, List.forall_mem_cons.mpr ⟨lw_p34, List.forall_mem_cons.mpr ⟨lw_p35, List.forall_mem_cons.mpr ⟨lw_p36, List.forall_mem_cons.mpr ⟨lw_p37, List.forall_mem_cons.mpr ⟨lw_p38, List.forall_mem_cons.mpr ⟨lw_p39, List.forall_mem_cons.mpr ⟨lw_p40, List.forall_mem_cons.mpr ⟨lw_p41, List.forall_mem_cons.mpr ⟨lw_p42, List.forall_mem_cons.mpr ⟨lw_p43, List.forall_mem_cons.mpr ⟨lw_p44, List.forall_mem_cons.mpr ⟨lw_p45, List.forall_mem_cons.mpr ⟨lw_p46, List.forall_mem_cons.mpr ⟨lw_p47, fun _ h => absurd h List.not_mem_nil⟩⟩⟩⟩⟩⟩⟩⟩⟩⟩⟩⟩⟩⟩⟩⟩
theorem lw_p48 : lw_okq (⟨"WeighedWordsModel", "pass", "(I)I"⟩, 47) := ⟨⟨by decide +kernel, by decide +kernel⟩, List.mem_of_getElem? (i := 572) (by decide +kernel), List.mem_of_getElem? (i := 1072) (by decide +kernel), List.mem_of_getElem? (i := 1073) (by decide +kernel)⟩
theorem lw_p49 : lw_okq (⟨"WeighedWordsModel", "toldOfPerson", "(II)I"⟩, 47) := ⟨⟨by decide +kernel, by decide +kernel⟩, List.mem_of_getElem? (i := 572) (by decide +kernel), List.mem_of_getElem? (i := 1086) (by decide +kernel), List.mem_of_getElem? (i := 1087) (by decide +kernel)⟩
theorem lw_p50 : lw_okq (⟨"WeighedWordsModel", "toldOfBridge", "(II)I"⟩, 47) := ⟨⟨by decide +kernel, by decide +kernel⟩, List.mem_of_getElem? (i := 572) (by decide +kernel), List.mem_of_getElem? (i := 1092) (by decide +kernel), List.mem_of_getElem? (i := 1093) (by decide +kernel)⟩
def lw_privs_4 : List (MethodName × Nat) := [(⟨"WeighedWordsModel", "pass", "(I)I"⟩, 47), (⟨"WeighedWordsModel", "toldOfPerson", "(II)I"⟩, 47), (⟨"WeighedWordsModel", "toldOfBridge", "(II)I"⟩, 47)]
theorem lw_r4 : ∀ q ∈ lw_privs_4, lw_okq q := List.forall_mem_cons.mpr ⟨lw_p48, List.forall_mem_cons.mpr ⟨lw_p49, List.forall_mem_cons.mpr ⟨lw_p50, fun _ h => absurd h List.not_mem_nil⟩⟩⟩
def lw_privs : List (MethodName × Nat) := lw_privs_1 ++ (lw_privs_2 ++ (lw_privs_3 ++ (lw_privs_4)))
def lw_tbl : List Cond := k2_sels lw_privs ++ tables_1
theorem lw_privs_ok : ∀ q ∈ lw_privs, lw_okq q := by
  show ∀ q ∈ lw_privs_1 ++ (lw_privs_2 ++ (lw_privs_3 ++ (lw_privs_4))), lw_okq q
  exact List.forall_mem_append.mpr ⟨lw_r1, List.forall_mem_append.mpr ⟨lw_r2, List.forall_mem_append.mpr ⟨lw_r3, lw_r4⟩⟩⟩
end
section
def RX0 : String := "WeighedWords$Day"
def TX0 : u_T := fun k => match k with
  | 0 => ("WeighedWords$Day", "refusal", "I", false)
  | 1 => ("WeighedWords$Day", "reason", "I", false)
  | 2 => ("WeighedWords$Day", "steps", "I", false)
  | 3 => ("WeighedWords$Day", "tellings", "I", false)
  | 4 => ("WeighedWords$Day", "crossings", "I", false)
  | _ => ("WeighedWords$Day", "nights", "I", false)
def tyX0 : Nat → FieldType := fun k => match k with
  | 0 => .int
  | 1 => .int
  | 2 => .int
  | 3 => .int
  | 4 => .int
  | _ => .int
abbrev wsX00 : List Cond := u_ws RX0 TX0 6
theorem nmX0 : ∀ a, a < 6 → ∀ b, b < 6 → a ≠ b → (TX0 a).2.1 ≠ (TX0 b).2.1 := by decide +kernel
theorem tyX0_ok : ∀ k, k < 6 → parseFieldDescriptor (TX0 k).2.2.1 = some (tyX0 k) := by decide +kernel
abbrev cX0_init : ByteArray := prog_2_method_1_code
def yX0_init : MethodName := ⟨RX0, "<init>", "()V"⟩
abbrev cX0_live : ByteArray := prog_2_method_2_code
def yX0_live : MethodName := ⟨RX0, "live", "(LWeighedWords$Pad;LWeighedWords$Town;LWeighedWords$Town;)V"⟩
abbrev cX0_takeStep : ByteArray := prog_2_method_3_code
def yX0_takeStep : MethodName := ⟨RX0, "takeStep", "(LWeighedWords$Pad;ILWeighedWords$Town;)I"⟩
def RX1 : String := "WeighedWords$Orders"
def TX1 : u_T := fun k => match k with
  | 0 => ("WeighedWords$Orders", "order", "[I", true)
  | 1 => ("WeighedWords$Orders", "goals", "[I", true)
  | _ => ("WeighedWords$Orders", "knownBefore", "[I", true)
def tyX1 : Nat → FieldType := fun k => match k with
  | 0 => .array .int
  | 1 => .array .int
  | _ => .array .int
abbrev wsX10 : List Cond := u_ws RX1 TX1 3
theorem nmX1 : ∀ a, a < 3 → ∀ b, b < 3 → a ≠ b → (TX1 a).2.1 ≠ (TX1 b).2.1 := by decide +kernel
theorem tyX1_ok : ∀ k, k < 3 → parseFieldDescriptor (TX1 k).2.2.1 = some (tyX1 k) := by decide +kernel
abbrev cX1_init : ByteArray := prog_3_method_1_code
def yX1_init : MethodName := ⟨RX1, "<init>", "()V"⟩
abbrev cX1_readGoals : ByteArray := prog_3_method_2_code
def yX1_readGoals : MethodName := ⟨RX1, "readGoals", "(III)Z"⟩
def RX2 : String := "WeighedWords$Pad"
def TX2 : u_T := fun k => match k with
  | 0 => ("WeighedWords$Pad", "signs", "[I", true)
  | _ => ("WeighedWords$Pad", "count", "I", false)
def tyX2 : Nat → FieldType := fun k => match k with
  | 0 => .array .int
  | _ => .int
abbrev wsX20 : List Cond := u_ws RX2 TX2 2
theorem nmX2 : ∀ a, a < 2 → ∀ b, b < 2 → a ≠ b → (TX2 a).2.1 ≠ (TX2 b).2.1 := by decide +kernel
theorem tyX2_ok : ∀ k, k < 2 → parseFieldDescriptor (TX2 k).2.2.1 = some (tyX2 k) := by decide +kernel
abbrev cX2_init : ByteArray := prog_4_method_1_code
def yX2_init : MethodName := ⟨RX2, "<init>", "()V"⟩
abbrev cX2_signAt : ByteArray := prog_4_method_2_code
def yX2_signAt : MethodName := ⟨RX2, "signAt", "(I)I"⟩
abbrev cX2_faultPlace : ByteArray := prog_4_method_3_code
def yX2_faultPlace : MethodName := ⟨RX2, "faultPlace", "()I"⟩
abbrev cX2_readOn : ByteArray := prog_4_method_4_code
def yX2_readOn : MethodName := ⟨RX2, "readOn", "(II)I"⟩
abbrev cX2_isPersonSign : ByteArray := prog_4_method_5_code
def yX2_isPersonSign : MethodName := ⟨RX2, "isPersonSign", "(I)Z"⟩
def RX3 : String := "WeighedWords$Town"
def TX3 : u_T := fun k => match k with
  | 0 => ("WeighedWords$Town", "size", "I", false)
  | 1 => ("WeighedWords$Town", "bridges", "I", false)
  | 2 => ("WeighedWords$Town", "lesserEnds", "[I", true)
  | 3 => ("WeighedWords$Town", "greaterEnds", "[I", true)
  | 4 => ("WeighedWords$Town", "loads", "[I", true)
  | 5 => ("WeighedWords$Town", "bends", "[I", true)
  | 6 => ("WeighedWords$Town", "people", "I", false)
  | 7 => ("WeighedWords$Town", "places", "[I", true)
  | 8 => ("WeighedWords$Town", "kins", "[I", true)
  | 9 => ("WeighedWords$Town", "known", "[I", true)
  | 10 => ("WeighedWords$Town", "weights", "[I", true)
  | 11 => ("WeighedWords$Town", "abouts", "[I", true)
  | 12 => ("WeighedWords$Town", "published", "I", false)
  | 13 => ("WeighedWords$Town", "fading", "I", false)
  | 14 => ("WeighedWords$Town", "sights", "I", false)
  | 15 => ("WeighedWords$Town", "sightBridges", "[I", true)
  | _ => ("WeighedWords$Town", "sightBends", "[I", true)
def tyX3 : Nat → FieldType := fun k => match k with
  | 0 => .int
  | 1 => .int
  | 2 => .array .int
  | 3 => .array .int
  | 4 => .array .int
  | 5 => .array .int
  | 6 => .int
  | 7 => .array .int
  | 8 => .array .int
  | 9 => .array .int
  | 10 => .array .int
  | 11 => .array .int
  | 12 => .int
  | 13 => .int
  | 14 => .int
  | 15 => .array .int
  | _ => .array .int
abbrev wsX30 : List Cond := u_ws RX3 TX3 17
theorem nmX3 : ∀ a, a < 17 → ∀ b, b < 17 → a ≠ b → (TX3 a).2.1 ≠ (TX3 b).2.1 := by decide +kernel
theorem tyX3_ok : ∀ k, k < 17 → parseFieldDescriptor (TX3 k).2.2.1 = some (tyX3 k) := by decide +kernel
abbrev cX3_init : ByteArray := prog_5_method_1_code
def yX3_init : MethodName := ⟨RX3, "<init>", "()V"⟩
abbrev cX3_settle : ByteArray := prog_5_method_2_code
def yX3_settle : MethodName := ⟨RX3, "settle", "(I)V"⟩
abbrev cX3_copy : ByteArray := prog_5_method_3_code
def yX3_copy : MethodName := ⟨RX3, "copy", "(LWeighedWords$Town;)V"⟩
abbrev cX3_hasTerrace : ByteArray := prog_5_method_4_code
def yX3_hasTerrace : MethodName := ⟨RX3, "hasTerrace", "(I)Z"⟩
abbrev cX3_hasBridge : ByteArray := prog_5_method_5_code
def yX3_hasBridge : MethodName := ⟨RX3, "hasBridge", "(I)Z"⟩
abbrev cX3_hasPerson : ByteArray := prog_5_method_6_code
def yX3_hasPerson : MethodName := ⟨RX3, "hasPerson", "(I)Z"⟩
abbrev cX3_knowersOf : ByteArray := prog_5_method_7_code
def yX3_knowersOf : MethodName := ⟨RX3, "knowersOf", "(I)I"⟩
abbrev cX3_weightFor : ByteArray := prog_5_method_8_code
def yX3_weightFor : MethodName := ⟨RX3, "weightFor", "(II)I"⟩
abbrev cX3_sum : ByteArray := prog_5_method_9_code
def yX3_sum : MethodName := ⟨RX3, "sum", "(II)I"⟩
abbrev cX3_burden : ByteArray := prog_5_method_10_code
def yX3_burden : MethodName := ⟨RX3, "burden", "(I)I"⟩
abbrev cX3_mostBurden : ByteArray := prog_5_method_11_code
def yX3_mostBurden : MethodName := ⟨RX3, "mostBurden", "()I"⟩
abbrev cX3_mostKnowers : ByteArray := prog_5_method_12_code
def yX3_mostKnowers : MethodName := ⟨RX3, "mostKnowers", "()I"⟩
abbrev cX3_lies : ByteArray := prog_5_method_13_code
def yX3_lies : MethodName := ⟨RX3, "lies", "()I"⟩
abbrev cX3_carriersOf : ByteArray := prog_5_method_14_code
def yX3_carriersOf : MethodName := ⟨RX3, "carriersOf", "(I)I"⟩
abbrev cX3_likeSightsBefore : ByteArray := prog_5_method_15_code
def yX3_likeSightsBefore : MethodName := ⟨RX3, "likeSightsBefore", "(I)I"⟩
abbrev cX3_bearing : ByteArray := prog_5_method_16_code
def yX3_bearing : MethodName := ⟨RX3, "bearing", "(I)I"⟩
abbrev cX3_spread : ByteArray := prog_5_method_17_code
def yX3_spread : MethodName := ⟨RX3, "spread", "(II)I"⟩
abbrev cX3_distance : ByteArray := prog_5_method_18_code
def yX3_distance : MethodName := ⟨RX3, "distance", "(III)I"⟩
abbrev cX3_hasWay : ByteArray := prog_5_method_19_code
def yX3_hasWay : MethodName := ⟨RX3, "hasWay", "(II)Z"⟩
abbrev cX3_otherEnd : ByteArray := prog_5_method_20_code
def yX3_otherEnd : MethodName := ⟨RX3, "otherEnd", "(II)I"⟩
abbrev cX3_isAtEnd : ByteArray := prog_5_method_21_code
def yX3_isAtEnd : MethodName := ⟨RX3, "isAtEnd", "(II)Z"⟩
abbrev cX3_bridgeOfWay : ByteArray := prog_5_method_22_code
def yX3_bridgeOfWay : MethodName := ⟨RX3, "bridgeOfWay", "(IIII)I"⟩
abbrev cX3_nextBridge : ByteArray := prog_5_method_23_code
def yX3_nextBridge : MethodName := ⟨RX3, "nextBridge", "(III)I"⟩
abbrev cX3_tellIfItCanBe : ByteArray := prog_5_method_24_code
def yX3_tellIfItCanBe : MethodName := ⟨RX3, "tellIfItCanBe", "(III)I"⟩
abbrev cX3_crossIfItCanBe : ByteArray := prog_5_method_25_code
def yX3_crossIfItCanBe : MethodName := ⟨RX3, "crossIfItCanBe", "(II)I"⟩
abbrev cX3_publishIfItCanBe : ByteArray := prog_5_method_26_code
def yX3_publishIfItCanBe : MethodName := ⟨RX3, "publishIfItCanBe", "(I)I"⟩
abbrev cX3_passNight : ByteArray := prog_5_method_27_code
def yX3_passNight : MethodName := ⟨RX3, "passNight", "()V"⟩
abbrev cX3_hearers : ByteArray := prog_5_method_28_code
def yX3_hearers : MethodName := ⟨RX3, "hearers", "(I)I"⟩
abbrev cX3_neighbours : ByteArray := prog_5_method_29_code
def yX3_neighbours : MethodName := ⟨RX3, "neighbours", "(II)I"⟩
abbrev cX3_tellAll : ByteArray := prog_5_method_30_code
def yX3_tellAll : MethodName := ⟨RX3, "tellAll", "(II)V"⟩
abbrev cX3_arrive : ByteArray := prog_5_method_31_code
def yX3_arrive : MethodName := ⟨RX3, "arrive", "(II)V"⟩
def RX4 : String := "WeighedWords"
def TX4 : u_T := fun k => match k with
  | 0 => ("WeighedWords", "now", "LWeighedWords$Town;", true)
  | 1 => ("WeighedWords", "trial", "LWeighedWords$Town;", true)
  | 2 => ("WeighedWords", "images", "[LWeighedWords$Town;", true)
  | 3 => ("WeighedWords", "pad", "LWeighedWords$Pad;", true)
  | 4 => ("WeighedWords", "day", "LWeighedWords$Day;", true)
  | _ => ("WeighedWords", "orders", "LWeighedWords$Orders;", true)
def tyX4 : Nat → FieldType := fun k => match k with
  | 0 => .object "WeighedWords$Town"
  | 1 => .object "WeighedWords$Town"
  | 2 => .array (.object "WeighedWords$Town")
  | 3 => .object "WeighedWords$Pad"
  | 4 => .object "WeighedWords$Day"
  | _ => .object "WeighedWords$Orders"
abbrev wsX40 : List Cond := u_ws RX4 TX4 6
theorem nmX4 : ∀ a, a < 6 → ∀ b, b < 6 → a ≠ b → (TX4 a).2.1 ≠ (TX4 b).2.1 := by decide +kernel
theorem tyX4_ok : ∀ k, k < 6 → parseFieldDescriptor (TX4 k).2.2.1 = some (tyX4 k) := by decide +kernel
abbrev cX4_init : ByteArray := prog_1_method_1_code
def yX4_init : MethodName := ⟨RX4, "<init>", "()V"⟩
abbrev cX4_terraces : ByteArray := prog_1_method_2_code
def yX4_terraces : MethodName := ⟨RX4, "terraces", "(I)I"⟩
abbrev cX4_bridge : ByteArray := prog_1_method_3_code
def yX4_bridge : MethodName := ⟨RX4, "bridge", "(IIII)I"⟩
abbrev cX4_fall : ByteArray := prog_1_method_4_code
def yX4_fall : MethodName := ⟨RX4, "fall", "(I)I"⟩
abbrev cX4_person : ByteArray := prog_1_method_5_code
def yX4_person : MethodName := ⟨RX4, "person", "(III)I"⟩
abbrev cX4_leave : ByteArray := prog_1_method_6_code
def yX4_leave : MethodName := ⟨RX4, "leave", "(I)I"⟩
abbrev cX4_news : ByteArray := prog_1_method_7_code
def yX4_news : MethodName := ⟨RX4, "news", "(III)I"⟩
abbrev cX4_learn : ByteArray := prog_1_method_8_code
def yX4_learn : MethodName := ⟨RX4, "learn", "(IIZ)I"⟩
abbrev cX4_fade : ByteArray := prog_1_method_9_code
def yX4_fade : MethodName := ⟨RX4, "fade", "(I)I"⟩
abbrev cX4_say : ByteArray := prog_1_method_10_code
def yX4_say : MethodName := ⟨RX4, "say", "(I)I"⟩
abbrev cX4_wipe : ByteArray := prog_1_method_11_code
def yX4_wipe : MethodName := ⟨RX4, "wipe", "()I"⟩
abbrev cX4_fault : ByteArray := prog_1_method_12_code
def yX4_fault : MethodName := ⟨RX4, "fault", "()I"⟩
abbrev cX4_judge : ByteArray := prog_1_method_13_code
def yX4_judge : MethodName := ⟨RX4, "judge", "(I)I"⟩
abbrev cX4_behind : ByteArray := prog_1_method_14_code
def yX4_behind : MethodName := ⟨RX4, "behind", "(II)I"⟩
abbrev cX4_done : ByteArray := prog_1_method_15_code
def yX4_done : MethodName := ⟨RX4, "done", "()I"⟩
abbrev cX4_heavy : ByteArray := prog_1_method_16_code
def yX4_heavy : MethodName := ⟨RX4, "heavy", "(II)I"⟩
abbrev cX4_carries : ByteArray := prog_1_method_17_code
def yX4_carries : MethodName := ⟨RX4, "carries", "(I)I"⟩
abbrev cX4_bent : ByteArray := prog_1_method_18_code
def yX4_bent : MethodName := ⟨RX4, "bent", "(I)I"⟩
abbrev cX4_way : ByteArray := prog_1_method_19_code
def yX4_way : MethodName := ⟨RX4, "way", "(III)I"⟩
abbrev cX4_left : ByteArray := prog_1_method_20_code
def yX4_left : MethodName := ⟨RX4, "left", "(III)I"⟩
abbrev cX4_cried : ByteArray := prog_1_method_21_code
def yX4_cried : MethodName := ⟨RX4, "cried", "(III)I"⟩
abbrev cX4_floated : ByteArray := prog_1_method_22_code
def yX4_floated : MethodName := ⟨RX4, "floated", "(III)I"⟩
abbrev cX4_mended : ByteArray := prog_1_method_23_code
def yX4_mended : MethodName := ⟨RX4, "mended", "(III)I"⟩
abbrev cX4_rumour : ByteArray := prog_1_method_24_code
def yX4_rumour : MethodName := ⟨RX4, "rumour", "(I)I"⟩
abbrev cX4_errands : ByteArray := prog_1_method_25_code
def yX4_errands : MethodName := ⟨RX4, "errands", "(III)I"⟩
abbrev cX4_two : ByteArray := prog_1_method_26_code
def yX4_two : MethodName := ⟨RX4, "two", "(III)I"⟩
abbrev cX4_fee : ByteArray := prog_1_method_27_code
def yX4_fee : MethodName := ⟨RX4, "fee", "(II)I"⟩
abbrev cX4_fees : ByteArray := prog_1_method_28_code
def yX4_fees : MethodName := ⟨RX4, "fees", "(II)I"⟩
abbrev cX4_seen : ByteArray := prog_1_method_29_code
def yX4_seen : MethodName := ⟨RX4, "seen", "(II)I"⟩
abbrev cX4_forget : ByteArray := prog_1_method_30_code
def yX4_forget : MethodName := ⟨RX4, "forget", "()I"⟩
abbrev cX4_who : ByteArray := prog_1_method_31_code
def yX4_who : MethodName := ⟨RX4, "who", "(I)I"⟩
abbrev cX4_fit : ByteArray := prog_1_method_32_code
def yX4_fit : MethodName := ⟨RX4, "fit", "()I"⟩
abbrev cX4_chance : ByteArray := prog_1_method_33_code
def yX4_chance : MethodName := ⟨RX4, "chance", "(IIII)J"⟩
abbrev cX4_year : ByteArray := prog_1_method_34_code
def yX4_year : MethodName := ⟨RX4, "year", "(III)I"⟩
abbrev cX4_image : ByteArray := prog_1_method_35_code
def yX4_image : MethodName := ⟨RX4, "image", "(I)I"⟩
abbrev cX4_restore : ByteArray := prog_1_method_36_code
def yX4_restore : MethodName := ⟨RX4, "restore", "(I)I"⟩
abbrev cX4_told : ByteArray := prog_1_method_37_code
def yX4_told : MethodName := ⟨RX4, "told", "(I)I"⟩
abbrev cX4_within : ByteArray := prog_1_method_38_code
def yX4_within : MethodName := ⟨RX4, "within", "(III)Z"⟩
abbrev cX4_has : ByteArray := prog_1_method_39_code
def yX4_has : MethodName := ⟨RX4, "has", "(II)Z"⟩
abbrev cX4_isNews : ByteArray := prog_1_method_40_code
def yX4_isNews : MethodName := ⟨RX4, "isNews", "(I)Z"⟩
abbrev cX4_refuseTrip : ByteArray := prog_1_method_41_code
def yX4_refuseTrip : MethodName := ⟨RX4, "refuseTrip", "(III)I"⟩
abbrev cX4_countOrBits : ByteArray := prog_1_method_42_code
def yX4_countOrBits : MethodName := ⟨RX4, "countOrBits", "(II)I"⟩
abbrev cX4_fewest : ByteArray := prog_1_method_43_code
def yX4_fewest : MethodName := ⟨RX4, "fewest", "(III)I"⟩
abbrev cX4_weakestBridge : ByteArray := prog_1_method_44_code
def yX4_weakestBridge : MethodName := ⟨RX4, "weakestBridge", "(III)I"⟩
abbrev cX4_arrivers : ByteArray := prog_1_method_45_code
def yX4_arrivers : MethodName := ⟨RX4, "arrivers", "(II)I"⟩
abbrev cX4_feeOf : ByteArray := prog_1_method_46_code
def yX4_feeOf : MethodName := ⟨RX4, "feeOf", "(II)I"⟩
abbrev cX4_tellBridge : ByteArray := prog_1_method_47_code
def yX4_tellBridge : MethodName := ⟨RX4, "tellBridge", "(II)I"⟩
abbrev cX4_tellPerson : ByteArray := prog_1_method_48_code
def yX4_tellPerson : MethodName := ⟨RX4, "tellPerson", "(II)I"⟩
abbrev cX4_power : ByteArray := prog_1_method_49_code
def yX4_power : MethodName := ⟨RX4, "power", "(II)J"⟩
abbrev cX4_commonDivisor : ByteArray := prog_1_method_50_code
def yX4_commonDivisor : MethodName := ⟨RX4, "commonDivisor", "(JJ)J"⟩
abbrev cX4_findOrder : ByteArray := prog_1_method_51_code
def yX4_findOrder : MethodName := ⟨RX4, "findOrder", "(LWeighedWords$Orders;LWeighedWords$Town;II)Z"⟩
def RX5 : String := "WeighedWordsModel"
def TX5 : u_T := fun k => match k with
  | 0 => ("WeighedWordsModel", "terraces", "I", false)
  | 1 => ("WeighedWordsModel", "bridges", "I", false)
  | 2 => ("WeighedWordsModel", "people", "I", false)
  | 3 => ("WeighedWordsModel", "published", "I", false)
  | 4 => ("WeighedWordsModel", "lesser", "[I", true)
  | 5 => ("WeighedWordsModel", "greater", "[I", true)
  | 6 => ("WeighedWordsModel", "load", "[I", true)
  | 7 => ("WeighedWordsModel", "bent", "[I", true)
  | 8 => ("WeighedWordsModel", "place", "[I", true)
  | 9 => ("WeighedWordsModel", "kin", "[I", true)
  | 10 => ("WeighedWordsModel", "knows", "[I", true)
  | 11 => ("WeighedWordsModel", "weight", "[I", true)
  | 12 => ("WeighedWordsModel", "about", "[I", true)
  | 13 => ("WeighedWordsModel", "fade", "I", false)
  | 14 => ("WeighedWordsModel", "sightBridge", "[I", true)
  | 15 => ("WeighedWordsModel", "sightOf", "[I", true)
  | 16 => ("WeighedWordsModel", "sights", "I", false)
  | 17 => ("WeighedWordsModel", "pad", "[I", true)
  | 18 => ("WeighedWordsModel", "padMany", "I", false)
  | 19 => ("WeighedWordsModel", "sort", "[I", true)
  | 20 => ("WeighedWordsModel", "who", "[I", true)
  | 21 => ("WeighedWordsModel", "whom", "[I", true)
  | 22 => ("WeighedWordsModel", "which", "[I", true)
  | 23 => ("WeighedWordsModel", "steps", "I", false)
  | 24 => ("WeighedWordsModel", "due", "I", false)
  | 25 => ("WeighedWordsModel", "badStep", "I", false)
  | 26 => ("WeighedWordsModel", "badWhy", "I", false)
  | 27 => ("WeighedWordsModel", "tellings", "I", false)
  | 28 => ("WeighedWordsModel", "crossings", "I", false)
  | 29 => ("WeighedWordsModel", "nights", "I", false)
  | 30 => ("WeighedWordsModel", "hadPlace", "[I", true)
  | 31 => ("WeighedWordsModel", "hadKnows", "[I", true)
  | 32 => ("WeighedWordsModel", "hadWeight", "[I", true)
  | 33 => ("WeighedWordsModel", "hadBent", "[I", true)
  | 34 => ("WeighedWordsModel", "hadPublished", "I", false)
  | 35 => ("WeighedWordsModel", "far", "[I", true)
  | 36 => ("WeighedWordsModel", "bestSet", "I", false)
  | 37 => ("WeighedWordsModel", "errandOf", "[I", true)
  | 38 => ("WeighedWordsModel", "goalOf", "[I", true)
  | 39 => ("WeighedWordsModel", "errands", "I", false)
  | 40 => ("WeighedWordsModel", "row", "[I", true)
  | 41 => ("WeighedWordsModel", "given", "[I", true)
  | 42 => ("WeighedWordsModel", "mayBe", "[I", true)
  | 43 => ("WeighedWordsModel", "kept", "[I", true)
  | 44 => ("WeighedWordsModel", "isKept", "[Z", true)
  | 45 => ("WeighedWordsModel", "keptAt", "I", false)
  | _ => ("WeighedWordsModel", "isWriting", "Z", false)
def tyX5 : Nat → FieldType := fun k => match k with
  | 0 => .int
  | 1 => .int
  | 2 => .int
  | 3 => .int
  | 4 => .array .int
  | 5 => .array .int
  | 6 => .array .int
  | 7 => .array .int
  | 8 => .array .int
  | 9 => .array .int
  | 10 => .array .int
  | 11 => .array .int
  | 12 => .array .int
  | 13 => .int
  | 14 => .array .int
  | 15 => .array .int
  | 16 => .int
  | 17 => .array .int
  | 18 => .int
  | 19 => .array .int
  | 20 => .array .int
  | 21 => .array .int
  | 22 => .array .int
  | 23 => .int
  | 24 => .int
  | 25 => .int
  | 26 => .int
  | 27 => .int
  | 28 => .int
  | 29 => .int
  | 30 => .array .int
  | 31 => .array .int
  | 32 => .array .int
  | 33 => .array .int
  | 34 => .int
  | 35 => .array .int
  | 36 => .int
  | 37 => .array .int
  | 38 => .array .int
  | 39 => .int
  | 40 => .array .int
  | 41 => .array .int
  | 42 => .array .int
  | 43 => .array .int
  | 44 => .array .boolean
  | 45 => .int
  | _ => .boolean
abbrev wsX50 : List Cond := u_ws RX5 TX5 47
theorem nmX5 : ∀ a, a < 47 → ∀ b, b < 47 → a ≠ b → (TX5 a).2.1 ≠ (TX5 b).2.1 := by decide +kernel
theorem tyX5_ok : ∀ k, k < 47 → parseFieldDescriptor (TX5 k).2.2.1 = some (tyX5 k) := by decide +kernel
abbrev cX5_init : ByteArray := prog_7_method_1_code
def yX5_init : MethodName := ⟨RX5, "<init>", "()V"⟩
abbrev cX5_in : ByteArray := prog_7_method_3_code
def yX5_in : MethodName := ⟨RX5, "in", "(JJJ)Z"⟩
abbrev cX5_ones : ByteArray := prog_7_method_4_code
def yX5_ones : MethodName := ⟨RX5, "ones", "(I)I"⟩
abbrev cX5_begin : ByteArray := prog_7_method_5_code
def yX5_begin : MethodName := ⟨RX5, "begin", "(I)V"⟩
abbrev cX5_isTerrace : ByteArray := prog_7_method_6_code
def yX5_isTerrace : MethodName := ⟨RX5, "isTerrace", "(I)Z"⟩
abbrev cX5_isBridge : ByteArray := prog_7_method_7_code
def yX5_isBridge : MethodName := ⟨RX5, "isBridge", "(I)Z"⟩
abbrev cX5_isThere : ByteArray := prog_7_method_8_code
def yX5_isThere : MethodName := ⟨RX5, "isThere", "(I)Z"⟩
abbrev cX5_isNews : ByteArray := prog_7_method_9_code
def yX5_isNews : MethodName := ⟨RX5, "isNews", "(I)Z"⟩
abbrev cX5_terraces : ByteArray := prog_7_method_10_code
def yX5_terraces : MethodName := ⟨RX5, "terraces", "(I)I"⟩
abbrev cX5_bridge : ByteArray := prog_7_method_11_code
def yX5_bridge : MethodName := ⟨RX5, "bridge", "(IIII)I"⟩
abbrev cX5_fall : ByteArray := prog_7_method_12_code
def yX5_fall : MethodName := ⟨RX5, "fall", "(I)I"⟩
abbrev cX5_person : ByteArray := prog_7_method_13_code
def yX5_person : MethodName := ⟨RX5, "person", "(III)I"⟩
abbrev cX5_leave : ByteArray := prog_7_method_14_code
def yX5_leave : MethodName := ⟨RX5, "leave", "(I)I"⟩
abbrev cX5_news : ByteArray := prog_7_method_15_code
def yX5_news : MethodName := ⟨RX5, "news", "(III)I"⟩
abbrev cX5_learn : ByteArray := prog_7_method_16_code
def yX5_learn : MethodName := ⟨RX5, "learn", "(IIZ)I"⟩
abbrev cX5_fade : ByteArray := prog_7_method_17_code
def yX5_fade : MethodName := ⟨RX5, "fade", "(I)I"⟩
abbrev cX5_say : ByteArray := prog_7_method_18_code
def yX5_say : MethodName := ⟨RX5, "say", "(I)I"⟩
abbrev cX5_wipe : ByteArray := prog_7_method_19_code
def yX5_wipe : MethodName := ⟨RX5, "wipe", "()I"⟩
abbrev cX5_isName : ByteArray := prog_7_method_20_code
def yX5_isName : MethodName := ⟨RX5, "isName", "(I)Z"⟩
abbrev cX5_isLetter : ByteArray := prog_7_method_21_code
def yX5_isLetter : MethodName := ⟨RX5, "isLetter", "(I)Z"⟩
abbrev cX5_readFirst : ByteArray := prog_7_method_22_code
def yX5_readFirst : MethodName := ⟨RX5, "readFirst", "(I)Z"⟩
abbrev cX5_readSecond : ByteArray := prog_7_method_23_code
def yX5_readSecond : MethodName := ⟨RX5, "readSecond", "(I)Z"⟩
abbrev cX5_readNews : ByteArray := prog_7_method_24_code
def yX5_readNews : MethodName := ⟨RX5, "readNews", "(I)Z"⟩
abbrev cX5_fault : ByteArray := prog_7_method_25_code
def yX5_fault : MethodName := ⟨RX5, "fault", "()I"⟩
abbrev cX5_knowers : ByteArray := prog_7_method_26_code
def yX5_knowers : MethodName := ⟨RX5, "knowers", "(I)I"⟩
abbrev cX5_heavyBy : ByteArray := prog_7_method_27_code
def yX5_heavyBy : MethodName := ⟨RX5, "heavyBy", "(III)I"⟩
abbrev cX5_sumOf : ByteArray := prog_7_method_28_code
def yX5_sumOf : MethodName := ⟨RX5, "sumOf", "(II)I"⟩
abbrev cX5_carriedBy : ByteArray := prog_7_method_29_code
def yX5_carriedBy : MethodName := ⟨RX5, "carriedBy", "(I)I"⟩
abbrev cX5_passNight : ByteArray := prog_7_method_30_code
def yX5_passNight : MethodName := ⟨RX5, "passNight", "()V"⟩
abbrev cX5_heavy : ByteArray := prog_7_method_31_code
def yX5_heavy : MethodName := ⟨RX5, "heavy", "(II)I"⟩
abbrev cX5_carries : ByteArray := prog_7_method_32_code
def yX5_carries : MethodName := ⟨RX5, "carries", "(I)I"⟩
abbrev cX5_bent : ByteArray := prog_7_method_33_code
def yX5_bent : MethodName := ⟨RX5, "bent", "(I)I"⟩
abbrev cX5_tell : ByteArray := prog_7_method_34_code
def yX5_tell : MethodName := ⟨RX5, "tell", "(III)I"⟩
abbrev cX5_cross : ByteArray := prog_7_method_35_code
def yX5_cross : MethodName := ⟨RX5, "cross", "(II)I"⟩
abbrev cX5_publish : ByteArray := prog_7_method_36_code
def yX5_publish : MethodName := ⟨RX5, "publish", "(I)I"⟩
abbrev cX5_happen : ByteArray := prog_7_method_37_code
def yX5_happen : MethodName := ⟨RX5, "happen", "(I)I"⟩
abbrev cX5_keepNow : ByteArray := prog_7_method_38_code
def yX5_keepNow : MethodName := ⟨RX5, "keepNow", "()V"⟩
abbrev cX5_putBack : ByteArray := prog_7_method_39_code
def yX5_putBack : MethodName := ⟨RX5, "putBack", "()V"⟩
abbrev cX5_goDay : ByteArray := prog_7_method_40_code
def yX5_goDay : MethodName := ⟨RX5, "goDay", "()V"⟩
abbrev cX5_judge : ByteArray := prog_7_method_41_code
def yX5_judge : MethodName := ⟨RX5, "judge", "(I)I"⟩
abbrev cX5_behind : ByteArray := prog_7_method_42_code
def yX5_behind : MethodName := ⟨RX5, "behind", "(II)I"⟩
abbrev cX5_done : ByteArray := prog_7_method_43_code
def yX5_done : MethodName := ⟨RX5, "done", "()I"⟩
abbrev cX5_bearing : ByteArray := prog_7_method_44_code
def yX5_bearing : MethodName := ⟨RX5, "bearing", "(I)I"⟩
abbrev cX5_findFar : ByteArray := prog_7_method_45_code
def yX5_findFar : MethodName := ⟨RX5, "findFar", "(II)V"⟩
abbrev cX5_farBy : ByteArray := prog_7_method_46_code
def yX5_farBy : MethodName := ⟨RX5, "farBy", "(III)I"⟩
abbrev cX5_hasWay : ByteArray := prog_7_method_47_code
def yX5_hasWay : MethodName := ⟨RX5, "hasWay", "(III)Z"⟩
abbrev cX5_isAsked : ByteArray := prog_7_method_48_code
def yX5_isAsked : MethodName := ⟨RX5, "isAsked", "(II)Z"⟩
abbrev cX5_way : ByteArray := prog_7_method_49_code
def yX5_way : MethodName := ⟨RX5, "way", "(III)I"⟩
abbrev cX5_leadsOn : ByteArray := prog_7_method_50_code
def yX5_leadsOn : MethodName := ⟨RX5, "leadsOn", "(III)Z"⟩
abbrev cX5_offerSet : ByteArray := prog_7_method_51_code
def yX5_offerSet : MethodName := ⟨RX5, "offerSet", "(IZ)V"⟩
abbrev cX5_tellSet : ByteArray := prog_7_method_52_code
def yX5_tellSet : MethodName := ⟨RX5, "tellSet", "(I)I"⟩
abbrev cX5_least0 : ByteArray := prog_7_method_53_code
def yX5_least0 : MethodName := ⟨RX5, "least0", "(I)I"⟩
abbrev cX5_left : ByteArray := prog_7_method_54_code
def yX5_left : MethodName := ⟨RX5, "left", "(III)I"⟩
abbrev cX5_cried : ByteArray := prog_7_method_55_code
def yX5_cried : MethodName := ⟨RX5, "cried", "(III)I"⟩
abbrev cX5_lies : ByteArray := prog_7_method_56_code
def yX5_lies : MethodName := ⟨RX5, "lies", "(I)I"⟩
abbrev cX5_floatedBy : ByteArray := prog_7_method_57_code
def yX5_floatedBy : MethodName := ⟨RX5, "floatedBy", "(II)I"⟩
abbrev cX5_floated : ByteArray := prog_7_method_58_code
def yX5_floated : MethodName := ⟨RX5, "floated", "(III)I"⟩
abbrev cX5_mended : ByteArray := prog_7_method_59_code
def yX5_mended : MethodName := ⟨RX5, "mended", "(III)I"⟩
abbrev cX5_reachedBy : ByteArray := prog_7_method_60_code
def yX5_reachedBy : MethodName := ⟨RX5, "reachedBy", "(I)I"⟩
abbrev cX5_knowersOf : ByteArray := prog_7_method_61_code
def yX5_knowersOf : MethodName := ⟨RX5, "knowersOf", "(I)I"⟩
abbrev cX5_rumour : ByteArray := prog_7_method_62_code
def yX5_rumour : MethodName := ⟨RX5, "rumour", "(I)I"⟩
abbrev cX5_tens : ByteArray := prog_7_method_63_code
def yX5_tens : MethodName := ⟨RX5, "tens", "(I)I"⟩
abbrev cX5_layErrands : ByteArray := prog_7_method_64_code
def yX5_layErrands : MethodName := ⟨RX5, "layErrands", "(II)Z"⟩
abbrev cX5_goesErrand : ByteArray := prog_7_method_65_code
def yX5_goesErrand : MethodName := ⟨RX5, "goesErrand", "(II)Z"⟩
abbrev cX5_layRow : ByteArray := prog_7_method_66_code
def yX5_layRow : MethodName := ⟨RX5, "layRow", "(I)Z"⟩
abbrev cX5_canAll : ByteArray := prog_7_method_67_code
def yX5_canAll : MethodName := ⟨RX5, "canAll", "()Z"⟩
abbrev cX5_errands : ByteArray := prog_7_method_68_code
def yX5_errands : MethodName := ⟨RX5, "errands", "(III)I"⟩
abbrev cX5_half : ByteArray := prog_7_method_69_code
def yX5_half : MethodName := ⟨RX5, "half", "(I)I"⟩
abbrev cX5_canBear : ByteArray := prog_7_method_70_code
def yX5_canBear : MethodName := ⟨RX5, "canBear", "(III)Z"⟩
abbrev cX5_two : ByteArray := prog_7_method_71_code
def yX5_two : MethodName := ⟨RX5, "two", "(III)I"⟩
abbrev cX5_feeOf : ByteArray := prog_7_method_72_code
def yX5_feeOf : MethodName := ⟨RX5, "feeOf", "(II)I"⟩
abbrev cX5_fee : ByteArray := prog_7_method_73_code
def yX5_fee : MethodName := ⟨RX5, "fee", "(II)I"⟩
abbrev cX5_fees : ByteArray := prog_7_method_74_code
def yX5_fees : MethodName := ⟨RX5, "fees", "(II)I"⟩
abbrev cX5_seen : ByteArray := prog_7_method_75_code
def yX5_seen : MethodName := ⟨RX5, "seen", "(II)I"⟩
abbrev cX5_forget : ByteArray := prog_7_method_76_code
def yX5_forget : MethodName := ⟨RX5, "forget", "()I"⟩
abbrev cX5_whoBent : ByteArray := prog_7_method_77_code
def yX5_whoBent : MethodName := ⟨RX5, "whoBent", "(I)I"⟩
abbrev cX5_who : ByteArray := prog_7_method_78_code
def yX5_who : MethodName := ⟨RX5, "who", "(I)I"⟩
abbrev cX5_fits : ByteArray := prog_7_method_79_code
def yX5_fits : MethodName := ⟨RX5, "fits", "(I)Z"⟩
abbrev cX5_fit : ByteArray := prog_7_method_80_code
def yX5_fit : MethodName := ⟨RX5, "fit", "()I"⟩
abbrev cX5_lowest : ByteArray := prog_7_method_81_code
def yX5_lowest : MethodName := ⟨RX5, "lowest", "(JJI)J"⟩
abbrev cX5_chance : ByteArray := prog_7_method_82_code
def yX5_chance : MethodName := ⟨RX5, "chance", "(IIII)J"⟩
abbrev cX5_year : ByteArray := prog_7_method_83_code
def yX5_year : MethodName := ⟨RX5, "year", "(III)I"⟩
abbrev cX5_pass : ByteArray := prog_7_method_84_code
def yX5_pass : MethodName := ⟨RX5, "pass", "(I)I"⟩
abbrev cX5_passAll : ByteArray := prog_7_method_85_code
def yX5_passAll : MethodName := ⟨RX5, "passAll", "()V"⟩
abbrev cX5_image : ByteArray := prog_7_method_86_code
def yX5_image : MethodName := ⟨RX5, "image", "(I)I"⟩
abbrev cX5_restore : ByteArray := prog_7_method_87_code
def yX5_restore : MethodName := ⟨RX5, "restore", "(I)I"⟩
abbrev cX5_toldOfBridge : ByteArray := prog_7_method_88_code
def yX5_toldOfBridge : MethodName := ⟨RX5, "toldOfBridge", "(II)I"⟩
abbrev cX5_toldOfPerson : ByteArray := prog_7_method_89_code
def yX5_toldOfPerson : MethodName := ⟨RX5, "toldOfPerson", "(II)I"⟩
abbrev cX5_told : ByteArray := prog_7_method_90_code
def yX5_told : MethodName := ⟨RX5, "told", "(I)I"⟩
def RJ6 : String := "java/lang/Integer"
def TJ6 : u_T := fun k => match k with
  | _ => ("", "", "", false)
def tyJ6 : Nat → FieldType := fun k => match k with
  | _ => .int
abbrev wsJ60 : List Cond := u_ws RJ6 TJ6 0
theorem nmJ6 : ∀ a, a < 0 → ∀ b, b < 0 → a ≠ b → (TJ6 a).2.1 ≠ (TJ6 b).2.1 := by decide +kernel
theorem tyJ6_ok : ∀ k, k < 0 → parseFieldDescriptor (TJ6 k).2.2.1 = some (tyJ6 k) := by decide +kernel
abbrev cJ6_bitCount_0f7a4 : ByteArray := prog_8_method_49_code
def yJ6_bitCount_0f7a4 : MethodName := ⟨RJ6, "bitCount", "(I)I"⟩
def RJ9 : String := "java/lang/Math"
def TJ9 : u_T := fun k => match k with
  | _ => ("", "", "", false)
def tyJ9 : Nat → FieldType := fun k => match k with
  | _ => .int
abbrev wsJ90 : List Cond := u_ws RJ9 TJ9 0
theorem nmJ9 : ∀ a, a < 0 → ∀ b, b < 0 → a ≠ b → (TJ9 a).2.1 ≠ (TJ9 b).2.1 := by decide +kernel
theorem tyJ9_ok : ∀ k, k < 0 → parseFieldDescriptor (TJ9 k).2.2.1 = some (tyJ9 k) := by decide +kernel
abbrev cJ9_floorDiv_7cf53 : ByteArray := prog_9_method_47_code
def yJ9_floorDiv_7cf53 : MethodName := ⟨RJ9, "floorDiv", "(II)I"⟩
abbrev cJ9_max_7cf53 : ByteArray := prog_9_method_65_code
def yJ9_max_7cf53 : MethodName := ⟨RJ9, "max", "(II)I"⟩
abbrev cJ9_max_f86c9 : ByteArray := prog_9_method_66_code
def yJ9_max_f86c9 : MethodName := ⟨RJ9, "max", "(JJ)J"⟩
abbrev cJ9_min_7cf53 : ByteArray := prog_9_method_69_code
def yJ9_min_7cf53 : MethodName := ⟨RJ9, "min", "(II)I"⟩
def RJ10 : String := "java/lang/System"
def TJ10 : u_T := fun k => match k with
  | _ => ("", "", "", false)
def tyJ10 : Nat → FieldType := fun k => match k with
  | _ => .int
abbrev wsJ100 : List Cond := u_ws RJ10 TJ10 0
theorem nmJ10 : ∀ a, a < 0 → ∀ b, b < 0 → a ≠ b → (TJ10 a).2.1 ≠ (TJ10 b).2.1 := by decide +kernel
theorem tyJ10_ok : ∀ k, k < 0 → parseFieldDescriptor (TJ10 k).2.2.1 = some (tyJ10 k) := by decide +kernel
def RJ7 : String := "java/util/Arrays"
def TJ7 : u_T := fun k => match k with
  | _ => ("", "", "", false)
def tyJ7 : Nat → FieldType := fun k => match k with
  | _ => .int
abbrev wsJ70 : List Cond := u_ws RJ7 TJ7 0
theorem nmJ7 : ∀ a, a < 0 → ∀ b, b < 0 → a ≠ b → (TJ7 a).2.1 ≠ (TJ7 b).2.1 := by decide +kernel
theorem tyJ7_ok : ∀ k, k < 0 → parseFieldDescriptor (TJ7 k).2.2.1 = some (tyJ7 k) := by decide +kernel
abbrev cJ7_fill_53178 : ByteArray := prog_11_method_103_code
def yJ7_fill_53178 : MethodName := ⟨RJ7, "fill", "([II)V"⟩
def RL : String := "WeighedWordsLaw"
abbrev cL_law : ByteArray := code
def yL_law : MethodName := ⟨RL, "law", "([I)Z"⟩
abbrev vwCl : List vw_C := [(RX0, TX0, 6), (RX1, TX1, 3), (RX2, TX2, 2), (RX3, TX3, 17), (RX4, TX4, 6), (RX5, TX5, 47)]
/-- the good words of the tables -/
def tb : List Cond := lw_tbl.filter goodWord
theorem tb_m {w : Cond} (i : Nat) (h : lw_tbl[i]? = some w) (hg : goodWord w = true) : w ∈ tb := List.mem_filter.mpr ⟨List.mem_of_getElem? h, hg⟩
theorem tb_all {w : Cond} (h : w ∈ tb) : w ∈ lw_tbl ∧ goodWord w = true := List.mem_filter.mp h
/-- a link of a field: its class, its slot -/
def kF (own : String) (idx : Nat) (C : String) (T : u_T) (k : Nat) : Prop := Cond.fieldLink own idx C (T k).2.1 (T k).2.2.1 ∈ tb
/-- a class of the worlds -/
def kC (ci : Nat) (C : String) (T : u_T) (N : Nat) : Prop := vwCl[ci]? = some (C, T, N) ∧ (∀ w ∈ u_ws C T N, w ∈ tb) ∧ (∀ k, k < N → (T k).1 = C)
def kT (T : u_T) (N : Nat) (ty : Nat → FieldType) : Prop := (∀ k, k < N → parseFieldDescriptor (T k).2.2.1 = some (ty k)) ∧ (∀ a, a < N → ∀ b, b < N → a ≠ b → (T a).2.1 ≠ (T b).2.1)
/-- a link of a method; a method's code, class and count; an instance method; a static one -/
def kM (own : String) (idx : Nat) (y : MethodName) : Prop := Cond.methodLink own idx y ∈ tb
def kY (y : MethodName) (cc : ByteArray) (nL : Nat) (rt : Option FieldType) (n : Nat) : Prop := Cond.code y cc nL rt ∈ tb ∧ Cond.initialized y.cls ∈ tb ∧ (y.cls ≠ "java/lang/invoke/MethodHandle" ∧ y.cls ≠ "java/lang/invoke/VarHandle" ∧ (parseMethodDescriptor y.desc).map (fun d => d.parameters.length) = some n) ∧ plainFor y = true
def kI (y : MethodName) : Prop := Cond.instanceMethod y ∈ tb ∧ Cond.selects y.cls y y ∈ tb
def kN (y : MethodName) : Prop := Cond.instanceMethod y ∈ tb ∧ y.name = "<init>"
def kS (y : MethodName) : Prop := Cond.static y ∈ tb
theorem kl_X0 : ∀ w ∈ u_ws RX0 TX0 6, w ∈ tb := by
  intro w hw
  have h : (u_ws RX0 TX0 6).all (fun w => decide (w ∈ lw_tbl) && goodWord w) = true := by decide +kernel
  have h1 := List.all_eq_true.mp h w hw
  simp only [Bool.and_eq_true, decide_eq_true_eq] at h1
  exact List.mem_filter.mpr h1
theorem kC_X0 : kC 0 RX0 TX0 6 := ⟨rfl, kl_X0, by decide +kernel⟩
theorem kT_X0 : kT TX0 6 tyX0 := ⟨tyX0_ok, nmX0⟩
theorem kl_X1 : ∀ w ∈ u_ws RX1 TX1 3, w ∈ tb := by
  intro w hw
  have h : (u_ws RX1 TX1 3).all (fun w => decide (w ∈ lw_tbl) && goodWord w) = true := by decide +kernel
  have h1 := List.all_eq_true.mp h w hw
  simp only [Bool.and_eq_true, decide_eq_true_eq] at h1
  exact List.mem_filter.mpr h1
theorem kC_X1 : kC 1 RX1 TX1 3 := ⟨rfl, kl_X1, by decide +kernel⟩
theorem kT_X1 : kT TX1 3 tyX1 := ⟨tyX1_ok, nmX1⟩
theorem kl_X2 : ∀ w ∈ u_ws RX2 TX2 2, w ∈ tb := by
  intro w hw
  have h : (u_ws RX2 TX2 2).all (fun w => decide (w ∈ lw_tbl) && goodWord w) = true := by decide +kernel
  have h1 := List.all_eq_true.mp h w hw
  simp only [Bool.and_eq_true, decide_eq_true_eq] at h1
  exact List.mem_filter.mpr h1
theorem kC_X2 : kC 2 RX2 TX2 2 := ⟨rfl, kl_X2, by decide +kernel⟩
theorem kT_X2 : kT TX2 2 tyX2 := ⟨tyX2_ok, nmX2⟩
theorem kl_X3 : ∀ w ∈ u_ws RX3 TX3 17, w ∈ tb := by
  intro w hw
  have h : (u_ws RX3 TX3 17).all (fun w => decide (w ∈ lw_tbl) && goodWord w) = true := by decide +kernel
  have h1 := List.all_eq_true.mp h w hw
  simp only [Bool.and_eq_true, decide_eq_true_eq] at h1
  exact List.mem_filter.mpr h1
theorem kC_X3 : kC 3 RX3 TX3 17 := ⟨rfl, kl_X3, by decide +kernel⟩
theorem kT_X3 : kT TX3 17 tyX3 := ⟨tyX3_ok, nmX3⟩
theorem kl_X4 : ∀ w ∈ u_ws RX4 TX4 6, w ∈ tb := by
  intro w hw
  have h : (u_ws RX4 TX4 6).all (fun w => decide (w ∈ lw_tbl) && goodWord w) = true := by decide +kernel
  have h1 := List.all_eq_true.mp h w hw
  simp only [Bool.and_eq_true, decide_eq_true_eq] at h1
  exact List.mem_filter.mpr h1
theorem kC_X4 : kC 4 RX4 TX4 6 := ⟨rfl, kl_X4, by decide +kernel⟩
theorem kT_X4 : kT TX4 6 tyX4 := ⟨tyX4_ok, nmX4⟩
theorem kl_X5 : ∀ w ∈ u_ws RX5 TX5 47, w ∈ tb := by
  intro w hw
  have h : (u_ws RX5 TX5 47).all (fun w => decide (w ∈ lw_tbl) && goodWord w) = true := by decide +kernel
  have h1 := List.all_eq_true.mp h w hw
  simp only [Bool.and_eq_true, decide_eq_true_eq] at h1
  exact List.mem_filter.mpr h1
theorem kC_X5 : kC 5 RX5 TX5 47 := ⟨rfl, kl_X5, by decide +kernel⟩
theorem kT_X5 : kT TX5 47 tyX5 := ⟨tyX5_ok, nmX5⟩
theorem km_L_9 : kM RL 9 yX4_init := tb_m 64 (by decide +kernel) (by decide +kernel)
theorem km_X4_9 : kM RX4 9 yX3_init := tb_m 72 (by decide +kernel) (by decide +kernel)
theorem km_X3_49 : kM RX3 49 yX3_settle := tb_m 76 (by decide +kernel) (by decide +kernel)
theorem km_X3_68 : kM RX3 68 yJ7_fill_53178 := tb_m 80 (by decide +kernel) (by decide +kernel)
theorem kf_X3_53 : kF RX3 53 RX3 TX3 0 := tb_m 83 (by decide +kernel) (by decide +kernel)
theorem kf_X4_48 : kF RX4 48 RX3 TX3 0 := tb_m 84 (by decide +kernel) (by decide +kernel)
theorem kf_X3_56 : kF RX3 56 RX3 TX3 1 := tb_m 85 (by decide +kernel) (by decide +kernel)
theorem kf_X4_60 : kF RX4 60 RX3 TX3 1 := tb_m 86 (by decide +kernel) (by decide +kernel)
theorem kf_X3_9 : kF RX3 9 RX3 TX3 2 := tb_m 87 (by decide +kernel) (by decide +kernel)
theorem kf_X4_63 : kF RX4 63 RX3 TX3 2 := tb_m 88 (by decide +kernel) (by decide +kernel)
theorem kf_X3_15 : kF RX3 15 RX3 TX3 3 := tb_m 89 (by decide +kernel) (by decide +kernel)
theorem kf_X4_73 : kF RX4 73 RX3 TX3 3 := tb_m 90 (by decide +kernel) (by decide +kernel)
theorem kf_X3_18 : kF RX3 18 RX3 TX3 4 := tb_m 91 (by decide +kernel) (by decide +kernel)
theorem kf_X4_79 : kF RX4 79 RX3 TX3 4 := tb_m 92 (by decide +kernel) (by decide +kernel)
theorem kf_X3_21 : kF RX3 21 RX3 TX3 5 := tb_m 93 (by decide +kernel) (by decide +kernel)
theorem kf_X4_82 : kF RX4 82 RX3 TX3 5 := tb_m 94 (by decide +kernel) (by decide +kernel)
theorem kf_X3_59 : kF RX3 59 RX3 TX3 6 := tb_m 95 (by decide +kernel) (by decide +kernel)
theorem kf_X4_94 : kF RX4 94 RX3 TX3 6 := tb_m 96 (by decide +kernel) (by decide +kernel)
theorem kf_X3_24 : kF RX3 24 RX3 TX3 7 := tb_m 97 (by decide +kernel) (by decide +kernel)
theorem kf_X4_97 : kF RX4 97 RX3 TX3 7 := tb_m 98 (by decide +kernel) (by decide +kernel)
theorem kf_X3_27 : kF RX3 27 RX3 TX3 8 := tb_m 99 (by decide +kernel) (by decide +kernel)
theorem kf_X4_100 : kF RX4 100 RX3 TX3 8 := tb_m 100 (by decide +kernel) (by decide +kernel)
theorem kf_X3_30 : kF RX3 30 RX3 TX3 9 := tb_m 101 (by decide +kernel) (by decide +kernel)
theorem kf_X4_103 : kF RX4 103 RX3 TX3 9 := tb_m 102 (by decide +kernel) (by decide +kernel)
theorem kf_X3_33 : kF RX3 33 RX3 TX3 10 := tb_m 103 (by decide +kernel) (by decide +kernel)
theorem kf_X4_112 : kF RX4 112 RX3 TX3 10 := tb_m 104 (by decide +kernel) (by decide +kernel)
theorem kf_X3_36 : kF RX3 36 RX3 TX3 11 := tb_m 105 (by decide +kernel) (by decide +kernel)
theorem kf_X4_115 : kF RX4 115 RX3 TX3 11 := tb_m 106 (by decide +kernel) (by decide +kernel)
theorem kf_X3_65 : kF RX3 65 RX3 TX3 12 := tb_m 107 (by decide +kernel) (by decide +kernel)
theorem kf_X4_118 : kF RX4 118 RX3 TX3 12 := tb_m 108 (by decide +kernel) (by decide +kernel)
theorem kf_X3_45 : kF RX3 45 RX3 TX3 13 := tb_m 109 (by decide +kernel) (by decide +kernel)
theorem kf_X4_121 : kF RX4 121 RX3 TX3 13 := tb_m 110 (by decide +kernel) (by decide +kernel)
theorem kf_X3_62 : kF RX3 62 RX3 TX3 14 := tb_m 111 (by decide +kernel) (by decide +kernel)
theorem kf_X4_225 : kF RX4 225 RX3 TX3 14 := tb_m 112 (by decide +kernel) (by decide +kernel)
theorem kf_X3_39 : kF RX3 39 RX3 TX3 15 := tb_m 113 (by decide +kernel) (by decide +kernel)
theorem kf_X4_228 : kF RX4 228 RX3 TX3 15 := tb_m 114 (by decide +kernel) (by decide +kernel)
theorem kf_X3_42 : kF RX3 42 RX3 TX3 16 := tb_m 115 (by decide +kernel) (by decide +kernel)
theorem kf_X4_231 : kF RX4 231 RX3 TX3 16 := tb_m 116 (by decide +kernel) (by decide +kernel)
theorem km_X4_25 : kM RX4 25 yX2_init := tb_m 156 (by decide +kernel) (by decide +kernel)
theorem kf_X2_9 : kF RX2 9 RX2 TX2 0 := tb_m 160 (by decide +kernel) (by decide +kernel)
theorem kf_X4_127 : kF RX4 127 RX2 TX2 0 := tb_m 161 (by decide +kernel) (by decide +kernel)
theorem kf_X2_15 : kF RX2 15 RX2 TX2 1 := tb_m 162 (by decide +kernel) (by decide +kernel)
theorem kf_X0_42 : kF RX0 42 RX2 TX2 1 := tb_m 163 (by decide +kernel) (by decide +kernel)
theorem kf_X4_124 : kF RX4 124 RX2 TX2 1 := tb_m 164 (by decide +kernel) (by decide +kernel)
theorem km_X4_32 : kM RX4 32 yX0_init := tb_m 172 (by decide +kernel) (by decide +kernel)
theorem kf_X0_33 : kF RX0 33 RX0 TX0 0 := tb_m 176 (by decide +kernel) (by decide +kernel)
theorem kf_X4_138 : kF RX4 138 RX0 TX0 0 := tb_m 177 (by decide +kernel) (by decide +kernel)
theorem kf_X0_9 : kF RX0 9 RX0 TX0 1 := tb_m 178 (by decide +kernel) (by decide +kernel)
theorem kf_X4_144 : kF RX4 144 RX0 TX0 1 := tb_m 179 (by decide +kernel) (by decide +kernel)
theorem kf_X0_15 : kF RX0 15 RX0 TX0 2 := tb_m 180 (by decide +kernel) (by decide +kernel)
theorem kf_X4_141 : kF RX4 141 RX0 TX0 2 := tb_m 181 (by decide +kernel) (by decide +kernel)
theorem kf_X0_18 : kF RX0 18 RX0 TX0 3 := tb_m 182 (by decide +kernel) (by decide +kernel)
theorem kf_X4_147 : kF RX4 147 RX0 TX0 3 := tb_m 183 (by decide +kernel) (by decide +kernel)
theorem kf_X0_21 : kF RX0 21 RX0 TX0 4 := tb_m 184 (by decide +kernel) (by decide +kernel)
theorem kf_X4_150 : kF RX4 150 RX0 TX0 4 := tb_m 185 (by decide +kernel) (by decide +kernel)
theorem kf_X0_24 : kF RX0 24 RX0 TX0 5 := tb_m 186 (by decide +kernel) (by decide +kernel)
theorem kf_X4_153 : kF RX4 153 RX0 TX0 5 := tb_m 187 (by decide +kernel) (by decide +kernel)
theorem km_X4_39 : kM RX4 39 yX1_init := tb_m 203 (by decide +kernel) (by decide +kernel)
theorem kf_X1_9 : kF RX1 9 RX1 TX1 0 := tb_m 207 (by decide +kernel) (by decide +kernel)
theorem kf_X4_213 : kF RX4 213 RX1 TX1 0 := tb_m 208 (by decide +kernel) (by decide +kernel)
theorem kf_X1_15 : kF RX1 15 RX1 TX1 1 := tb_m 209 (by decide +kernel) (by decide +kernel)
theorem kf_X4_276 : kF RX4 276 RX1 TX1 1 := tb_m 210 (by decide +kernel) (by decide +kernel)
theorem kf_X1_18 : kF RX1 18 RX1 TX1 2 := tb_m 211 (by decide +kernel) (by decide +kernel)
theorem kf_X4_282 : kF RX4 282 RX1 TX1 2 := tb_m 212 (by decide +kernel) (by decide +kernel)
theorem kf_X4_10 : kF RX4 10 RX4 TX4 0 := tb_m 220 (by decide +kernel) (by decide +kernel)
theorem kf_X4_16 : kF RX4 16 RX4 TX4 1 := tb_m 221 (by decide +kernel) (by decide +kernel)
theorem kf_X4_19 : kF RX4 19 RX4 TX4 2 := tb_m 222 (by decide +kernel) (by decide +kernel)
theorem kf_X4_26 : kF RX4 26 RX4 TX4 3 := tb_m 223 (by decide +kernel) (by decide +kernel)
theorem kf_X4_33 : kF RX4 33 RX4 TX4 4 := tb_m 224 (by decide +kernel) (by decide +kernel)
theorem kf_X4_40 : kF RX4 40 RX4 TX4 5 := tb_m 225 (by decide +kernel) (by decide +kernel)
theorem km_L_13 : kM RL 13 yX4_terraces := tb_m 239 (by decide +kernel) (by decide +kernel)
theorem km_X4_44 : kM RX4 44 yX4_within := tb_m 243 (by decide +kernel) (by decide +kernel)
theorem km_X4_52 : kM RX4 52 yX3_settle := tb_m 246 (by decide +kernel) (by decide +kernel)
theorem km_L_18 : kM RL 18 yX4_bridge := tb_m 247 (by decide +kernel) (by decide +kernel)
theorem km_X4_56 : kM RX4 56 yX3_hasTerrace := tb_m 251 (by decide +kernel) (by decide +kernel)
theorem km_X4_67 : kM RX4 67 yJ9_min_7cf53 := tb_m 256 (by decide +kernel) (by decide +kernel)
theorem km_X4_76 : kM RX4 76 yJ9_max_7cf53 := tb_m 259 (by decide +kernel) (by decide +kernel)
theorem km_X4_85 : kM RX4 85 yJ6_bitCount_0f7a4 := tb_m 262 (by decide +kernel) (by decide +kernel)
theorem kk_J6_265 : Cond.constant RJ6 265 (1431655765) ∈ tb := tb_m 265 (by decide +kernel) (by decide +kernel)
theorem kk_J6_266 : Cond.constant RJ6 266 (858993459) ∈ tb := tb_m 266 (by decide +kernel) (by decide +kernel)
theorem kk_J6_267 : Cond.constant RJ6 267 (252645135) ∈ tb := tb_m 267 (by decide +kernel) (by decide +kernel)
theorem km_L_23 : kM RL 23 yX4_fall := tb_m 268 (by decide +kernel) (by decide +kernel)
theorem km_X4_91 : kM RX4 91 yX3_hasBridge := tb_m 272 (by decide +kernel) (by decide +kernel)
theorem km_L_27 : kM RL 27 yX4_person := tb_m 279 (by decide +kernel) (by decide +kernel)
theorem km_L_32 : kM RL 32 yX4_leave := tb_m 283 (by decide +kernel) (by decide +kernel)
theorem km_X4_106 : kM RX4 106 yX3_hasPerson := tb_m 287 (by decide +kernel) (by decide +kernel)
theorem km_L_36 : kM RL 36 yX4_news := tb_m 291 (by decide +kernel) (by decide +kernel)
theorem km_X4_109 : kM RX4 109 yX4_isNews := tb_m 295 (by decide +kernel) (by decide +kernel)
theorem km_L_40 : kM RL 40 yX4_learn := tb_m 298 (by decide +kernel) (by decide +kernel)
theorem km_L_45 : kM RL 45 yX4_fade := tb_m 302 (by decide +kernel) (by decide +kernel)
theorem km_L_49 : kM RL 49 yX4_say := tb_m 306 (by decide +kernel) (by decide +kernel)
theorem km_L_53 : kM RL 53 yX4_wipe := tb_m 310 (by decide +kernel) (by decide +kernel)
theorem km_L_58 : kM RL 58 yX4_fault := tb_m 314 (by decide +kernel) (by decide +kernel)
theorem km_X4_130 : kM RX4 130 yX2_faultPlace := tb_m 318 (by decide +kernel) (by decide +kernel)
theorem km_X2_23 : kM RX2 23 yX2_signAt := tb_m 322 (by decide +kernel) (by decide +kernel)
theorem km_X2_27 : kM RX2 27 yX2_readOn := tb_m 327 (by decide +kernel) (by decide +kernel)
theorem km_X2_31 : kM RX2 31 yX2_isPersonSign := tb_m 330 (by decide +kernel) (by decide +kernel)
theorem km_L_62 : kM RL 62 yX4_judge := tb_m 333 (by decide +kernel) (by decide +kernel)
theorem km_X4_134 : kM RX4 134 yX0_live := tb_m 337 (by decide +kernel) (by decide +kernel)
theorem km_X0_27 : kM RX0 27 yX2_faultPlace := tb_m 341 (by decide +kernel) (by decide +kernel)
theorem km_X0_36 : kM RX0 36 yX3_copy := tb_m 342 (by decide +kernel) (by decide +kernel)
theorem km_X0_45 : kM RX0 45 yX0_takeStep := tb_m 349 (by decide +kernel) (by decide +kernel)
theorem km_X0_49 : kM RX0 49 yX2_signAt := tb_m 353 (by decide +kernel) (by decide +kernel)
theorem km_X0_53 : kM RX0 53 yX3_passNight := tb_m 354 (by decide +kernel) (by decide +kernel)
theorem km_X3_95 : kM RX3 95 yJ9_max_7cf53 := tb_m 358 (by decide +kernel) (by decide +kernel)
theorem km_X0_56 : kM RX0 56 yX3_publishIfItCanBe := tb_m 359 (by decide +kernel) (by decide +kernel)
theorem km_X0_59 : kM RX0 59 yX2_isPersonSign := tb_m 363 (by decide +kernel) (by decide +kernel)
theorem km_X0_63 : kM RX0 63 yX3_tellIfItCanBe := tb_m 364 (by decide +kernel) (by decide +kernel)
theorem km_X3_131 : kM RX3 131 yX3_hasPerson := tb_m 368 (by decide +kernel) (by decide +kernel)
theorem km_X0_67 : kM RX0 67 yX3_crossIfItCanBe := tb_m 369 (by decide +kernel) (by decide +kernel)
theorem km_X3_135 : kM RX3 135 yX3_hasBridge := tb_m 373 (by decide +kernel) (by decide +kernel)
theorem km_X3_128 : kM RX3 128 yX3_isAtEnd := tb_m 374 (by decide +kernel) (by decide +kernel)
theorem km_X3_100 : kM RX3 100 yX3_burden := tb_m 378 (by decide +kernel) (by decide +kernel)
theorem km_X3_92 : kM RX3 92 yX3_sum := tb_m 382 (by decide +kernel) (by decide +kernel)
theorem km_X3_88 : kM RX3 88 yX3_weightFor := tb_m 386 (by decide +kernel) (by decide +kernel)
theorem km_X3_125 : kM RX3 125 yX3_otherEnd := tb_m 390 (by decide +kernel) (by decide +kernel)
theorem km_L_66 : kM RL 66 yX4_behind := tb_m 394 (by decide +kernel) (by decide +kernel)
theorem km_X4_156 : kM RX4 156 yX3_burden := tb_m 398 (by decide +kernel) (by decide +kernel)
theorem km_L_71 : kM RL 71 yX4_done := tb_m 399 (by decide +kernel) (by decide +kernel)
theorem km_X4_159 : kM RX4 159 yX3_copy := tb_m 403 (by decide +kernel) (by decide +kernel)
theorem km_L_75 : kM RL 75 yX4_heavy := tb_m 404 (by decide +kernel) (by decide +kernel)
theorem km_X4_163 : kM RX4 163 yX4_has := tb_m 408 (by decide +kernel) (by decide +kernel)
theorem km_X4_167 : kM RX4 167 yX3_weightFor := tb_m 409 (by decide +kernel) (by decide +kernel)
theorem km_L_79 : kM RL 79 yX4_carries := tb_m 410 (by decide +kernel) (by decide +kernel)
theorem km_L_83 : kM RL 83 yX4_bent := tb_m 414 (by decide +kernel) (by decide +kernel)
theorem km_L_87 : kM RL 87 yX4_way := tb_m 418 (by decide +kernel) (by decide +kernel)
theorem km_X4_170 : kM RX4 170 yX3_bearing := tb_m 422 (by decide +kernel) (by decide +kernel)
theorem km_X4_173 : kM RX4 173 yX3_distance := tb_m 426 (by decide +kernel) (by decide +kernel)
theorem km_X3_112 : kM RX3 112 yX3_spread := tb_m 430 (by decide +kernel) (by decide +kernel)
theorem km_X4_177 : kM RX4 177 yX3_bridgeOfWay := tb_m 434 (by decide +kernel) (by decide +kernel)
theorem km_X3_122 : kM RX3 122 yX3_nextBridge := tb_m 438 (by decide +kernel) (by decide +kernel)
theorem km_X3_118 : kM RX3 118 yX3_distance := tb_m 442 (by decide +kernel) (by decide +kernel)
theorem km_L_91 : kM RL 91 yX4_left := tb_m 443 (by decide +kernel) (by decide +kernel)
theorem km_X4_181 : kM RX4 181 yX4_refuseTrip := tb_m 447 (by decide +kernel) (by decide +kernel)
theorem km_X4_184 : kM RX4 184 yX4_fewest := tb_m 451 (by decide +kernel) (by decide +kernel)
theorem km_X4_273 : kM RX4 273 yX3_sum := tb_m 455 (by decide +kernel) (by decide +kernel)
theorem km_X4_187 : kM RX4 187 yX4_countOrBits := tb_m 456 (by decide +kernel) (by decide +kernel)
theorem km_L_95 : kM RL 95 yX4_cried := tb_m 459 (by decide +kernel) (by decide +kernel)
theorem km_L_99 : kM RL 99 yX4_floated := tb_m 463 (by decide +kernel) (by decide +kernel)
theorem km_X4_190 : kM RX4 190 yX3_lies := tb_m 467 (by decide +kernel) (by decide +kernel)
theorem km_L_103 : kM RL 103 yX4_mended := tb_m 471 (by decide +kernel) (by decide +kernel)
theorem km_X4_193 : kM RX4 193 yX4_weakestBridge := tb_m 475 (by decide +kernel) (by decide +kernel)
theorem km_L_107 : kM RL 107 yX4_rumour := tb_m 479 (by decide +kernel) (by decide +kernel)
theorem km_X4_196 : kM RX4 196 yX3_hearers := tb_m 483 (by decide +kernel) (by decide +kernel)
theorem km_X3_115 : kM RX3 115 yX3_bearing := tb_m 487 (by decide +kernel) (by decide +kernel)
theorem km_X3_138 : kM RX3 138 yX3_neighbours := tb_m 488 (by decide +kernel) (by decide +kernel)
theorem km_X3_104 : kM RX3 104 yX3_knowersOf := tb_m 492 (by decide +kernel) (by decide +kernel)
theorem km_X4_199 : kM RX4 199 yX3_tellAll := tb_m 496 (by decide +kernel) (by decide +kernel)
theorem km_X4_203 : kM RX4 203 yX3_knowersOf := tb_m 500 (by decide +kernel) (by decide +kernel)
theorem km_L_111 : kM RL 111 yX4_errands := tb_m 501 (by decide +kernel) (by decide +kernel)
theorem km_X4_206 : kM RX4 206 yX1_readGoals := tb_m 505 (by decide +kernel) (by decide +kernel)
theorem km_X4_209 : kM RX4 209 yX4_findOrder := tb_m 511 (by decide +kernel) (by decide +kernel)
theorem km_X4_279 : kM RX4 279 yX3_hasWay := tb_m 514 (by decide +kernel) (by decide +kernel)
theorem km_X4_291 : kM RX4 291 yX3_arrive := tb_m 519 (by decide +kernel) (by decide +kernel)
theorem km_X3_141 : kM RX3 141 yX3_tellAll := tb_m 523 (by decide +kernel) (by decide +kernel)
theorem km_L_115 : kM RL 115 yX4_two := tb_m 524 (by decide +kernel) (by decide +kernel)
theorem km_X4_216 : kM RX4 216 yJ9_floorDiv_7cf53 := tb_m 528 (by decide +kernel) (by decide +kernel)
theorem km_X4_219 : kM RX4 219 yX4_arrivers := tb_m 531 (by decide +kernel) (by decide +kernel)
theorem km_L_119 : kM RL 119 yX4_fee := tb_m 535 (by decide +kernel) (by decide +kernel)
theorem km_X4_222 : kM RX4 222 yX4_feeOf := tb_m 539 (by decide +kernel) (by decide +kernel)
theorem km_L_123 : kM RL 123 yX4_fees := tb_m 543 (by decide +kernel) (by decide +kernel)
theorem km_L_127 : kM RL 127 yX4_seen := tb_m 547 (by decide +kernel) (by decide +kernel)
theorem km_L_131 : kM RL 131 yX4_forget := tb_m 551 (by decide +kernel) (by decide +kernel)
theorem km_L_135 : kM RL 135 yX4_who := tb_m 555 (by decide +kernel) (by decide +kernel)
theorem km_X4_234 : kM RX4 234 yX3_carriersOf := tb_m 559 (by decide +kernel) (by decide +kernel)
theorem km_L_139 : kM RL 139 yX4_fit := tb_m 563 (by decide +kernel) (by decide +kernel)
theorem km_X4_237 : kM RX4 237 yX3_likeSightsBefore := tb_m 567 (by decide +kernel) (by decide +kernel)
theorem km_L_143 : kM RL 143 yX4_chance := tb_m 571 (by decide +kernel) (by decide +kernel)
theorem kk_X4_240 : Cond.constantLong RX4 240 (-1000000000000000001) ∈ tb := tb_m 575 (by decide +kernel) (by decide +kernel)
theorem kk_X4_242 : Cond.constantLong RX4 242 (-1000000000000000002) ∈ tb := tb_m 576 (by decide +kernel) (by decide +kernel)
theorem km_X4_244 : kM RX4 244 yX4_power := tb_m 577 (by decide +kernel) (by decide +kernel)
theorem km_X4_248 : kM RX4 248 yX4_commonDivisor := tb_m 580 (by decide +kernel) (by decide +kernel)
theorem km_X4_252 : kM RX4 252 yJ9_max_f86c9 := tb_m 583 (by decide +kernel) (by decide +kernel)
theorem km_L_148 : kM RL 148 yX4_year := tb_m 586 (by decide +kernel) (by decide +kernel)
theorem kk_X4_254 : Cond.constant RX4 254 (65537) ∈ tb := tb_m 590 (by decide +kernel) (by decide +kernel)
theorem km_X4_255 : kM RX4 255 yX3_tellIfItCanBe := tb_m 591 (by decide +kernel) (by decide +kernel)
theorem km_X4_258 : kM RX4 258 yX3_passNight := tb_m 592 (by decide +kernel) (by decide +kernel)
theorem km_X4_261 : kM RX4 261 yX3_mostBurden := tb_m 593 (by decide +kernel) (by decide +kernel)
theorem km_X4_264 : kM RX4 264 yX3_mostKnowers := tb_m 597 (by decide +kernel) (by decide +kernel)
theorem km_X3_107 : kM RX3 107 yJ6_bitCount_0f7a4 := tb_m 601 (by decide +kernel) (by decide +kernel)
theorem km_L_152 : kM RL 152 yX4_image := tb_m 602 (by decide +kernel) (by decide +kernel)
theorem km_L_156 : kM RL 156 yX4_restore := tb_m 606 (by decide +kernel) (by decide +kernel)
theorem km_L_160 : kM RL 160 yX4_told := tb_m 610 (by decide +kernel) (by decide +kernel)
theorem km_X4_267 : kM RX4 267 yX4_tellPerson := tb_m 614 (by decide +kernel) (by decide +kernel)
theorem km_X4_270 : kM RX4 270 yX4_tellBridge := tb_m 618 (by decide +kernel) (by decide +kernel)
theorem km_L_12 : kM RL 12 yX5_init := tb_m 624 (by decide +kernel) (by decide +kernel)
theorem km_X5_99 : kM RX5 99 yX5_begin := tb_m 628 (by decide +kernel) (by decide +kernel)
theorem kf_X5_103 : kF RX5 103 RX5 TX5 0 := tb_m 632 (by decide +kernel) (by decide +kernel)
theorem kf_X5_106 : kF RX5 106 RX5 TX5 1 := tb_m 633 (by decide +kernel) (by decide +kernel)
theorem kf_X5_109 : kF RX5 109 RX5 TX5 2 := tb_m 634 (by decide +kernel) (by decide +kernel)
theorem kf_X5_112 : kF RX5 112 RX5 TX5 3 := tb_m 635 (by decide +kernel) (by decide +kernel)
theorem kf_X5_7 : kF RX5 7 RX5 TX5 4 := tb_m 636 (by decide +kernel) (by decide +kernel)
theorem kf_X5_13 : kF RX5 13 RX5 TX5 5 := tb_m 637 (by decide +kernel) (by decide +kernel)
theorem kf_X5_16 : kF RX5 16 RX5 TX5 6 := tb_m 638 (by decide +kernel) (by decide +kernel)
theorem kf_X5_19 : kF RX5 19 RX5 TX5 7 := tb_m 639 (by decide +kernel) (by decide +kernel)
theorem kf_X5_22 : kF RX5 22 RX5 TX5 8 := tb_m 640 (by decide +kernel) (by decide +kernel)
theorem kf_X5_25 : kF RX5 25 RX5 TX5 9 := tb_m 641 (by decide +kernel) (by decide +kernel)
theorem kf_X5_28 : kF RX5 28 RX5 TX5 10 := tb_m 642 (by decide +kernel) (by decide +kernel)
theorem kf_X5_31 : kF RX5 31 RX5 TX5 11 := tb_m 643 (by decide +kernel) (by decide +kernel)
theorem kf_X5_34 : kF RX5 34 RX5 TX5 12 := tb_m 644 (by decide +kernel) (by decide +kernel)
theorem kf_X5_95 : kF RX5 95 RX5 TX5 13 := tb_m 645 (by decide +kernel) (by decide +kernel)
theorem kf_X5_37 : kF RX5 37 RX5 TX5 14 := tb_m 646 (by decide +kernel) (by decide +kernel)
theorem kf_X5_40 : kF RX5 40 RX5 TX5 15 := tb_m 647 (by decide +kernel) (by decide +kernel)
theorem kf_X5_115 : kF RX5 115 RX5 TX5 16 := tb_m 648 (by decide +kernel) (by decide +kernel)
theorem kf_X5_43 : kF RX5 43 RX5 TX5 17 := tb_m 649 (by decide +kernel) (by decide +kernel)
theorem kf_X5_159 : kF RX5 159 RX5 TX5 18 := tb_m 650 (by decide +kernel) (by decide +kernel)
theorem kf_X5_46 : kF RX5 46 RX5 TX5 19 := tb_m 651 (by decide +kernel) (by decide +kernel)
theorem kf_X5_49 : kF RX5 49 RX5 TX5 20 := tb_m 652 (by decide +kernel) (by decide +kernel)
theorem kf_X5_52 : kF RX5 52 RX5 TX5 21 := tb_m 653 (by decide +kernel) (by decide +kernel)
theorem kf_X5_55 : kF RX5 55 RX5 TX5 22 := tb_m 654 (by decide +kernel) (by decide +kernel)
theorem kf_X5_170 : kF RX5 170 RX5 TX5 23 := tb_m 655 (by decide +kernel) (by decide +kernel)
theorem kf_X5_173 : kF RX5 173 RX5 TX5 24 := tb_m 656 (by decide +kernel) (by decide +kernel)
theorem kf_X5_233 : kF RX5 233 RX5 TX5 25 := tb_m 657 (by decide +kernel) (by decide +kernel)
theorem kf_X5_236 : kF RX5 236 RX5 TX5 26 := tb_m 658 (by decide +kernel) (by decide +kernel)
theorem kf_X5_209 : kF RX5 209 RX5 TX5 27 := tb_m 659 (by decide +kernel) (by decide +kernel)
theorem kf_X5_212 : kF RX5 212 RX5 TX5 28 := tb_m 660 (by decide +kernel) (by decide +kernel)
theorem kf_X5_227 : kF RX5 227 RX5 TX5 29 := tb_m 661 (by decide +kernel) (by decide +kernel)
theorem kf_X5_58 : kF RX5 58 RX5 TX5 30 := tb_m 662 (by decide +kernel) (by decide +kernel)
theorem kf_X5_61 : kF RX5 61 RX5 TX5 31 := tb_m 663 (by decide +kernel) (by decide +kernel)
theorem kf_X5_64 : kF RX5 64 RX5 TX5 32 := tb_m 664 (by decide +kernel) (by decide +kernel)
theorem kf_X5_67 : kF RX5 67 RX5 TX5 33 := tb_m 665 (by decide +kernel) (by decide +kernel)
theorem kf_X5_230 : kF RX5 230 RX5 TX5 34 := tb_m 666 (by decide +kernel) (by decide +kernel)
theorem kf_X5_70 : kF RX5 70 RX5 TX5 35 := tb_m 667 (by decide +kernel) (by decide +kernel)
theorem kf_X5_275 : kF RX5 275 RX5 TX5 36 := tb_m 668 (by decide +kernel) (by decide +kernel)
theorem kf_X5_73 : kF RX5 73 RX5 TX5 37 := tb_m 669 (by decide +kernel) (by decide +kernel)
theorem kf_X5_76 : kF RX5 76 RX5 TX5 38 := tb_m 670 (by decide +kernel) (by decide +kernel)
theorem kf_X5_304 : kF RX5 304 RX5 TX5 39 := tb_m 671 (by decide +kernel) (by decide +kernel)
theorem kf_X5_79 : kF RX5 79 RX5 TX5 40 := tb_m 672 (by decide +kernel) (by decide +kernel)
theorem kf_X5_82 : kF RX5 82 RX5 TX5 41 := tb_m 673 (by decide +kernel) (by decide +kernel)
theorem kf_X5_85 : kF RX5 85 RX5 TX5 42 := tb_m 674 (by decide +kernel) (by decide +kernel)
theorem kf_X5_88 : kF RX5 88 RX5 TX5 43 := tb_m 675 (by decide +kernel) (by decide +kernel)
theorem kf_X5_91 : kF RX5 91 RX5 TX5 44 := tb_m 676 (by decide +kernel) (by decide +kernel)
theorem kf_X5_364 : kF RX5 364 RX5 TX5 45 := tb_m 677 (by decide +kernel) (by decide +kernel)
theorem kf_X5_360 : kF RX5 360 RX5 TX5 46 := tb_m 678 (by decide +kernel) (by decide +kernel)
theorem km_L_17 : kM RL 17 yX5_terraces := tb_m 775 (by decide +kernel) (by decide +kernel)
theorem kk_X5_126 : Cond.constantLong RX5 126 (2) ∈ tb := tb_m 779 (by decide +kernel) (by decide +kernel)
theorem kk_X5_128 : Cond.constantLong RX5 128 (6) ∈ tb := tb_m 780 (by decide +kernel) (by decide +kernel)
theorem km_X5_118 : kM RX5 118 yX5_in := tb_m 781 (by decide +kernel) (by decide +kernel)
theorem km_L_22 : kM RL 22 yX5_bridge := tb_m 784 (by decide +kernel) (by decide +kernel)
theorem kk_X5_122 : Cond.constantLong RX5 122 (7) ∈ tb := tb_m 788 (by decide +kernel) (by decide +kernel)
theorem km_X5_130 : kM RX5 130 yX5_isTerrace := tb_m 789 (by decide +kernel) (by decide +kernel)
theorem kk_X5_134 : Cond.constantLong RX5 134 (99) ∈ tb := tb_m 793 (by decide +kernel) (by decide +kernel)
theorem km_X5_136 : kM RX5 136 yX5_ones := tb_m 794 (by decide +kernel) (by decide +kernel)
theorem km_L_26 : kM RL 26 yX5_fall := tb_m 797 (by decide +kernel) (by decide +kernel)
theorem km_X5_140 : kM RX5 140 yX5_isBridge := tb_m 801 (by decide +kernel) (by decide +kernel)
theorem km_L_31 : kM RL 31 yX5_person := tb_m 805 (by decide +kernel) (by decide +kernel)
theorem kk_X5_124 : Cond.constantLong RX5 124 (5) ∈ tb := tb_m 809 (by decide +kernel) (by decide +kernel)
theorem km_L_35 : kM RL 35 yX5_leave := tb_m 810 (by decide +kernel) (by decide +kernel)
theorem km_X5_143 : kM RX5 143 yX5_isThere := tb_m 814 (by decide +kernel) (by decide +kernel)
theorem km_L_39 : kM RL 39 yX5_news := tb_m 818 (by decide +kernel) (by decide +kernel)
theorem km_X5_146 : kM RX5 146 yX5_isNews := tb_m 822 (by decide +kernel) (by decide +kernel)
theorem kk_X5_149 : Cond.constantLong RX5 149 (-20) ∈ tb := tb_m 825 (by decide +kernel) (by decide +kernel)
theorem kk_X5_151 : Cond.constantLong RX5 151 (3) ∈ tb := tb_m 826 (by decide +kernel) (by decide +kernel)
theorem km_L_44 : kM RL 44 yX5_learn := tb_m 827 (by decide +kernel) (by decide +kernel)
theorem km_L_48 : kM RL 48 yX5_fade := tb_m 831 (by decide +kernel) (by decide +kernel)
theorem kk_X5_153 : Cond.constantLong RX5 153 (9) ∈ tb := tb_m 835 (by decide +kernel) (by decide +kernel)
theorem km_L_52 : kM RL 52 yX5_say := tb_m 836 (by decide +kernel) (by decide +kernel)
theorem kk_X5_155 : Cond.constantLong RX5 155 (33) ∈ tb := tb_m 840 (by decide +kernel) (by decide +kernel)
theorem kk_X5_157 : Cond.constantLong RX5 157 (126) ∈ tb := tb_m 841 (by decide +kernel) (by decide +kernel)
theorem km_L_57 : kM RL 57 yX5_wipe := tb_m 842 (by decide +kernel) (by decide +kernel)
theorem km_L_61 : kM RL 61 yX5_fault := tb_m 846 (by decide +kernel) (by decide +kernel)
theorem km_X5_186 : kM RX5 186 yX5_readFirst := tb_m 850 (by decide +kernel) (by decide +kernel)
theorem km_X5_176 : kM RX5 176 yX5_isName := tb_m 854 (by decide +kernel) (by decide +kernel)
theorem kk_X5_162 : Cond.constantLong RX5 162 (65) ∈ tb := tb_m 857 (by decide +kernel) (by decide +kernel)
theorem kk_X5_164 : Cond.constantLong RX5 164 (70) ∈ tb := tb_m 858 (by decide +kernel) (by decide +kernel)
theorem km_X5_189 : kM RX5 189 yX5_readSecond := tb_m 859 (by decide +kernel) (by decide +kernel)
theorem kk_X5_179 : Cond.constantLong RX5 179 (48) ∈ tb := tb_m 863 (by decide +kernel) (by decide +kernel)
theorem kk_X5_181 : Cond.constantLong RX5 181 (55) ∈ tb := tb_m 864 (by decide +kernel) (by decide +kernel)
theorem km_X5_192 : kM RX5 192 yX5_readNews := tb_m 865 (by decide +kernel) (by decide +kernel)
theorem km_X5_183 : kM RX5 183 yX5_isLetter := tb_m 869 (by decide +kernel) (by decide +kernel)
theorem kk_X5_166 : Cond.constantLong RX5 166 (97) ∈ tb := tb_m 872 (by decide +kernel) (by decide +kernel)
theorem kk_X5_168 : Cond.constantLong RX5 168 (104) ∈ tb := tb_m 873 (by decide +kernel) (by decide +kernel)
theorem km_L_78 : kM RL 78 yX5_heavy := tb_m 874 (by decide +kernel) (by decide +kernel)
theorem km_X5_195 : kM RX5 195 yX5_knowers := tb_m 878 (by decide +kernel) (by decide +kernel)
theorem km_X5_198 : kM RX5 198 yX5_heavyBy := tb_m 882 (by decide +kernel) (by decide +kernel)
theorem km_L_82 : kM RL 82 yX5_carries := tb_m 886 (by decide +kernel) (by decide +kernel)
theorem km_X5_206 : kM RX5 206 yX5_carriedBy := tb_m 890 (by decide +kernel) (by decide +kernel)
theorem km_X5_202 : kM RX5 202 yX5_sumOf := tb_m 894 (by decide +kernel) (by decide +kernel)
theorem km_L_86 : kM RL 86 yX5_bent := tb_m 898 (by decide +kernel) (by decide +kernel)
theorem km_L_65 : kM RL 65 yX5_judge := tb_m 902 (by decide +kernel) (by decide +kernel)
theorem kk_X5_242 : Cond.constantLong RX5 242 (4) ∈ tb := tb_m 906 (by decide +kernel) (by decide +kernel)
theorem km_X5_244 : kM RX5 244 yX5_fault := tb_m 907 (by decide +kernel) (by decide +kernel)
theorem km_X5_248 : kM RX5 248 yX5_keepNow := tb_m 908 (by decide +kernel) (by decide +kernel)
theorem km_X5_251 : kM RX5 251 yX5_goDay := tb_m 912 (by decide +kernel) (by decide +kernel)
theorem km_X5_239 : kM RX5 239 yX5_happen := tb_m 916 (by decide +kernel) (by decide +kernel)
theorem km_X5_215 : kM RX5 215 yX5_tell := tb_m 920 (by decide +kernel) (by decide +kernel)
theorem km_X5_218 : kM RX5 218 yX5_cross := tb_m 924 (by decide +kernel) (by decide +kernel)
theorem km_X5_221 : kM RX5 221 yX5_publish := tb_m 928 (by decide +kernel) (by decide +kernel)
theorem km_X5_224 : kM RX5 224 yX5_passNight := tb_m 932 (by decide +kernel) (by decide +kernel)
theorem km_X5_254 : kM RX5 254 yX5_putBack := tb_m 936 (by decide +kernel) (by decide +kernel)
theorem km_L_70 : kM RL 70 yX5_behind := tb_m 940 (by decide +kernel) (by decide +kernel)
theorem km_L_74 : kM RL 74 yX5_done := tb_m 944 (by decide +kernel) (by decide +kernel)
theorem km_L_90 : kM RL 90 yX5_way := tb_m 948 (by decide +kernel) (by decide +kernel)
theorem km_X5_267 : kM RX5 267 yX5_isAsked := tb_m 952 (by decide +kernel) (by decide +kernel)
theorem km_X5_257 : kM RX5 257 yX5_bearing := tb_m 956 (by decide +kernel) (by decide +kernel)
theorem km_X5_260 : kM RX5 260 yX5_findFar := tb_m 960 (by decide +kernel) (by decide +kernel)
theorem km_X5_271 : kM RX5 271 yX5_leadsOn := tb_m 964 (by decide +kernel) (by decide +kernel)
theorem km_L_94 : kM RL 94 yX5_left := tb_m 968 (by decide +kernel) (by decide +kernel)
theorem km_X5_278 : kM RX5 278 yX5_least0 := tb_m 972 (by decide +kernel) (by decide +kernel)
theorem km_X5_281 : kM RX5 281 yX5_hasWay := tb_m 975 (by decide +kernel) (by decide +kernel)
theorem km_X5_264 : kM RX5 264 yX5_farBy := tb_m 979 (by decide +kernel) (by decide +kernel)
theorem km_X5_284 : kM RX5 284 yX5_offerSet := tb_m 983 (by decide +kernel) (by decide +kernel)
theorem km_X5_288 : kM RX5 288 yX5_tellSet := tb_m 987 (by decide +kernel) (by decide +kernel)
theorem km_L_98 : kM RL 98 yX5_cried := tb_m 991 (by decide +kernel) (by decide +kernel)
theorem km_L_102 : kM RL 102 yX5_floated := tb_m 995 (by decide +kernel) (by decide +kernel)
theorem km_X5_291 : kM RX5 291 yX5_lies := tb_m 999 (by decide +kernel) (by decide +kernel)
theorem km_X5_294 : kM RX5 294 yX5_floatedBy := tb_m 1003 (by decide +kernel) (by decide +kernel)
theorem km_L_106 : kM RL 106 yX5_mended := tb_m 1007 (by decide +kernel) (by decide +kernel)
theorem kk_X5_297 : Cond.constant RX5 297 (1000000) ∈ tb := tb_m 1011 (by decide +kernel) (by decide +kernel)
theorem km_L_110 : kM RL 110 yX5_rumour := tb_m 1012 (by decide +kernel) (by decide +kernel)
theorem km_X5_298 : kM RX5 298 yX5_knowersOf := tb_m 1016 (by decide +kernel) (by decide +kernel)
theorem km_X5_301 : kM RX5 301 yX5_reachedBy := tb_m 1020 (by decide +kernel) (by decide +kernel)
theorem km_L_114 : kM RL 114 yX5_errands := tb_m 1024 (by decide +kernel) (by decide +kernel)
theorem kk_X5_313 : Cond.constantLong RX5 313 (63) ∈ tb := tb_m 1028 (by decide +kernel) (by decide +kernel)
theorem km_X5_315 : kM RX5 315 yX5_layErrands := tb_m 1029 (by decide +kernel) (by decide +kernel)
theorem km_X5_307 : kM RX5 307 yX5_tens := tb_m 1033 (by decide +kernel) (by decide +kernel)
theorem km_X5_318 : kM RX5 318 yX5_layRow := tb_m 1036 (by decide +kernel) (by decide +kernel)
theorem km_X5_321 : kM RX5 321 yX5_canAll := tb_m 1040 (by decide +kernel) (by decide +kernel)
theorem km_X5_310 : kM RX5 310 yX5_goesErrand := tb_m 1044 (by decide +kernel) (by decide +kernel)
theorem km_L_118 : kM RL 118 yX5_two := tb_m 1048 (by decide +kernel) (by decide +kernel)
theorem km_X5_325 : kM RX5 325 yX5_half := tb_m 1052 (by decide +kernel) (by decide +kernel)
theorem km_X5_328 : kM RX5 328 yX5_canBear := tb_m 1055 (by decide +kernel) (by decide +kernel)
theorem km_L_122 : kM RL 122 yX5_fee := tb_m 1059 (by decide +kernel) (by decide +kernel)
theorem km_X5_331 : kM RX5 331 yX5_feeOf := tb_m 1063 (by decide +kernel) (by decide +kernel)
theorem km_L_126 : kM RL 126 yX5_fees := tb_m 1067 (by decide +kernel) (by decide +kernel)
theorem km_L_130 : kM RL 130 yX5_seen := tb_m 1071 (by decide +kernel) (by decide +kernel)
theorem kk_X5_334 : Cond.constantLong RX5 334 (999) ∈ tb := tb_m 1075 (by decide +kernel) (by decide +kernel)
theorem km_L_134 : kM RL 134 yX5_forget := tb_m 1076 (by decide +kernel) (by decide +kernel)
theorem km_L_138 : kM RL 138 yX5_who := tb_m 1080 (by decide +kernel) (by decide +kernel)
theorem km_X5_336 : kM RX5 336 yX5_whoBent := tb_m 1084 (by decide +kernel) (by decide +kernel)
theorem km_L_142 : kM RL 142 yX5_fit := tb_m 1088 (by decide +kernel) (by decide +kernel)
theorem km_X5_339 : kM RX5 339 yX5_fits := tb_m 1092 (by decide +kernel) (by decide +kernel)
theorem km_L_147 : kM RL 147 yX5_chance := tb_m 1096 (by decide +kernel) (by decide +kernel)
theorem kk_X5_342 : Cond.constantLong RX5 342 (-1000000000000000001) ∈ tb := tb_m 1100 (by decide +kernel) (by decide +kernel)
theorem kk_X5_344 : Cond.constantLong RX5 344 (10) ∈ tb := tb_m 1101 (by decide +kernel) (by decide +kernel)
theorem kk_X5_346 : Cond.constantLong RX5 346 (-1000000000000000002) ∈ tb := tb_m 1102 (by decide +kernel) (by decide +kernel)
theorem km_X5_348 : kM RX5 348 yX5_lowest := tb_m 1103 (by decide +kernel) (by decide +kernel)
theorem km_L_151 : kM RL 151 yX5_year := tb_m 1106 (by decide +kernel) (by decide +kernel)
theorem kk_X5_352 : Cond.constantLong RX5 352 (9999) ∈ tb := tb_m 1110 (by decide +kernel) (by decide +kernel)
theorem kk_X5_354 : Cond.constantLong RX5 354 (75) ∈ tb := tb_m 1111 (by decide +kernel) (by decide +kernel)
theorem kk_X5_356 : Cond.constantLong RX5 356 (74) ∈ tb := tb_m 1112 (by decide +kernel) (by decide +kernel)
theorem kk_X5_358 : Cond.constantLong RX5 358 (65537) ∈ tb := tb_m 1113 (by decide +kernel) (by decide +kernel)
theorem km_L_155 : kM RL 155 yX5_image := tb_m 1114 (by decide +kernel) (by decide +kernel)
theorem km_X5_370 : kM RX5 370 yX5_passAll := tb_m 1118 (by decide +kernel) (by decide +kernel)
theorem km_X5_367 : kM RX5 367 yX5_pass := tb_m 1122 (by decide +kernel) (by decide +kernel)
theorem km_L_159 : kM RL 159 yX5_restore := tb_m 1126 (by decide +kernel) (by decide +kernel)
theorem km_L_163 : kM RL 163 yX5_told := tb_m 1130 (by decide +kernel) (by decide +kernel)
theorem kk_X5_373 : Cond.constantLong RX5 373 (1000) ∈ tb := tb_m 1134 (by decide +kernel) (by decide +kernel)
theorem kk_X5_375 : Cond.constantLong RX5 375 (6999) ∈ tb := tb_m 1135 (by decide +kernel) (by decide +kernel)
theorem km_X5_377 : kM RX5 377 yX5_toldOfPerson := tb_m 1136 (by decide +kernel) (by decide +kernel)
theorem kk_X5_380 : Cond.constantLong RX5 380 (100) ∈ tb := tb_m 1140 (by decide +kernel) (by decide +kernel)
theorem kk_X5_382 : Cond.constantLong RX5 382 (899) ∈ tb := tb_m 1141 (by decide +kernel) (by decide +kernel)
theorem km_X5_384 : kM RX5 384 yX5_toldOfBridge := tb_m 1142 (by decide +kernel) (by decide +kernel)
theorem kk_X5_387 : Cond.constantLong RX5 387 (17) ∈ tb := tb_m 1146 (by decide +kernel) (by decide +kernel)
theorem kk_X5_389 : Cond.constantLong RX5 389 (20) ∈ tb := tb_m 1147 (by decide +kernel) (by decide +kernel)
theorem kk_X5_391 : Cond.constantLong RX5 391 (27) ∈ tb := tb_m 1148 (by decide +kernel) (by decide +kernel)
theorem ky_X0_init : kY yX0_init cX0_init 1 none 0 := ⟨tb_m 174 (by decide +kernel) (by decide +kernel), tb_m 56 (by decide +kernel) (by decide +kernel), by decide +kernel, by decide +kernel⟩
theorem kn_X0_init : kN yX0_init := ⟨tb_m 173 (by decide +kernel) (by decide +kernel), rfl⟩
theorem ky_X0_live : kY yX0_live cX0_live 6 none 3 := ⟨tb_m 340 (by decide +kernel) (by decide +kernel), tb_m 56 (by decide +kernel) (by decide +kernel), by decide +kernel, by decide +kernel⟩
theorem ki_X0_live : kI yX0_live := ⟨tb_m 338 (by decide +kernel) (by decide +kernel), tb_m 339 (by decide +kernel) (by decide +kernel)⟩
theorem ky_X0_takeStep : kY yX0_takeStep cX0_takeStep 6 (some .int) 3 := ⟨tb_m 352 (by decide +kernel) (by decide +kernel), tb_m 56 (by decide +kernel) (by decide +kernel), by decide +kernel, by decide +kernel⟩
theorem ki_X0_takeStep : kI yX0_takeStep := ⟨tb_m 351 (by decide +kernel) (by decide +kernel), tb_m 0 (by decide +kernel) (by decide +kernel)⟩
theorem ky_X1_init : kY yX1_init cX1_init 1 none 0 := ⟨tb_m 205 (by decide +kernel) (by decide +kernel), tb_m 57 (by decide +kernel) (by decide +kernel), by decide +kernel, by decide +kernel⟩
theorem kn_X1_init : kN yX1_init := ⟨tb_m 204 (by decide +kernel) (by decide +kernel), rfl⟩
theorem ky_X1_readGoals : kY yX1_readGoals cX1_readGoals 6 (some .boolean) 3 := ⟨tb_m 508 (by decide +kernel) (by decide +kernel), tb_m 57 (by decide +kernel) (by decide +kernel), by decide +kernel, by decide +kernel⟩
theorem ki_X1_readGoals : kI yX1_readGoals := ⟨tb_m 506 (by decide +kernel) (by decide +kernel), tb_m 507 (by decide +kernel) (by decide +kernel)⟩
theorem ky_X2_init : kY yX2_init cX2_init 1 none 0 := ⟨tb_m 158 (by decide +kernel) (by decide +kernel), tb_m 55 (by decide +kernel) (by decide +kernel), by decide +kernel, by decide +kernel⟩
theorem kn_X2_init : kN yX2_init := ⟨tb_m 157 (by decide +kernel) (by decide +kernel), rfl⟩
theorem ky_X2_signAt : kY yX2_signAt cX2_signAt 2 (some .int) 1 := ⟨tb_m 325 (by decide +kernel) (by decide +kernel), tb_m 55 (by decide +kernel) (by decide +kernel), by decide +kernel, by decide +kernel⟩
theorem ki_X2_signAt : kI yX2_signAt := ⟨tb_m 323 (by decide +kernel) (by decide +kernel), tb_m 324 (by decide +kernel) (by decide +kernel)⟩
theorem ky_X2_faultPlace : kY yX2_faultPlace cX2_faultPlace 3 (some .int) 0 := ⟨tb_m 321 (by decide +kernel) (by decide +kernel), tb_m 55 (by decide +kernel) (by decide +kernel), by decide +kernel, by decide +kernel⟩
theorem ki_X2_faultPlace : kI yX2_faultPlace := ⟨tb_m 319 (by decide +kernel) (by decide +kernel), tb_m 320 (by decide +kernel) (by decide +kernel)⟩
theorem ky_X2_readOn : kY yX2_readOn cX2_readOn 2 (some .int) 2 := ⟨tb_m 329 (by decide +kernel) (by decide +kernel), tb_m 55 (by decide +kernel) (by decide +kernel), by decide +kernel, by decide +kernel⟩
theorem ks_X2_readOn : kS yX2_readOn := tb_m 328 (by decide +kernel) (by decide +kernel)
theorem ky_X2_isPersonSign : kY yX2_isPersonSign cX2_isPersonSign 1 (some .boolean) 1 := ⟨tb_m 332 (by decide +kernel) (by decide +kernel), tb_m 55 (by decide +kernel) (by decide +kernel), by decide +kernel, by decide +kernel⟩
theorem ks_X2_isPersonSign : kS yX2_isPersonSign := tb_m 331 (by decide +kernel) (by decide +kernel)
theorem ky_X3_init : kY yX3_init cX3_init 1 none 0 := ⟨tb_m 74 (by decide +kernel) (by decide +kernel), tb_m 53 (by decide +kernel) (by decide +kernel), by decide +kernel, by decide +kernel⟩
theorem kn_X3_init : kN yX3_init := ⟨tb_m 73 (by decide +kernel) (by decide +kernel), rfl⟩
theorem ky_X3_settle : kY yX3_settle cX3_settle 2 none 1 := ⟨tb_m 79 (by decide +kernel) (by decide +kernel), tb_m 53 (by decide +kernel) (by decide +kernel), by decide +kernel, by decide +kernel⟩
theorem ki_X3_settle : kI yX3_settle := ⟨tb_m 77 (by decide +kernel) (by decide +kernel), tb_m 78 (by decide +kernel) (by decide +kernel)⟩
theorem ky_X3_copy : kY yX3_copy cX3_copy 2 none 1 := ⟨tb_m 345 (by decide +kernel) (by decide +kernel), tb_m 53 (by decide +kernel) (by decide +kernel), by decide +kernel, by decide +kernel⟩
theorem ki_X3_copy : kI yX3_copy := ⟨tb_m 343 (by decide +kernel) (by decide +kernel), tb_m 344 (by decide +kernel) (by decide +kernel)⟩
theorem ky_X3_hasTerrace : kY yX3_hasTerrace cX3_hasTerrace 2 (some .boolean) 1 := ⟨tb_m 254 (by decide +kernel) (by decide +kernel), tb_m 53 (by decide +kernel) (by decide +kernel), by decide +kernel, by decide +kernel⟩
theorem ki_X3_hasTerrace : kI yX3_hasTerrace := ⟨tb_m 252 (by decide +kernel) (by decide +kernel), tb_m 253 (by decide +kernel) (by decide +kernel)⟩
theorem ky_X3_hasBridge : kY yX3_hasBridge cX3_hasBridge 2 (some .boolean) 1 := ⟨tb_m 275 (by decide +kernel) (by decide +kernel), tb_m 53 (by decide +kernel) (by decide +kernel), by decide +kernel, by decide +kernel⟩
theorem ki_X3_hasBridge : kI yX3_hasBridge := ⟨tb_m 273 (by decide +kernel) (by decide +kernel), tb_m 274 (by decide +kernel) (by decide +kernel)⟩
theorem ky_X3_hasPerson : kY yX3_hasPerson cX3_hasPerson 2 (some .boolean) 1 := ⟨tb_m 290 (by decide +kernel) (by decide +kernel), tb_m 53 (by decide +kernel) (by decide +kernel), by decide +kernel, by decide +kernel⟩
theorem ki_X3_hasPerson : kI yX3_hasPerson := ⟨tb_m 288 (by decide +kernel) (by decide +kernel), tb_m 289 (by decide +kernel) (by decide +kernel)⟩
theorem ky_X3_knowersOf : kY yX3_knowersOf cX3_knowersOf 4 (some .int) 1 := ⟨tb_m 495 (by decide +kernel) (by decide +kernel), tb_m 53 (by decide +kernel) (by decide +kernel), by decide +kernel, by decide +kernel⟩
theorem ki_X3_knowersOf : kI yX3_knowersOf := ⟨tb_m 493 (by decide +kernel) (by decide +kernel), tb_m 494 (by decide +kernel) (by decide +kernel)⟩
theorem ky_X3_weightFor : kY yX3_weightFor cX3_weightFor 6 (some .int) 2 := ⟨tb_m 389 (by decide +kernel) (by decide +kernel), tb_m 53 (by decide +kernel) (by decide +kernel), by decide +kernel, by decide +kernel⟩
theorem ki_X3_weightFor : kI yX3_weightFor := ⟨tb_m 387 (by decide +kernel) (by decide +kernel), tb_m 388 (by decide +kernel) (by decide +kernel)⟩
theorem ky_X3_sum : kY yX3_sum cX3_sum 5 (some .int) 2 := ⟨tb_m 385 (by decide +kernel) (by decide +kernel), tb_m 53 (by decide +kernel) (by decide +kernel), by decide +kernel, by decide +kernel⟩
theorem ki_X3_sum : kI yX3_sum := ⟨tb_m 383 (by decide +kernel) (by decide +kernel), tb_m 384 (by decide +kernel) (by decide +kernel)⟩
theorem ky_X3_burden : kY yX3_burden cX3_burden 2 (some .int) 1 := ⟨tb_m 381 (by decide +kernel) (by decide +kernel), tb_m 53 (by decide +kernel) (by decide +kernel), by decide +kernel, by decide +kernel⟩
theorem ki_X3_burden : kI yX3_burden := ⟨tb_m 379 (by decide +kernel) (by decide +kernel), tb_m 380 (by decide +kernel) (by decide +kernel)⟩
theorem ky_X3_mostBurden : kY yX3_mostBurden cX3_mostBurden 3 (some .int) 0 := ⟨tb_m 596 (by decide +kernel) (by decide +kernel), tb_m 53 (by decide +kernel) (by decide +kernel), by decide +kernel, by decide +kernel⟩
theorem ki_X3_mostBurden : kI yX3_mostBurden := ⟨tb_m 594 (by decide +kernel) (by decide +kernel), tb_m 595 (by decide +kernel) (by decide +kernel)⟩
theorem ky_X3_mostKnowers : kY yX3_mostKnowers cX3_mostKnowers 3 (some .int) 0 := ⟨tb_m 600 (by decide +kernel) (by decide +kernel), tb_m 53 (by decide +kernel) (by decide +kernel), by decide +kernel, by decide +kernel⟩
theorem ki_X3_mostKnowers : kI yX3_mostKnowers := ⟨tb_m 598 (by decide +kernel) (by decide +kernel), tb_m 599 (by decide +kernel) (by decide +kernel)⟩
theorem ky_X3_lies : kY yX3_lies cX3_lies 3 (some .int) 0 := ⟨tb_m 470 (by decide +kernel) (by decide +kernel), tb_m 53 (by decide +kernel) (by decide +kernel), by decide +kernel, by decide +kernel⟩
theorem ki_X3_lies : kI yX3_lies := ⟨tb_m 468 (by decide +kernel) (by decide +kernel), tb_m 469 (by decide +kernel) (by decide +kernel)⟩
theorem ky_X3_carriersOf : kY yX3_carriersOf cX3_carriersOf 4 (some .int) 1 := ⟨tb_m 562 (by decide +kernel) (by decide +kernel), tb_m 53 (by decide +kernel) (by decide +kernel), by decide +kernel, by decide +kernel⟩
theorem ki_X3_carriersOf : kI yX3_carriersOf := ⟨tb_m 560 (by decide +kernel) (by decide +kernel), tb_m 561 (by decide +kernel) (by decide +kernel)⟩
theorem ky_X3_likeSightsBefore : kY yX3_likeSightsBefore cX3_likeSightsBefore 4 (some .int) 1 := ⟨tb_m 570 (by decide +kernel) (by decide +kernel), tb_m 53 (by decide +kernel) (by decide +kernel), by decide +kernel, by decide +kernel⟩
theorem ki_X3_likeSightsBefore : kI yX3_likeSightsBefore := ⟨tb_m 568 (by decide +kernel) (by decide +kernel), tb_m 569 (by decide +kernel) (by decide +kernel)⟩
theorem ky_X3_bearing : kY yX3_bearing cX3_bearing 4 (some .int) 1 := ⟨tb_m 425 (by decide +kernel) (by decide +kernel), tb_m 53 (by decide +kernel) (by decide +kernel), by decide +kernel, by decide +kernel⟩
theorem ki_X3_bearing : kI yX3_bearing := ⟨tb_m 423 (by decide +kernel) (by decide +kernel), tb_m 424 (by decide +kernel) (by decide +kernel)⟩
theorem ky_X3_spread : kY yX3_spread cX3_spread 5 (some .int) 2 := ⟨tb_m 433 (by decide +kernel) (by decide +kernel), tb_m 53 (by decide +kernel) (by decide +kernel), by decide +kernel, by decide +kernel⟩
theorem ki_X3_spread : kI yX3_spread := ⟨tb_m 431 (by decide +kernel) (by decide +kernel), tb_m 432 (by decide +kernel) (by decide +kernel)⟩
theorem ky_X3_distance : kY yX3_distance cX3_distance 7 (some .int) 3 := ⟨tb_m 429 (by decide +kernel) (by decide +kernel), tb_m 53 (by decide +kernel) (by decide +kernel), by decide +kernel, by decide +kernel⟩
theorem ki_X3_distance : kI yX3_distance := ⟨tb_m 427 (by decide +kernel) (by decide +kernel), tb_m 428 (by decide +kernel) (by decide +kernel)⟩
theorem ky_X3_hasWay : kY yX3_hasWay cX3_hasWay 3 (some .boolean) 2 := ⟨tb_m 517 (by decide +kernel) (by decide +kernel), tb_m 53 (by decide +kernel) (by decide +kernel), by decide +kernel, by decide +kernel⟩
theorem ki_X3_hasWay : kI yX3_hasWay := ⟨tb_m 515 (by decide +kernel) (by decide +kernel), tb_m 516 (by decide +kernel) (by decide +kernel)⟩
theorem ky_X3_otherEnd : kY yX3_otherEnd cX3_otherEnd 3 (some .int) 2 := ⟨tb_m 393 (by decide +kernel) (by decide +kernel), tb_m 53 (by decide +kernel) (by decide +kernel), by decide +kernel, by decide +kernel⟩
theorem ki_X3_otherEnd : kI yX3_otherEnd := ⟨tb_m 391 (by decide +kernel) (by decide +kernel), tb_m 392 (by decide +kernel) (by decide +kernel)⟩
theorem ky_X3_isAtEnd : kY yX3_isAtEnd cX3_isAtEnd 3 (some .boolean) 2 := ⟨tb_m 377 (by decide +kernel) (by decide +kernel), tb_m 53 (by decide +kernel) (by decide +kernel), by decide +kernel, by decide +kernel⟩
theorem ki_X3_isAtEnd : kI yX3_isAtEnd := ⟨tb_m 375 (by decide +kernel) (by decide +kernel), tb_m 376 (by decide +kernel) (by decide +kernel)⟩
theorem ky_X3_bridgeOfWay : kY yX3_bridgeOfWay cX3_bridgeOfWay 8 (some .int) 4 := ⟨tb_m 437 (by decide +kernel) (by decide +kernel), tb_m 53 (by decide +kernel) (by decide +kernel), by decide +kernel, by decide +kernel⟩
theorem ki_X3_bridgeOfWay : kI yX3_bridgeOfWay := ⟨tb_m 435 (by decide +kernel) (by decide +kernel), tb_m 436 (by decide +kernel) (by decide +kernel)⟩
theorem ky_X3_nextBridge : kY yX3_nextBridge cX3_nextBridge 6 (some .int) 3 := ⟨tb_m 441 (by decide +kernel) (by decide +kernel), tb_m 53 (by decide +kernel) (by decide +kernel), by decide +kernel, by decide +kernel⟩
theorem ki_X3_nextBridge : kI yX3_nextBridge := ⟨tb_m 439 (by decide +kernel) (by decide +kernel), tb_m 440 (by decide +kernel) (by decide +kernel)⟩
theorem ky_X3_tellIfItCanBe : kY yX3_tellIfItCanBe cX3_tellIfItCanBe 4 (some .int) 3 := ⟨tb_m 367 (by decide +kernel) (by decide +kernel), tb_m 53 (by decide +kernel) (by decide +kernel), by decide +kernel, by decide +kernel⟩
theorem ki_X3_tellIfItCanBe : kI yX3_tellIfItCanBe := ⟨tb_m 365 (by decide +kernel) (by decide +kernel), tb_m 366 (by decide +kernel) (by decide +kernel)⟩
theorem ky_X3_crossIfItCanBe : kY yX3_crossIfItCanBe cX3_crossIfItCanBe 4 (some .int) 2 := ⟨tb_m 372 (by decide +kernel) (by decide +kernel), tb_m 53 (by decide +kernel) (by decide +kernel), by decide +kernel, by decide +kernel⟩
theorem ki_X3_crossIfItCanBe : kI yX3_crossIfItCanBe := ⟨tb_m 370 (by decide +kernel) (by decide +kernel), tb_m 371 (by decide +kernel) (by decide +kernel)⟩
theorem ky_X3_publishIfItCanBe : kY yX3_publishIfItCanBe cX3_publishIfItCanBe 2 (some .int) 1 := ⟨tb_m 362 (by decide +kernel) (by decide +kernel), tb_m 53 (by decide +kernel) (by decide +kernel), by decide +kernel, by decide +kernel⟩
theorem ki_X3_publishIfItCanBe : kI yX3_publishIfItCanBe := ⟨tb_m 360 (by decide +kernel) (by decide +kernel), tb_m 361 (by decide +kernel) (by decide +kernel)⟩
theorem ky_X3_passNight : kY yX3_passNight cX3_passNight 2 none 0 := ⟨tb_m 357 (by decide +kernel) (by decide +kernel), tb_m 53 (by decide +kernel) (by decide +kernel), by decide +kernel, by decide +kernel⟩
theorem ki_X3_passNight : kI yX3_passNight := ⟨tb_m 355 (by decide +kernel) (by decide +kernel), tb_m 356 (by decide +kernel) (by decide +kernel)⟩
theorem ky_X3_hearers : kY yX3_hearers cX3_hearers 4 (some .int) 1 := ⟨tb_m 486 (by decide +kernel) (by decide +kernel), tb_m 53 (by decide +kernel) (by decide +kernel), by decide +kernel, by decide +kernel⟩
theorem ki_X3_hearers : kI yX3_hearers := ⟨tb_m 484 (by decide +kernel) (by decide +kernel), tb_m 485 (by decide +kernel) (by decide +kernel)⟩
theorem ky_X3_neighbours : kY yX3_neighbours cX3_neighbours 5 (some .int) 2 := ⟨tb_m 491 (by decide +kernel) (by decide +kernel), tb_m 53 (by decide +kernel) (by decide +kernel), by decide +kernel, by decide +kernel⟩
theorem ki_X3_neighbours : kI yX3_neighbours := ⟨tb_m 489 (by decide +kernel) (by decide +kernel), tb_m 490 (by decide +kernel) (by decide +kernel)⟩
theorem ky_X3_tellAll : kY yX3_tellAll cX3_tellAll 4 none 2 := ⟨tb_m 499 (by decide +kernel) (by decide +kernel), tb_m 53 (by decide +kernel) (by decide +kernel), by decide +kernel, by decide +kernel⟩
theorem ki_X3_tellAll : kI yX3_tellAll := ⟨tb_m 497 (by decide +kernel) (by decide +kernel), tb_m 498 (by decide +kernel) (by decide +kernel)⟩
theorem ky_X3_arrive : kY yX3_arrive cX3_arrive 3 none 2 := ⟨tb_m 522 (by decide +kernel) (by decide +kernel), tb_m 53 (by decide +kernel) (by decide +kernel), by decide +kernel, by decide +kernel⟩
theorem ki_X3_arrive : kI yX3_arrive := ⟨tb_m 520 (by decide +kernel) (by decide +kernel), tb_m 521 (by decide +kernel) (by decide +kernel)⟩
theorem ky_X4_init : kY yX4_init cX4_init 1 none 0 := ⟨tb_m 66 (by decide +kernel) (by decide +kernel), tb_m 52 (by decide +kernel) (by decide +kernel), by decide +kernel, by decide +kernel⟩
theorem kn_X4_init : kN yX4_init := ⟨tb_m 65 (by decide +kernel) (by decide +kernel), rfl⟩
theorem ky_X4_terraces : kY yX4_terraces cX4_terraces 3 (some .int) 1 := ⟨tb_m 242 (by decide +kernel) (by decide +kernel), tb_m 52 (by decide +kernel) (by decide +kernel), by decide +kernel, by decide +kernel⟩
theorem ki_X4_terraces : kI yX4_terraces := ⟨tb_m 240 (by decide +kernel) (by decide +kernel), tb_m 241 (by decide +kernel) (by decide +kernel)⟩
theorem ky_X4_bridge : kY yX4_bridge cX4_bridge 5 (some .int) 4 := ⟨tb_m 250 (by decide +kernel) (by decide +kernel), tb_m 52 (by decide +kernel) (by decide +kernel), by decide +kernel, by decide +kernel⟩
theorem ki_X4_bridge : kI yX4_bridge := ⟨tb_m 248 (by decide +kernel) (by decide +kernel), tb_m 249 (by decide +kernel) (by decide +kernel)⟩
theorem ky_X4_fall : kY yX4_fall cX4_fall 2 (some .int) 1 := ⟨tb_m 271 (by decide +kernel) (by decide +kernel), tb_m 52 (by decide +kernel) (by decide +kernel), by decide +kernel, by decide +kernel⟩
theorem ki_X4_fall : kI yX4_fall := ⟨tb_m 269 (by decide +kernel) (by decide +kernel), tb_m 270 (by decide +kernel) (by decide +kernel)⟩
theorem ky_X4_person : kY yX4_person cX4_person 4 (some .int) 3 := ⟨tb_m 282 (by decide +kernel) (by decide +kernel), tb_m 52 (by decide +kernel) (by decide +kernel), by decide +kernel, by decide +kernel⟩
theorem ki_X4_person : kI yX4_person := ⟨tb_m 280 (by decide +kernel) (by decide +kernel), tb_m 281 (by decide +kernel) (by decide +kernel)⟩
theorem ky_X4_leave : kY yX4_leave cX4_leave 2 (some .int) 1 := ⟨tb_m 286 (by decide +kernel) (by decide +kernel), tb_m 52 (by decide +kernel) (by decide +kernel), by decide +kernel, by decide +kernel⟩
theorem ki_X4_leave : kI yX4_leave := ⟨tb_m 284 (by decide +kernel) (by decide +kernel), tb_m 285 (by decide +kernel) (by decide +kernel)⟩
theorem ky_X4_news : kY yX4_news cX4_news 5 (some .int) 3 := ⟨tb_m 294 (by decide +kernel) (by decide +kernel), tb_m 52 (by decide +kernel) (by decide +kernel), by decide +kernel, by decide +kernel⟩
theorem ki_X4_news : kI yX4_news := ⟨tb_m 292 (by decide +kernel) (by decide +kernel), tb_m 293 (by decide +kernel) (by decide +kernel)⟩
theorem ky_X4_learn : kY yX4_learn cX4_learn 4 (some .int) 3 := ⟨tb_m 301 (by decide +kernel) (by decide +kernel), tb_m 52 (by decide +kernel) (by decide +kernel), by decide +kernel, by decide +kernel⟩
theorem ki_X4_learn : kI yX4_learn := ⟨tb_m 299 (by decide +kernel) (by decide +kernel), tb_m 300 (by decide +kernel) (by decide +kernel)⟩
theorem ky_X4_fade : kY yX4_fade cX4_fade 3 (some .int) 1 := ⟨tb_m 305 (by decide +kernel) (by decide +kernel), tb_m 52 (by decide +kernel) (by decide +kernel), by decide +kernel, by decide +kernel⟩
theorem ki_X4_fade : kI yX4_fade := ⟨tb_m 303 (by decide +kernel) (by decide +kernel), tb_m 304 (by decide +kernel) (by decide +kernel)⟩
theorem ky_X4_say : kY yX4_say cX4_say 2 (some .int) 1 := ⟨tb_m 309 (by decide +kernel) (by decide +kernel), tb_m 52 (by decide +kernel) (by decide +kernel), by decide +kernel, by decide +kernel⟩
theorem ki_X4_say : kI yX4_say := ⟨tb_m 307 (by decide +kernel) (by decide +kernel), tb_m 308 (by decide +kernel) (by decide +kernel)⟩
theorem ky_X4_wipe : kY yX4_wipe cX4_wipe 2 (some .int) 0 := ⟨tb_m 313 (by decide +kernel) (by decide +kernel), tb_m 52 (by decide +kernel) (by decide +kernel), by decide +kernel, by decide +kernel⟩
theorem ki_X4_wipe : kI yX4_wipe := ⟨tb_m 311 (by decide +kernel) (by decide +kernel), tb_m 312 (by decide +kernel) (by decide +kernel)⟩
theorem ky_X4_fault : kY yX4_fault cX4_fault 1 (some .int) 0 := ⟨tb_m 317 (by decide +kernel) (by decide +kernel), tb_m 52 (by decide +kernel) (by decide +kernel), by decide +kernel, by decide +kernel⟩
theorem ki_X4_fault : kI yX4_fault := ⟨tb_m 315 (by decide +kernel) (by decide +kernel), tb_m 316 (by decide +kernel) (by decide +kernel)⟩
theorem ky_X4_judge : kY yX4_judge cX4_judge 2 (some .int) 1 := ⟨tb_m 336 (by decide +kernel) (by decide +kernel), tb_m 52 (by decide +kernel) (by decide +kernel), by decide +kernel, by decide +kernel⟩
theorem ki_X4_judge : kI yX4_judge := ⟨tb_m 334 (by decide +kernel) (by decide +kernel), tb_m 335 (by decide +kernel) (by decide +kernel)⟩
theorem ky_X4_behind : kY yX4_behind cX4_behind 3 (some .int) 2 := ⟨tb_m 397 (by decide +kernel) (by decide +kernel), tb_m 52 (by decide +kernel) (by decide +kernel), by decide +kernel, by decide +kernel⟩
theorem ki_X4_behind : kI yX4_behind := ⟨tb_m 395 (by decide +kernel) (by decide +kernel), tb_m 396 (by decide +kernel) (by decide +kernel)⟩
theorem ky_X4_done : kY yX4_done cX4_done 1 (some .int) 0 := ⟨tb_m 402 (by decide +kernel) (by decide +kernel), tb_m 52 (by decide +kernel) (by decide +kernel), by decide +kernel, by decide +kernel⟩
theorem ki_X4_done : kI yX4_done := ⟨tb_m 400 (by decide +kernel) (by decide +kernel), tb_m 401 (by decide +kernel) (by decide +kernel)⟩
theorem ky_X4_heavy : kY yX4_heavy cX4_heavy 3 (some .int) 2 := ⟨tb_m 407 (by decide +kernel) (by decide +kernel), tb_m 52 (by decide +kernel) (by decide +kernel), by decide +kernel, by decide +kernel⟩
theorem ki_X4_heavy : kI yX4_heavy := ⟨tb_m 405 (by decide +kernel) (by decide +kernel), tb_m 406 (by decide +kernel) (by decide +kernel)⟩
theorem ky_X4_carries : kY yX4_carries cX4_carries 2 (some .int) 1 := ⟨tb_m 413 (by decide +kernel) (by decide +kernel), tb_m 52 (by decide +kernel) (by decide +kernel), by decide +kernel, by decide +kernel⟩
theorem ki_X4_carries : kI yX4_carries := ⟨tb_m 411 (by decide +kernel) (by decide +kernel), tb_m 412 (by decide +kernel) (by decide +kernel)⟩
theorem ky_X4_bent : kY yX4_bent cX4_bent 2 (some .int) 1 := ⟨tb_m 417 (by decide +kernel) (by decide +kernel), tb_m 52 (by decide +kernel) (by decide +kernel), by decide +kernel, by decide +kernel⟩
theorem ki_X4_bent : kI yX4_bent := ⟨tb_m 415 (by decide +kernel) (by decide +kernel), tb_m 416 (by decide +kernel) (by decide +kernel)⟩
theorem ky_X4_way : kY yX4_way cX4_way 6 (some .int) 3 := ⟨tb_m 421 (by decide +kernel) (by decide +kernel), tb_m 52 (by decide +kernel) (by decide +kernel), by decide +kernel, by decide +kernel⟩
theorem ki_X4_way : kI yX4_way := ⟨tb_m 419 (by decide +kernel) (by decide +kernel), tb_m 420 (by decide +kernel) (by decide +kernel)⟩
theorem ky_X4_left : kY yX4_left cX4_left 5 (some .int) 3 := ⟨tb_m 446 (by decide +kernel) (by decide +kernel), tb_m 52 (by decide +kernel) (by decide +kernel), by decide +kernel, by decide +kernel⟩
theorem ki_X4_left : kI yX4_left := ⟨tb_m 444 (by decide +kernel) (by decide +kernel), tb_m 445 (by decide +kernel) (by decide +kernel)⟩
theorem ky_X4_cried : kY yX4_cried cX4_cried 5 (some .int) 3 := ⟨tb_m 462 (by decide +kernel) (by decide +kernel), tb_m 52 (by decide +kernel) (by decide +kernel), by decide +kernel, by decide +kernel⟩
theorem ki_X4_cried : kI yX4_cried := ⟨tb_m 460 (by decide +kernel) (by decide +kernel), tb_m 461 (by decide +kernel) (by decide +kernel)⟩
theorem ky_X4_floated : kY yX4_floated cX4_floated 6 (some .int) 3 := ⟨tb_m 466 (by decide +kernel) (by decide +kernel), tb_m 52 (by decide +kernel) (by decide +kernel), by decide +kernel, by decide +kernel⟩
theorem ki_X4_floated : kI yX4_floated := ⟨tb_m 464 (by decide +kernel) (by decide +kernel), tb_m 465 (by decide +kernel) (by decide +kernel)⟩
theorem ky_X4_mended : kY yX4_mended cX4_mended 7 (some .int) 3 := ⟨tb_m 474 (by decide +kernel) (by decide +kernel), tb_m 52 (by decide +kernel) (by decide +kernel), by decide +kernel, by decide +kernel⟩
theorem ki_X4_mended : kI yX4_mended := ⟨tb_m 472 (by decide +kernel) (by decide +kernel), tb_m 473 (by decide +kernel) (by decide +kernel)⟩
theorem ky_X4_rumour : kY yX4_rumour cX4_rumour 4 (some .int) 1 := ⟨tb_m 482 (by decide +kernel) (by decide +kernel), tb_m 52 (by decide +kernel) (by decide +kernel), by decide +kernel, by decide +kernel⟩
theorem ki_X4_rumour : kI yX4_rumour := ⟨tb_m 480 (by decide +kernel) (by decide +kernel), tb_m 481 (by decide +kernel) (by decide +kernel)⟩
theorem ky_X4_errands : kY yX4_errands cX4_errands 4 (some .int) 3 := ⟨tb_m 504 (by decide +kernel) (by decide +kernel), tb_m 52 (by decide +kernel) (by decide +kernel), by decide +kernel, by decide +kernel⟩
theorem ki_X4_errands : kI yX4_errands := ⟨tb_m 502 (by decide +kernel) (by decide +kernel), tb_m 503 (by decide +kernel) (by decide +kernel)⟩
theorem ky_X4_two : kY yX4_two cX4_two 10 (some .int) 3 := ⟨tb_m 527 (by decide +kernel) (by decide +kernel), tb_m 52 (by decide +kernel) (by decide +kernel), by decide +kernel, by decide +kernel⟩
theorem ki_X4_two : kI yX4_two := ⟨tb_m 525 (by decide +kernel) (by decide +kernel), tb_m 526 (by decide +kernel) (by decide +kernel)⟩
theorem ky_X4_fee : kY yX4_fee cX4_fee 3 (some .int) 2 := ⟨tb_m 538 (by decide +kernel) (by decide +kernel), tb_m 52 (by decide +kernel) (by decide +kernel), by decide +kernel, by decide +kernel⟩
theorem ki_X4_fee : kI yX4_fee := ⟨tb_m 536 (by decide +kernel) (by decide +kernel), tb_m 537 (by decide +kernel) (by decide +kernel)⟩
theorem ky_X4_fees : kY yX4_fees cX4_fees 7 (some .int) 2 := ⟨tb_m 546 (by decide +kernel) (by decide +kernel), tb_m 52 (by decide +kernel) (by decide +kernel), by decide +kernel, by decide +kernel⟩
theorem ki_X4_fees : kI yX4_fees := ⟨tb_m 544 (by decide +kernel) (by decide +kernel), tb_m 545 (by decide +kernel) (by decide +kernel)⟩
theorem ky_X4_seen : kY yX4_seen cX4_seen 3 (some .int) 2 := ⟨tb_m 550 (by decide +kernel) (by decide +kernel), tb_m 52 (by decide +kernel) (by decide +kernel), by decide +kernel, by decide +kernel⟩
theorem ki_X4_seen : kI yX4_seen := ⟨tb_m 548 (by decide +kernel) (by decide +kernel), tb_m 549 (by decide +kernel) (by decide +kernel)⟩
theorem ky_X4_forget : kY yX4_forget cX4_forget 2 (some .int) 0 := ⟨tb_m 554 (by decide +kernel) (by decide +kernel), tb_m 52 (by decide +kernel) (by decide +kernel), by decide +kernel, by decide +kernel⟩
theorem ki_X4_forget : kI yX4_forget := ⟨tb_m 552 (by decide +kernel) (by decide +kernel), tb_m 553 (by decide +kernel) (by decide +kernel)⟩
theorem ky_X4_who : kY yX4_who cX4_who 2 (some .int) 1 := ⟨tb_m 558 (by decide +kernel) (by decide +kernel), tb_m 52 (by decide +kernel) (by decide +kernel), by decide +kernel, by decide +kernel⟩
theorem ki_X4_who : kI yX4_who := ⟨tb_m 556 (by decide +kernel) (by decide +kernel), tb_m 557 (by decide +kernel) (by decide +kernel)⟩
theorem ky_X4_fit : kY yX4_fit cX4_fit 4 (some .int) 0 := ⟨tb_m 566 (by decide +kernel) (by decide +kernel), tb_m 52 (by decide +kernel) (by decide +kernel), by decide +kernel, by decide +kernel⟩
theorem ki_X4_fit : kI yX4_fit := ⟨tb_m 564 (by decide +kernel) (by decide +kernel), tb_m 565 (by decide +kernel) (by decide +kernel)⟩
theorem ky_X4_chance : kY yX4_chance cX4_chance 12 (some .long) 4 := ⟨tb_m 574 (by decide +kernel) (by decide +kernel), tb_m 52 (by decide +kernel) (by decide +kernel), by decide +kernel, by decide +kernel⟩
theorem ki_X4_chance : kI yX4_chance := ⟨tb_m 572 (by decide +kernel) (by decide +kernel), tb_m 573 (by decide +kernel) (by decide +kernel)⟩
theorem ky_X4_year : kY yX4_year cX4_year 7 (some .int) 3 := ⟨tb_m 589 (by decide +kernel) (by decide +kernel), tb_m 52 (by decide +kernel) (by decide +kernel), by decide +kernel, by decide +kernel⟩
theorem ki_X4_year : kI yX4_year := ⟨tb_m 587 (by decide +kernel) (by decide +kernel), tb_m 588 (by decide +kernel) (by decide +kernel)⟩
theorem ky_X4_image : kY yX4_image cX4_image 2 (some .int) 1 := ⟨tb_m 605 (by decide +kernel) (by decide +kernel), tb_m 52 (by decide +kernel) (by decide +kernel), by decide +kernel, by decide +kernel⟩
theorem ki_X4_image : kI yX4_image := ⟨tb_m 603 (by decide +kernel) (by decide +kernel), tb_m 604 (by decide +kernel) (by decide +kernel)⟩
theorem ky_X4_restore : kY yX4_restore cX4_restore 2 (some .int) 1 := ⟨tb_m 609 (by decide +kernel) (by decide +kernel), tb_m 52 (by decide +kernel) (by decide +kernel), by decide +kernel, by decide +kernel⟩
theorem ki_X4_restore : kI yX4_restore := ⟨tb_m 607 (by decide +kernel) (by decide +kernel), tb_m 608 (by decide +kernel) (by decide +kernel)⟩
theorem ky_X4_told : kY yX4_told cX4_told 2 (some .int) 1 := ⟨tb_m 613 (by decide +kernel) (by decide +kernel), tb_m 52 (by decide +kernel) (by decide +kernel), by decide +kernel, by decide +kernel⟩
theorem ki_X4_told : kI yX4_told := ⟨tb_m 611 (by decide +kernel) (by decide +kernel), tb_m 612 (by decide +kernel) (by decide +kernel)⟩
theorem ky_X4_within : kY yX4_within cX4_within 3 (some .boolean) 3 := ⟨tb_m 245 (by decide +kernel) (by decide +kernel), tb_m 52 (by decide +kernel) (by decide +kernel), by decide +kernel, by decide +kernel⟩
theorem ks_X4_within : kS yX4_within := tb_m 244 (by decide +kernel) (by decide +kernel)
theorem ky_X4_has : kY yX4_has cX4_has 2 (some .boolean) 2 := ⟨tb_m 278 (by decide +kernel) (by decide +kernel), tb_m 52 (by decide +kernel) (by decide +kernel), by decide +kernel, by decide +kernel⟩
theorem ks_X4_has : kS yX4_has := tb_m 277 (by decide +kernel) (by decide +kernel)
theorem ky_X4_isNews : kY yX4_isNews cX4_isNews 1 (some .boolean) 1 := ⟨tb_m 297 (by decide +kernel) (by decide +kernel), tb_m 52 (by decide +kernel) (by decide +kernel), by decide +kernel, by decide +kernel⟩
theorem ks_X4_isNews : kS yX4_isNews := tb_m 296 (by decide +kernel) (by decide +kernel)
theorem ky_X4_refuseTrip : kY yX4_refuseTrip cX4_refuseTrip 4 (some .int) 3 := ⟨tb_m 450 (by decide +kernel) (by decide +kernel), tb_m 52 (by decide +kernel) (by decide +kernel), by decide +kernel, by decide +kernel⟩
theorem ki_X4_refuseTrip : kI yX4_refuseTrip := ⟨tb_m 449 (by decide +kernel) (by decide +kernel), tb_m 1 (by decide +kernel) (by decide +kernel)⟩
theorem ky_X4_countOrBits : kY yX4_countOrBits cX4_countOrBits 2 (some .int) 2 := ⟨tb_m 458 (by decide +kernel) (by decide +kernel), tb_m 52 (by decide +kernel) (by decide +kernel), by decide +kernel, by decide +kernel⟩
theorem ks_X4_countOrBits : kS yX4_countOrBits := tb_m 457 (by decide +kernel) (by decide +kernel)
theorem ky_X4_fewest : kY yX4_fewest cX4_fewest 8 (some .int) 3 := ⟨tb_m 454 (by decide +kernel) (by decide +kernel), tb_m 52 (by decide +kernel) (by decide +kernel), by decide +kernel, by decide +kernel⟩
theorem ki_X4_fewest : kI yX4_fewest := ⟨tb_m 453 (by decide +kernel) (by decide +kernel), tb_m 2 (by decide +kernel) (by decide +kernel)⟩
theorem ky_X4_weakestBridge : kY yX4_weakestBridge cX4_weakestBridge 8 (some .int) 3 := ⟨tb_m 478 (by decide +kernel) (by decide +kernel), tb_m 52 (by decide +kernel) (by decide +kernel), by decide +kernel, by decide +kernel⟩
theorem ki_X4_weakestBridge : kI yX4_weakestBridge := ⟨tb_m 477 (by decide +kernel) (by decide +kernel), tb_m 3 (by decide +kernel) (by decide +kernel)⟩
theorem ky_X4_arrivers : kY yX4_arrivers cX4_arrivers 6 (some .int) 2 := ⟨tb_m 534 (by decide +kernel) (by decide +kernel), tb_m 52 (by decide +kernel) (by decide +kernel), by decide +kernel, by decide +kernel⟩
theorem ki_X4_arrivers : kI yX4_arrivers := ⟨tb_m 533 (by decide +kernel) (by decide +kernel), tb_m 4 (by decide +kernel) (by decide +kernel)⟩
theorem ky_X4_feeOf : kY yX4_feeOf cX4_feeOf 5 (some .int) 2 := ⟨tb_m 542 (by decide +kernel) (by decide +kernel), tb_m 52 (by decide +kernel) (by decide +kernel), by decide +kernel, by decide +kernel⟩
theorem ki_X4_feeOf : kI yX4_feeOf := ⟨tb_m 541 (by decide +kernel) (by decide +kernel), tb_m 5 (by decide +kernel) (by decide +kernel)⟩
theorem ky_X4_tellBridge : kY yX4_tellBridge cX4_tellBridge 3 (some .int) 2 := ⟨tb_m 621 (by decide +kernel) (by decide +kernel), tb_m 52 (by decide +kernel) (by decide +kernel), by decide +kernel, by decide +kernel⟩
theorem ki_X4_tellBridge : kI yX4_tellBridge := ⟨tb_m 620 (by decide +kernel) (by decide +kernel), tb_m 7 (by decide +kernel) (by decide +kernel)⟩
theorem ky_X4_tellPerson : kY yX4_tellPerson cX4_tellPerson 3 (some .int) 2 := ⟨tb_m 617 (by decide +kernel) (by decide +kernel), tb_m 52 (by decide +kernel) (by decide +kernel), by decide +kernel, by decide +kernel⟩
theorem ki_X4_tellPerson : kI yX4_tellPerson := ⟨tb_m 616 (by decide +kernel) (by decide +kernel), tb_m 6 (by decide +kernel) (by decide +kernel)⟩
theorem ky_X4_power : kY yX4_power cX4_power 5 (some .long) 2 := ⟨tb_m 579 (by decide +kernel) (by decide +kernel), tb_m 52 (by decide +kernel) (by decide +kernel), by decide +kernel, by decide +kernel⟩
theorem ks_X4_power : kS yX4_power := tb_m 578 (by decide +kernel) (by decide +kernel)
theorem ky_X4_commonDivisor : kY yX4_commonDivisor cX4_commonDivisor 11 (some .long) 2 := ⟨tb_m 582 (by decide +kernel) (by decide +kernel), tb_m 52 (by decide +kernel) (by decide +kernel), by decide +kernel, by decide +kernel⟩
theorem ks_X4_commonDivisor : kS yX4_commonDivisor := tb_m 581 (by decide +kernel) (by decide +kernel)
theorem ky_X4_findOrder : kY yX4_findOrder cX4_findOrder 6 (some .boolean) 4 := ⟨tb_m 513 (by decide +kernel) (by decide +kernel), tb_m 52 (by decide +kernel) (by decide +kernel), by decide +kernel, by decide +kernel⟩
theorem ks_X4_findOrder : kS yX4_findOrder := tb_m 512 (by decide +kernel) (by decide +kernel)
theorem ky_X5_init : kY yX5_init cX5_init 1 none 0 := ⟨tb_m 626 (by decide +kernel) (by decide +kernel), tb_m 58 (by decide +kernel) (by decide +kernel), by decide +kernel, by decide +kernel⟩
theorem kn_X5_init : kN yX5_init := ⟨tb_m 625 (by decide +kernel) (by decide +kernel), rfl⟩
theorem ky_X5_in : kY yX5_in cX5_in 6 (some .boolean) 3 := ⟨tb_m 783 (by decide +kernel) (by decide +kernel), tb_m 58 (by decide +kernel) (by decide +kernel), by decide +kernel, by decide +kernel⟩
theorem ks_X5_in : kS yX5_in := tb_m 782 (by decide +kernel) (by decide +kernel)
theorem ky_X5_ones : kY yX5_ones cX5_ones 3 (some .int) 1 := ⟨tb_m 796 (by decide +kernel) (by decide +kernel), tb_m 58 (by decide +kernel) (by decide +kernel), by decide +kernel, by decide +kernel⟩
theorem ks_X5_ones : kS yX5_ones := tb_m 795 (by decide +kernel) (by decide +kernel)
theorem ky_X5_begin : kY yX5_begin cX5_begin 3 none 1 := ⟨tb_m 631 (by decide +kernel) (by decide +kernel), tb_m 58 (by decide +kernel) (by decide +kernel), by decide +kernel, by decide +kernel⟩
theorem ki_X5_begin : kI yX5_begin := ⟨tb_m 630 (by decide +kernel) (by decide +kernel), tb_m 8 (by decide +kernel) (by decide +kernel)⟩
theorem ky_X5_isTerrace : kY yX5_isTerrace cX5_isTerrace 2 (some .boolean) 1 := ⟨tb_m 792 (by decide +kernel) (by decide +kernel), tb_m 58 (by decide +kernel) (by decide +kernel), by decide +kernel, by decide +kernel⟩
theorem ki_X5_isTerrace : kI yX5_isTerrace := ⟨tb_m 791 (by decide +kernel) (by decide +kernel), tb_m 9 (by decide +kernel) (by decide +kernel)⟩
theorem ky_X5_isBridge : kY yX5_isBridge cX5_isBridge 2 (some .boolean) 1 := ⟨tb_m 804 (by decide +kernel) (by decide +kernel), tb_m 58 (by decide +kernel) (by decide +kernel), by decide +kernel, by decide +kernel⟩
theorem ki_X5_isBridge : kI yX5_isBridge := ⟨tb_m 803 (by decide +kernel) (by decide +kernel), tb_m 10 (by decide +kernel) (by decide +kernel)⟩
theorem ky_X5_isThere : kY yX5_isThere cX5_isThere 2 (some .boolean) 1 := ⟨tb_m 817 (by decide +kernel) (by decide +kernel), tb_m 58 (by decide +kernel) (by decide +kernel), by decide +kernel, by decide +kernel⟩
theorem ki_X5_isThere : kI yX5_isThere := ⟨tb_m 816 (by decide +kernel) (by decide +kernel), tb_m 11 (by decide +kernel) (by decide +kernel)⟩
theorem ky_X5_isNews : kY yX5_isNews cX5_isNews 1 (some .boolean) 1 := ⟨tb_m 824 (by decide +kernel) (by decide +kernel), tb_m 58 (by decide +kernel) (by decide +kernel), by decide +kernel, by decide +kernel⟩
theorem ks_X5_isNews : kS yX5_isNews := tb_m 823 (by decide +kernel) (by decide +kernel)
theorem ky_X5_terraces : kY yX5_terraces cX5_terraces 3 (some .int) 1 := ⟨tb_m 778 (by decide +kernel) (by decide +kernel), tb_m 58 (by decide +kernel) (by decide +kernel), by decide +kernel, by decide +kernel⟩
theorem ki_X5_terraces : kI yX5_terraces := ⟨tb_m 776 (by decide +kernel) (by decide +kernel), tb_m 777 (by decide +kernel) (by decide +kernel)⟩
theorem ky_X5_bridge : kY yX5_bridge cX5_bridge 5 (some .int) 4 := ⟨tb_m 787 (by decide +kernel) (by decide +kernel), tb_m 58 (by decide +kernel) (by decide +kernel), by decide +kernel, by decide +kernel⟩
theorem ki_X5_bridge : kI yX5_bridge := ⟨tb_m 785 (by decide +kernel) (by decide +kernel), tb_m 786 (by decide +kernel) (by decide +kernel)⟩
theorem ky_X5_fall : kY yX5_fall cX5_fall 2 (some .int) 1 := ⟨tb_m 800 (by decide +kernel) (by decide +kernel), tb_m 58 (by decide +kernel) (by decide +kernel), by decide +kernel, by decide +kernel⟩
theorem ki_X5_fall : kI yX5_fall := ⟨tb_m 798 (by decide +kernel) (by decide +kernel), tb_m 799 (by decide +kernel) (by decide +kernel)⟩
theorem ky_X5_person : kY yX5_person cX5_person 4 (some .int) 3 := ⟨tb_m 808 (by decide +kernel) (by decide +kernel), tb_m 58 (by decide +kernel) (by decide +kernel), by decide +kernel, by decide +kernel⟩
theorem ki_X5_person : kI yX5_person := ⟨tb_m 806 (by decide +kernel) (by decide +kernel), tb_m 807 (by decide +kernel) (by decide +kernel)⟩
theorem ky_X5_leave : kY yX5_leave cX5_leave 2 (some .int) 1 := ⟨tb_m 813 (by decide +kernel) (by decide +kernel), tb_m 58 (by decide +kernel) (by decide +kernel), by decide +kernel, by decide +kernel⟩
theorem ki_X5_leave : kI yX5_leave := ⟨tb_m 811 (by decide +kernel) (by decide +kernel), tb_m 812 (by decide +kernel) (by decide +kernel)⟩
theorem ky_X5_news : kY yX5_news cX5_news 5 (some .int) 3 := ⟨tb_m 821 (by decide +kernel) (by decide +kernel), tb_m 58 (by decide +kernel) (by decide +kernel), by decide +kernel, by decide +kernel⟩
theorem ki_X5_news : kI yX5_news := ⟨tb_m 819 (by decide +kernel) (by decide +kernel), tb_m 820 (by decide +kernel) (by decide +kernel)⟩
theorem ky_X5_learn : kY yX5_learn cX5_learn 5 (some .int) 3 := ⟨tb_m 830 (by decide +kernel) (by decide +kernel), tb_m 58 (by decide +kernel) (by decide +kernel), by decide +kernel, by decide +kernel⟩
theorem ki_X5_learn : kI yX5_learn := ⟨tb_m 828 (by decide +kernel) (by decide +kernel), tb_m 829 (by decide +kernel) (by decide +kernel)⟩
theorem ky_X5_fade : kY yX5_fade cX5_fade 3 (some .int) 1 := ⟨tb_m 834 (by decide +kernel) (by decide +kernel), tb_m 58 (by decide +kernel) (by decide +kernel), by decide +kernel, by decide +kernel⟩
theorem ki_X5_fade : kI yX5_fade := ⟨tb_m 832 (by decide +kernel) (by decide +kernel), tb_m 833 (by decide +kernel) (by decide +kernel)⟩
theorem ky_X5_say : kY yX5_say cX5_say 2 (some .int) 1 := ⟨tb_m 839 (by decide +kernel) (by decide +kernel), tb_m 58 (by decide +kernel) (by decide +kernel), by decide +kernel, by decide +kernel⟩
theorem ki_X5_say : kI yX5_say := ⟨tb_m 837 (by decide +kernel) (by decide +kernel), tb_m 838 (by decide +kernel) (by decide +kernel)⟩
theorem ky_X5_wipe : kY yX5_wipe cX5_wipe 2 (some .int) 0 := ⟨tb_m 845 (by decide +kernel) (by decide +kernel), tb_m 58 (by decide +kernel) (by decide +kernel), by decide +kernel, by decide +kernel⟩
theorem ki_X5_wipe : kI yX5_wipe := ⟨tb_m 843 (by decide +kernel) (by decide +kernel), tb_m 844 (by decide +kernel) (by decide +kernel)⟩
theorem ky_X5_isName : kY yX5_isName cX5_isName 1 (some .boolean) 1 := ⟨tb_m 856 (by decide +kernel) (by decide +kernel), tb_m 58 (by decide +kernel) (by decide +kernel), by decide +kernel, by decide +kernel⟩
theorem ks_X5_isName : kS yX5_isName := tb_m 855 (by decide +kernel) (by decide +kernel)
theorem ky_X5_isLetter : kY yX5_isLetter cX5_isLetter 1 (some .boolean) 1 := ⟨tb_m 871 (by decide +kernel) (by decide +kernel), tb_m 58 (by decide +kernel) (by decide +kernel), by decide +kernel, by decide +kernel⟩
theorem ks_X5_isLetter : kS yX5_isLetter := tb_m 870 (by decide +kernel) (by decide +kernel)
theorem ky_X5_readFirst : kY yX5_readFirst cX5_readFirst 2 (some .boolean) 1 := ⟨tb_m 853 (by decide +kernel) (by decide +kernel), tb_m 58 (by decide +kernel) (by decide +kernel), by decide +kernel, by decide +kernel⟩
theorem ki_X5_readFirst : kI yX5_readFirst := ⟨tb_m 852 (by decide +kernel) (by decide +kernel), tb_m 12 (by decide +kernel) (by decide +kernel)⟩
theorem ky_X5_readSecond : kY yX5_readSecond cX5_readSecond 3 (some .boolean) 1 := ⟨tb_m 862 (by decide +kernel) (by decide +kernel), tb_m 58 (by decide +kernel) (by decide +kernel), by decide +kernel, by decide +kernel⟩
theorem ki_X5_readSecond : kI yX5_readSecond := ⟨tb_m 861 (by decide +kernel) (by decide +kernel), tb_m 13 (by decide +kernel) (by decide +kernel)⟩
theorem ky_X5_readNews : kY yX5_readNews cX5_readNews 2 (some .boolean) 1 := ⟨tb_m 868 (by decide +kernel) (by decide +kernel), tb_m 58 (by decide +kernel) (by decide +kernel), by decide +kernel, by decide +kernel⟩
theorem ki_X5_readNews : kI yX5_readNews := ⟨tb_m 867 (by decide +kernel) (by decide +kernel), tb_m 14 (by decide +kernel) (by decide +kernel)⟩
theorem ky_X5_fault : kY yX5_fault cX5_fault 3 (some .int) 0 := ⟨tb_m 849 (by decide +kernel) (by decide +kernel), tb_m 58 (by decide +kernel) (by decide +kernel), by decide +kernel, by decide +kernel⟩
theorem ki_X5_fault : kI yX5_fault := ⟨tb_m 847 (by decide +kernel) (by decide +kernel), tb_m 848 (by decide +kernel) (by decide +kernel)⟩
theorem ky_X5_knowers : kY yX5_knowers cX5_knowers 4 (some .int) 1 := ⟨tb_m 881 (by decide +kernel) (by decide +kernel), tb_m 58 (by decide +kernel) (by decide +kernel), by decide +kernel, by decide +kernel⟩
theorem ki_X5_knowers : kI yX5_knowers := ⟨tb_m 880 (by decide +kernel) (by decide +kernel), tb_m 15 (by decide +kernel) (by decide +kernel)⟩
theorem ky_X5_heavyBy : kY yX5_heavyBy cX5_heavyBy 5 (some .int) 3 := ⟨tb_m 885 (by decide +kernel) (by decide +kernel), tb_m 58 (by decide +kernel) (by decide +kernel), by decide +kernel, by decide +kernel⟩
theorem ki_X5_heavyBy : kI yX5_heavyBy := ⟨tb_m 884 (by decide +kernel) (by decide +kernel), tb_m 16 (by decide +kernel) (by decide +kernel)⟩
theorem ky_X5_sumOf : kY yX5_sumOf cX5_sumOf 5 (some .int) 2 := ⟨tb_m 897 (by decide +kernel) (by decide +kernel), tb_m 58 (by decide +kernel) (by decide +kernel), by decide +kernel, by decide +kernel⟩
theorem ki_X5_sumOf : kI yX5_sumOf := ⟨tb_m 896 (by decide +kernel) (by decide +kernel), tb_m 18 (by decide +kernel) (by decide +kernel)⟩
theorem ky_X5_carriedBy : kY yX5_carriedBy cX5_carriedBy 3 (some .int) 1 := ⟨tb_m 893 (by decide +kernel) (by decide +kernel), tb_m 58 (by decide +kernel) (by decide +kernel), by decide +kernel, by decide +kernel⟩
theorem ki_X5_carriedBy : kI yX5_carriedBy := ⟨tb_m 892 (by decide +kernel) (by decide +kernel), tb_m 17 (by decide +kernel) (by decide +kernel)⟩
theorem ky_X5_passNight : kY yX5_passNight cX5_passNight 3 none 0 := ⟨tb_m 935 (by decide +kernel) (by decide +kernel), tb_m 58 (by decide +kernel) (by decide +kernel), by decide +kernel, by decide +kernel⟩
theorem ki_X5_passNight : kI yX5_passNight := ⟨tb_m 934 (by decide +kernel) (by decide +kernel), tb_m 25 (by decide +kernel) (by decide +kernel)⟩
theorem ky_X5_heavy : kY yX5_heavy cX5_heavy 3 (some .int) 2 := ⟨tb_m 877 (by decide +kernel) (by decide +kernel), tb_m 58 (by decide +kernel) (by decide +kernel), by decide +kernel, by decide +kernel⟩
theorem ki_X5_heavy : kI yX5_heavy := ⟨tb_m 875 (by decide +kernel) (by decide +kernel), tb_m 876 (by decide +kernel) (by decide +kernel)⟩
theorem ky_X5_carries : kY yX5_carries cX5_carries 2 (some .int) 1 := ⟨tb_m 889 (by decide +kernel) (by decide +kernel), tb_m 58 (by decide +kernel) (by decide +kernel), by decide +kernel, by decide +kernel⟩
theorem ki_X5_carries : kI yX5_carries := ⟨tb_m 887 (by decide +kernel) (by decide +kernel), tb_m 888 (by decide +kernel) (by decide +kernel)⟩
theorem ky_X5_bent : kY yX5_bent cX5_bent 2 (some .int) 1 := ⟨tb_m 901 (by decide +kernel) (by decide +kernel), tb_m 58 (by decide +kernel) (by decide +kernel), by decide +kernel, by decide +kernel⟩
theorem ki_X5_bent : kI yX5_bent := ⟨tb_m 899 (by decide +kernel) (by decide +kernel), tb_m 900 (by decide +kernel) (by decide +kernel)⟩
theorem ky_X5_tell : kY yX5_tell cX5_tell 4 (some .int) 3 := ⟨tb_m 923 (by decide +kernel) (by decide +kernel), tb_m 58 (by decide +kernel) (by decide +kernel), by decide +kernel, by decide +kernel⟩
theorem ki_X5_tell : kI yX5_tell := ⟨tb_m 922 (by decide +kernel) (by decide +kernel), tb_m 22 (by decide +kernel) (by decide +kernel)⟩
theorem ky_X5_cross : kY yX5_cross cX5_cross 4 (some .int) 2 := ⟨tb_m 927 (by decide +kernel) (by decide +kernel), tb_m 58 (by decide +kernel) (by decide +kernel), by decide +kernel, by decide +kernel⟩
theorem ki_X5_cross : kI yX5_cross := ⟨tb_m 926 (by decide +kernel) (by decide +kernel), tb_m 23 (by decide +kernel) (by decide +kernel)⟩
theorem ky_X5_publish : kY yX5_publish cX5_publish 2 (some .int) 1 := ⟨tb_m 931 (by decide +kernel) (by decide +kernel), tb_m 58 (by decide +kernel) (by decide +kernel), by decide +kernel, by decide +kernel⟩
theorem ki_X5_publish : kI yX5_publish := ⟨tb_m 930 (by decide +kernel) (by decide +kernel), tb_m 24 (by decide +kernel) (by decide +kernel)⟩
theorem ky_X5_happen : kY yX5_happen cX5_happen 2 (some .int) 1 := ⟨tb_m 919 (by decide +kernel) (by decide +kernel), tb_m 58 (by decide +kernel) (by decide +kernel), by decide +kernel, by decide +kernel⟩
theorem ki_X5_happen : kI yX5_happen := ⟨tb_m 918 (by decide +kernel) (by decide +kernel), tb_m 21 (by decide +kernel) (by decide +kernel)⟩
theorem ky_X5_keepNow : kY yX5_keepNow cX5_keepNow 2 none 0 := ⟨tb_m 911 (by decide +kernel) (by decide +kernel), tb_m 58 (by decide +kernel) (by decide +kernel), by decide +kernel, by decide +kernel⟩
theorem ki_X5_keepNow : kI yX5_keepNow := ⟨tb_m 910 (by decide +kernel) (by decide +kernel), tb_m 19 (by decide +kernel) (by decide +kernel)⟩
theorem ky_X5_putBack : kY yX5_putBack cX5_putBack 2 none 0 := ⟨tb_m 939 (by decide +kernel) (by decide +kernel), tb_m 58 (by decide +kernel) (by decide +kernel), by decide +kernel, by decide +kernel⟩
theorem ki_X5_putBack : kI yX5_putBack := ⟨tb_m 938 (by decide +kernel) (by decide +kernel), tb_m 26 (by decide +kernel) (by decide +kernel)⟩
theorem ky_X5_goDay : kY yX5_goDay cX5_goDay 3 none 0 := ⟨tb_m 915 (by decide +kernel) (by decide +kernel), tb_m 58 (by decide +kernel) (by decide +kernel), by decide +kernel, by decide +kernel⟩
theorem ki_X5_goDay : kI yX5_goDay := ⟨tb_m 914 (by decide +kernel) (by decide +kernel), tb_m 20 (by decide +kernel) (by decide +kernel)⟩
theorem ky_X5_judge : kY yX5_judge cX5_judge 2 (some .int) 1 := ⟨tb_m 905 (by decide +kernel) (by decide +kernel), tb_m 58 (by decide +kernel) (by decide +kernel), by decide +kernel, by decide +kernel⟩
theorem ki_X5_judge : kI yX5_judge := ⟨tb_m 903 (by decide +kernel) (by decide +kernel), tb_m 904 (by decide +kernel) (by decide +kernel)⟩
theorem ky_X5_behind : kY yX5_behind cX5_behind 4 (some .int) 2 := ⟨tb_m 943 (by decide +kernel) (by decide +kernel), tb_m 58 (by decide +kernel) (by decide +kernel), by decide +kernel, by decide +kernel⟩
theorem ki_X5_behind : kI yX5_behind := ⟨tb_m 941 (by decide +kernel) (by decide +kernel), tb_m 942 (by decide +kernel) (by decide +kernel)⟩
theorem ky_X5_done : kY yX5_done cX5_done 1 (some .int) 0 := ⟨tb_m 947 (by decide +kernel) (by decide +kernel), tb_m 58 (by decide +kernel) (by decide +kernel), by decide +kernel, by decide +kernel⟩
theorem ki_X5_done : kI yX5_done := ⟨tb_m 945 (by decide +kernel) (by decide +kernel), tb_m 946 (by decide +kernel) (by decide +kernel)⟩
theorem ky_X5_bearing : kY yX5_bearing cX5_bearing 4 (some .int) 1 := ⟨tb_m 959 (by decide +kernel) (by decide +kernel), tb_m 58 (by decide +kernel) (by decide +kernel), by decide +kernel, by decide +kernel⟩
theorem ki_X5_bearing : kI yX5_bearing := ⟨tb_m 958 (by decide +kernel) (by decide +kernel), tb_m 28 (by decide +kernel) (by decide +kernel)⟩
theorem ky_X5_findFar : kY yX5_findFar cX5_findFar 7 none 2 := ⟨tb_m 963 (by decide +kernel) (by decide +kernel), tb_m 58 (by decide +kernel) (by decide +kernel), by decide +kernel, by decide +kernel⟩
theorem ki_X5_findFar : kI yX5_findFar := ⟨tb_m 962 (by decide +kernel) (by decide +kernel), tb_m 29 (by decide +kernel) (by decide +kernel)⟩
theorem ky_X5_farBy : kY yX5_farBy cX5_farBy 4 (some .int) 3 := ⟨tb_m 982 (by decide +kernel) (by decide +kernel), tb_m 58 (by decide +kernel) (by decide +kernel), by decide +kernel, by decide +kernel⟩
theorem ki_X5_farBy : kI yX5_farBy := ⟨tb_m 981 (by decide +kernel) (by decide +kernel), tb_m 32 (by decide +kernel) (by decide +kernel)⟩
theorem ky_X5_hasWay : kY yX5_hasWay cX5_hasWay 4 (some .boolean) 3 := ⟨tb_m 978 (by decide +kernel) (by decide +kernel), tb_m 58 (by decide +kernel) (by decide +kernel), by decide +kernel, by decide +kernel⟩
theorem ki_X5_hasWay : kI yX5_hasWay := ⟨tb_m 977 (by decide +kernel) (by decide +kernel), tb_m 31 (by decide +kernel) (by decide +kernel)⟩
theorem ky_X5_isAsked : kY yX5_isAsked cX5_isAsked 3 (some .boolean) 2 := ⟨tb_m 955 (by decide +kernel) (by decide +kernel), tb_m 58 (by decide +kernel) (by decide +kernel), by decide +kernel, by decide +kernel⟩
theorem ki_X5_isAsked : kI yX5_isAsked := ⟨tb_m 954 (by decide +kernel) (by decide +kernel), tb_m 27 (by decide +kernel) (by decide +kernel)⟩
theorem ky_X5_way : kY yX5_way cX5_way 10 (some .int) 3 := ⟨tb_m 951 (by decide +kernel) (by decide +kernel), tb_m 58 (by decide +kernel) (by decide +kernel), by decide +kernel, by decide +kernel⟩
theorem ki_X5_way : kI yX5_way := ⟨tb_m 949 (by decide +kernel) (by decide +kernel), tb_m 950 (by decide +kernel) (by decide +kernel)⟩
theorem ky_X5_leadsOn : kY yX5_leadsOn cX5_leadsOn 5 (some .boolean) 3 := ⟨tb_m 967 (by decide +kernel) (by decide +kernel), tb_m 58 (by decide +kernel) (by decide +kernel), by decide +kernel, by decide +kernel⟩
theorem ki_X5_leadsOn : kI yX5_leadsOn := ⟨tb_m 966 (by decide +kernel) (by decide +kernel), tb_m 30 (by decide +kernel) (by decide +kernel)⟩
theorem ky_X5_offerSet : kY yX5_offerSet cX5_offerSet 4 none 2 := ⟨tb_m 986 (by decide +kernel) (by decide +kernel), tb_m 58 (by decide +kernel) (by decide +kernel), by decide +kernel, by decide +kernel⟩
theorem ki_X5_offerSet : kI yX5_offerSet := ⟨tb_m 985 (by decide +kernel) (by decide +kernel), tb_m 33 (by decide +kernel) (by decide +kernel)⟩
theorem ky_X5_tellSet : kY yX5_tellSet cX5_tellSet 2 (some .int) 1 := ⟨tb_m 990 (by decide +kernel) (by decide +kernel), tb_m 58 (by decide +kernel) (by decide +kernel), by decide +kernel, by decide +kernel⟩
theorem ki_X5_tellSet : kI yX5_tellSet := ⟨tb_m 989 (by decide +kernel) (by decide +kernel), tb_m 34 (by decide +kernel) (by decide +kernel)⟩
theorem ky_X5_least0 : kY yX5_least0 cX5_least0 1 (some .int) 1 := ⟨tb_m 974 (by decide +kernel) (by decide +kernel), tb_m 58 (by decide +kernel) (by decide +kernel), by decide +kernel, by decide +kernel⟩
theorem ks_X5_least0 : kS yX5_least0 := tb_m 973 (by decide +kernel) (by decide +kernel)
theorem ky_X5_left : kY yX5_left cX5_left 5 (some .int) 3 := ⟨tb_m 971 (by decide +kernel) (by decide +kernel), tb_m 58 (by decide +kernel) (by decide +kernel), by decide +kernel, by decide +kernel⟩
theorem ki_X5_left : kI yX5_left := ⟨tb_m 969 (by decide +kernel) (by decide +kernel), tb_m 970 (by decide +kernel) (by decide +kernel)⟩
theorem ky_X5_cried : kY yX5_cried cX5_cried 6 (some .int) 3 := ⟨tb_m 994 (by decide +kernel) (by decide +kernel), tb_m 58 (by decide +kernel) (by decide +kernel), by decide +kernel, by decide +kernel⟩
theorem ki_X5_cried : kI yX5_cried := ⟨tb_m 992 (by decide +kernel) (by decide +kernel), tb_m 993 (by decide +kernel) (by decide +kernel)⟩
theorem ky_X5_lies : kY yX5_lies cX5_lies 5 (some .int) 1 := ⟨tb_m 1002 (by decide +kernel) (by decide +kernel), tb_m 58 (by decide +kernel) (by decide +kernel), by decide +kernel, by decide +kernel⟩
theorem ki_X5_lies : kI yX5_lies := ⟨tb_m 1001 (by decide +kernel) (by decide +kernel), tb_m 35 (by decide +kernel) (by decide +kernel)⟩
theorem ky_X5_floatedBy : kY yX5_floatedBy cX5_floatedBy 5 (some .int) 2 := ⟨tb_m 1006 (by decide +kernel) (by decide +kernel), tb_m 58 (by decide +kernel) (by decide +kernel), by decide +kernel, by decide +kernel⟩
theorem ki_X5_floatedBy : kI yX5_floatedBy := ⟨tb_m 1005 (by decide +kernel) (by decide +kernel), tb_m 36 (by decide +kernel) (by decide +kernel)⟩
theorem ky_X5_floated : kY yX5_floated cX5_floated 6 (some .int) 3 := ⟨tb_m 998 (by decide +kernel) (by decide +kernel), tb_m 58 (by decide +kernel) (by decide +kernel), by decide +kernel, by decide +kernel⟩
theorem ki_X5_floated : kI yX5_floated := ⟨tb_m 996 (by decide +kernel) (by decide +kernel), tb_m 997 (by decide +kernel) (by decide +kernel)⟩
theorem ky_X5_mended : kY yX5_mended cX5_mended 10 (some .int) 3 := ⟨tb_m 1010 (by decide +kernel) (by decide +kernel), tb_m 58 (by decide +kernel) (by decide +kernel), by decide +kernel, by decide +kernel⟩
theorem ki_X5_mended : kI yX5_mended := ⟨tb_m 1008 (by decide +kernel) (by decide +kernel), tb_m 1009 (by decide +kernel) (by decide +kernel)⟩
theorem ky_X5_reachedBy : kY yX5_reachedBy cX5_reachedBy 7 (some .int) 1 := ⟨tb_m 1023 (by decide +kernel) (by decide +kernel), tb_m 58 (by decide +kernel) (by decide +kernel), by decide +kernel, by decide +kernel⟩
theorem ki_X5_reachedBy : kI yX5_reachedBy := ⟨tb_m 1022 (by decide +kernel) (by decide +kernel), tb_m 38 (by decide +kernel) (by decide +kernel)⟩
theorem ky_X5_knowersOf : kY yX5_knowersOf cX5_knowersOf 4 (some .int) 1 := ⟨tb_m 1019 (by decide +kernel) (by decide +kernel), tb_m 58 (by decide +kernel) (by decide +kernel), by decide +kernel, by decide +kernel⟩
theorem ki_X5_knowersOf : kI yX5_knowersOf := ⟨tb_m 1018 (by decide +kernel) (by decide +kernel), tb_m 37 (by decide +kernel) (by decide +kernel)⟩
theorem ky_X5_rumour : kY yX5_rumour cX5_rumour 6 (some .int) 1 := ⟨tb_m 1015 (by decide +kernel) (by decide +kernel), tb_m 58 (by decide +kernel) (by decide +kernel), by decide +kernel, by decide +kernel⟩
theorem ki_X5_rumour : kI yX5_rumour := ⟨tb_m 1013 (by decide +kernel) (by decide +kernel), tb_m 1014 (by decide +kernel) (by decide +kernel)⟩
theorem ky_X5_tens : kY yX5_tens cX5_tens 3 (some .int) 1 := ⟨tb_m 1035 (by decide +kernel) (by decide +kernel), tb_m 58 (by decide +kernel) (by decide +kernel), by decide +kernel, by decide +kernel⟩
theorem ks_X5_tens : kS yX5_tens := tb_m 1034 (by decide +kernel) (by decide +kernel)
theorem ky_X5_layErrands : kY yX5_layErrands cX5_layErrands 7 (some .boolean) 2 := ⟨tb_m 1032 (by decide +kernel) (by decide +kernel), tb_m 58 (by decide +kernel) (by decide +kernel), by decide +kernel, by decide +kernel⟩
theorem ki_X5_layErrands : kI yX5_layErrands := ⟨tb_m 1031 (by decide +kernel) (by decide +kernel), tb_m 39 (by decide +kernel) (by decide +kernel)⟩
theorem ky_X5_goesErrand : kY yX5_goesErrand cX5_goesErrand 4 (some .boolean) 2 := ⟨tb_m 1047 (by decide +kernel) (by decide +kernel), tb_m 58 (by decide +kernel) (by decide +kernel), by decide +kernel, by decide +kernel⟩
theorem ki_X5_goesErrand : kI yX5_goesErrand := ⟨tb_m 1046 (by decide +kernel) (by decide +kernel), tb_m 42 (by decide +kernel) (by decide +kernel)⟩
theorem ky_X5_layRow : kY yX5_layRow cX5_layRow 5 (some .boolean) 1 := ⟨tb_m 1039 (by decide +kernel) (by decide +kernel), tb_m 58 (by decide +kernel) (by decide +kernel), by decide +kernel, by decide +kernel⟩
theorem ki_X5_layRow : kI yX5_layRow := ⟨tb_m 1038 (by decide +kernel) (by decide +kernel), tb_m 40 (by decide +kernel) (by decide +kernel)⟩
theorem ky_X5_canAll : kY yX5_canAll cX5_canAll 3 (some .boolean) 0 := ⟨tb_m 1043 (by decide +kernel) (by decide +kernel), tb_m 58 (by decide +kernel) (by decide +kernel), by decide +kernel, by decide +kernel⟩
theorem ki_X5_canAll : kI yX5_canAll := ⟨tb_m 1042 (by decide +kernel) (by decide +kernel), tb_m 41 (by decide +kernel) (by decide +kernel)⟩
theorem ky_X5_errands : kY yX5_errands cX5_errands 6 (some .int) 3 := ⟨tb_m 1027 (by decide +kernel) (by decide +kernel), tb_m 58 (by decide +kernel) (by decide +kernel), by decide +kernel, by decide +kernel⟩
theorem ki_X5_errands : kI yX5_errands := ⟨tb_m 1025 (by decide +kernel) (by decide +kernel), tb_m 1026 (by decide +kernel) (by decide +kernel)⟩
theorem ky_X5_half : kY yX5_half cX5_half 1 (some .int) 1 := ⟨tb_m 1054 (by decide +kernel) (by decide +kernel), tb_m 58 (by decide +kernel) (by decide +kernel), by decide +kernel, by decide +kernel⟩
theorem ks_X5_half : kS yX5_half := tb_m 1053 (by decide +kernel) (by decide +kernel)
theorem ky_X5_canBear : kY yX5_canBear cX5_canBear 4 (some .boolean) 3 := ⟨tb_m 1058 (by decide +kernel) (by decide +kernel), tb_m 58 (by decide +kernel) (by decide +kernel), by decide +kernel, by decide +kernel⟩
theorem ki_X5_canBear : kI yX5_canBear := ⟨tb_m 1057 (by decide +kernel) (by decide +kernel), tb_m 43 (by decide +kernel) (by decide +kernel)⟩
theorem ky_X5_two : kY yX5_two cX5_two 8 (some .int) 3 := ⟨tb_m 1051 (by decide +kernel) (by decide +kernel), tb_m 58 (by decide +kernel) (by decide +kernel), by decide +kernel, by decide +kernel⟩
theorem ki_X5_two : kI yX5_two := ⟨tb_m 1049 (by decide +kernel) (by decide +kernel), tb_m 1050 (by decide +kernel) (by decide +kernel)⟩
theorem ky_X5_feeOf : kY yX5_feeOf cX5_feeOf 5 (some .int) 2 := ⟨tb_m 1066 (by decide +kernel) (by decide +kernel), tb_m 58 (by decide +kernel) (by decide +kernel), by decide +kernel, by decide +kernel⟩
theorem ki_X5_feeOf : kI yX5_feeOf := ⟨tb_m 1065 (by decide +kernel) (by decide +kernel), tb_m 44 (by decide +kernel) (by decide +kernel)⟩
theorem ky_X5_fee : kY yX5_fee cX5_fee 3 (some .int) 2 := ⟨tb_m 1062 (by decide +kernel) (by decide +kernel), tb_m 58 (by decide +kernel) (by decide +kernel), by decide +kernel, by decide +kernel⟩
theorem ki_X5_fee : kI yX5_fee := ⟨tb_m 1060 (by decide +kernel) (by decide +kernel), tb_m 1061 (by decide +kernel) (by decide +kernel)⟩
theorem ky_X5_fees : kY yX5_fees cX5_fees 7 (some .int) 2 := ⟨tb_m 1070 (by decide +kernel) (by decide +kernel), tb_m 58 (by decide +kernel) (by decide +kernel), by decide +kernel, by decide +kernel⟩
theorem ki_X5_fees : kI yX5_fees := ⟨tb_m 1068 (by decide +kernel) (by decide +kernel), tb_m 1069 (by decide +kernel) (by decide +kernel)⟩
theorem ky_X5_seen : kY yX5_seen cX5_seen 3 (some .int) 2 := ⟨tb_m 1074 (by decide +kernel) (by decide +kernel), tb_m 58 (by decide +kernel) (by decide +kernel), by decide +kernel, by decide +kernel⟩
theorem ki_X5_seen : kI yX5_seen := ⟨tb_m 1072 (by decide +kernel) (by decide +kernel), tb_m 1073 (by decide +kernel) (by decide +kernel)⟩
theorem ky_X5_forget : kY yX5_forget cX5_forget 2 (some .int) 0 := ⟨tb_m 1079 (by decide +kernel) (by decide +kernel), tb_m 58 (by decide +kernel) (by decide +kernel), by decide +kernel, by decide +kernel⟩
theorem ki_X5_forget : kI yX5_forget := ⟨tb_m 1077 (by decide +kernel) (by decide +kernel), tb_m 1078 (by decide +kernel) (by decide +kernel)⟩
theorem ky_X5_whoBent : kY yX5_whoBent cX5_whoBent 4 (some .int) 1 := ⟨tb_m 1087 (by decide +kernel) (by decide +kernel), tb_m 58 (by decide +kernel) (by decide +kernel), by decide +kernel, by decide +kernel⟩
theorem ki_X5_whoBent : kI yX5_whoBent := ⟨tb_m 1086 (by decide +kernel) (by decide +kernel), tb_m 45 (by decide +kernel) (by decide +kernel)⟩
theorem ky_X5_who : kY yX5_who cX5_who 2 (some .int) 1 := ⟨tb_m 1083 (by decide +kernel) (by decide +kernel), tb_m 58 (by decide +kernel) (by decide +kernel), by decide +kernel, by decide +kernel⟩
theorem ki_X5_who : kI yX5_who := ⟨tb_m 1081 (by decide +kernel) (by decide +kernel), tb_m 1082 (by decide +kernel) (by decide +kernel)⟩
theorem ky_X5_fits : kY yX5_fits cX5_fits 6 (some .boolean) 1 := ⟨tb_m 1095 (by decide +kernel) (by decide +kernel), tb_m 58 (by decide +kernel) (by decide +kernel), by decide +kernel, by decide +kernel⟩
theorem ki_X5_fits : kI yX5_fits := ⟨tb_m 1094 (by decide +kernel) (by decide +kernel), tb_m 46 (by decide +kernel) (by decide +kernel)⟩
theorem ky_X5_fit : kY yX5_fit cX5_fit 4 (some .int) 0 := ⟨tb_m 1091 (by decide +kernel) (by decide +kernel), tb_m 58 (by decide +kernel) (by decide +kernel), by decide +kernel, by decide +kernel⟩
theorem ki_X5_fit : kI yX5_fit := ⟨tb_m 1089 (by decide +kernel) (by decide +kernel), tb_m 1090 (by decide +kernel) (by decide +kernel)⟩
theorem ky_X5_lowest : kY yX5_lowest cX5_lowest 11 (some .long) 3 := ⟨tb_m 1105 (by decide +kernel) (by decide +kernel), tb_m 58 (by decide +kernel) (by decide +kernel), by decide +kernel, by decide +kernel⟩
theorem ks_X5_lowest : kS yX5_lowest := tb_m 1104 (by decide +kernel) (by decide +kernel)
theorem ky_X5_chance : kY yX5_chance cX5_chance 14 (some .long) 4 := ⟨tb_m 1099 (by decide +kernel) (by decide +kernel), tb_m 58 (by decide +kernel) (by decide +kernel), by decide +kernel, by decide +kernel⟩
theorem ki_X5_chance : kI yX5_chance := ⟨tb_m 1097 (by decide +kernel) (by decide +kernel), tb_m 1098 (by decide +kernel) (by decide +kernel)⟩
theorem ky_X5_year : kY yX5_year cX5_year 9 (some .int) 3 := ⟨tb_m 1109 (by decide +kernel) (by decide +kernel), tb_m 58 (by decide +kernel) (by decide +kernel), by decide +kernel, by decide +kernel⟩
theorem ki_X5_year : kI yX5_year := ⟨tb_m 1107 (by decide +kernel) (by decide +kernel), tb_m 1108 (by decide +kernel) (by decide +kernel)⟩
theorem ky_X5_pass : kY yX5_pass cX5_pass 3 (some .int) 1 := ⟨tb_m 1125 (by decide +kernel) (by decide +kernel), tb_m 58 (by decide +kernel) (by decide +kernel), by decide +kernel, by decide +kernel⟩
theorem ki_X5_pass : kI yX5_pass := ⟨tb_m 1124 (by decide +kernel) (by decide +kernel), tb_m 48 (by decide +kernel) (by decide +kernel)⟩
theorem ky_X5_passAll : kY yX5_passAll cX5_passAll 2 none 0 := ⟨tb_m 1121 (by decide +kernel) (by decide +kernel), tb_m 58 (by decide +kernel) (by decide +kernel), by decide +kernel, by decide +kernel⟩
theorem ki_X5_passAll : kI yX5_passAll := ⟨tb_m 1120 (by decide +kernel) (by decide +kernel), tb_m 47 (by decide +kernel) (by decide +kernel)⟩
theorem ky_X5_image : kY yX5_image cX5_image 2 (some .int) 1 := ⟨tb_m 1117 (by decide +kernel) (by decide +kernel), tb_m 58 (by decide +kernel) (by decide +kernel), by decide +kernel, by decide +kernel⟩
theorem ki_X5_image : kI yX5_image := ⟨tb_m 1115 (by decide +kernel) (by decide +kernel), tb_m 1116 (by decide +kernel) (by decide +kernel)⟩
theorem ky_X5_restore : kY yX5_restore cX5_restore 2 (some .int) 1 := ⟨tb_m 1129 (by decide +kernel) (by decide +kernel), tb_m 58 (by decide +kernel) (by decide +kernel), by decide +kernel, by decide +kernel⟩
theorem ki_X5_restore : kI yX5_restore := ⟨tb_m 1127 (by decide +kernel) (by decide +kernel), tb_m 1128 (by decide +kernel) (by decide +kernel)⟩
theorem ky_X5_toldOfBridge : kY yX5_toldOfBridge cX5_toldOfBridge 3 (some .int) 2 := ⟨tb_m 1145 (by decide +kernel) (by decide +kernel), tb_m 58 (by decide +kernel) (by decide +kernel), by decide +kernel, by decide +kernel⟩
theorem ki_X5_toldOfBridge : kI yX5_toldOfBridge := ⟨tb_m 1144 (by decide +kernel) (by decide +kernel), tb_m 50 (by decide +kernel) (by decide +kernel)⟩
theorem ky_X5_toldOfPerson : kY yX5_toldOfPerson cX5_toldOfPerson 3 (some .int) 2 := ⟨tb_m 1139 (by decide +kernel) (by decide +kernel), tb_m 58 (by decide +kernel) (by decide +kernel), by decide +kernel, by decide +kernel⟩
theorem ki_X5_toldOfPerson : kI yX5_toldOfPerson := ⟨tb_m 1138 (by decide +kernel) (by decide +kernel), tb_m 49 (by decide +kernel) (by decide +kernel)⟩
theorem ky_X5_told : kY yX5_told cX5_told 2 (some .int) 1 := ⟨tb_m 1133 (by decide +kernel) (by decide +kernel), tb_m 58 (by decide +kernel) (by decide +kernel), by decide +kernel, by decide +kernel⟩
theorem ki_X5_told : kI yX5_told := ⟨tb_m 1131 (by decide +kernel) (by decide +kernel), tb_m 1132 (by decide +kernel) (by decide +kernel)⟩
theorem ky_J6_bitCount_0f7a4 : kY yJ6_bitCount_0f7a4 cJ6_bitCount_0f7a4 1 (some .int) 1 := ⟨tb_m 264 (by decide +kernel) (by decide +kernel), tb_m 60 (by decide +kernel) (by decide +kernel), by decide +kernel, by decide +kernel⟩
theorem ks_J6_bitCount_0f7a4 : kS yJ6_bitCount_0f7a4 := tb_m 263 (by decide +kernel) (by decide +kernel)
theorem ky_J9_floorDiv_7cf53 : kY yJ9_floorDiv_7cf53 cJ9_floorDiv_7cf53 3 (some .int) 2 := ⟨tb_m 530 (by decide +kernel) (by decide +kernel), tb_m 59 (by decide +kernel) (by decide +kernel), by decide +kernel, by decide +kernel⟩
theorem ks_J9_floorDiv_7cf53 : kS yJ9_floorDiv_7cf53 := tb_m 529 (by decide +kernel) (by decide +kernel)
theorem ky_J9_max_7cf53 : kY yJ9_max_7cf53 cJ9_max_7cf53 2 (some .int) 2 := ⟨tb_m 261 (by decide +kernel) (by decide +kernel), tb_m 59 (by decide +kernel) (by decide +kernel), by decide +kernel, by decide +kernel⟩
theorem ks_J9_max_7cf53 : kS yJ9_max_7cf53 := tb_m 260 (by decide +kernel) (by decide +kernel)
theorem ky_J9_max_f86c9 : kY yJ9_max_f86c9 cJ9_max_f86c9 4 (some .long) 2 := ⟨tb_m 585 (by decide +kernel) (by decide +kernel), tb_m 59 (by decide +kernel) (by decide +kernel), by decide +kernel, by decide +kernel⟩
theorem ks_J9_max_f86c9 : kS yJ9_max_f86c9 := tb_m 584 (by decide +kernel) (by decide +kernel)
theorem ky_J9_min_7cf53 : kY yJ9_min_7cf53 cJ9_min_7cf53 2 (some .int) 2 := ⟨tb_m 258 (by decide +kernel) (by decide +kernel), tb_m 59 (by decide +kernel) (by decide +kernel), by decide +kernel, by decide +kernel⟩
theorem ks_J9_min_7cf53 : kS yJ9_min_7cf53 := tb_m 257 (by decide +kernel) (by decide +kernel)
theorem ky_J7_fill_53178 : kY yJ7_fill_53178 cJ7_fill_53178 4 none 2 := ⟨tb_m 82 (by decide +kernel) (by decide +kernel), tb_m 54 (by decide +kernel) (by decide +kernel), by decide +kernel, by decide +kernel⟩
theorem ks_J7_fill_53178 : kS yJ7_fill_53178 := tb_m 81 (by decide +kernel) (by decide +kernel)
end
section
theorem dX5_init_0 : decode cX5_init 0 = .ok (.aload_n 0, 1) := by decide +kernel
theorem dX5_init_1 : decode cX5_init 1 = .ok (.invokespecial 1, 3) := by decide +kernel
theorem dX5_init_4 : decode cX5_init 4 = .ok (.aload_n 0, 1) := by decide +kernel
theorem dX5_init_5 : decode cX5_init 5 = .ok (.bipush 8, 2) := by decide +kernel
theorem dX5_init_7 : decode cX5_init 7 = .ok (.newarray .int, 2) := by decide +kernel
theorem dX5_init_9 : decode cX5_init 9 = .ok (.putfield 7, 3) := by decide +kernel
theorem dX5_init_12 : decode cX5_init 12 = .ok (.aload_n 0, 1) := by decide +kernel
theorem dX5_init_13 : decode cX5_init 13 = .ok (.bipush 8, 2) := by decide +kernel
theorem dX5_init_15 : decode cX5_init 15 = .ok (.newarray .int, 2) := by decide +kernel
theorem dX5_init_17 : decode cX5_init 17 = .ok (.putfield 13, 3) := by decide +kernel
theorem dX5_init_20 : decode cX5_init 20 = .ok (.aload_n 0, 1) := by decide +kernel
theorem dX5_init_21 : decode cX5_init 21 = .ok (.bipush 8, 2) := by decide +kernel
theorem dX5_init_23 : decode cX5_init 23 = .ok (.newarray .int, 2) := by decide +kernel
theorem dX5_init_25 : decode cX5_init 25 = .ok (.putfield 16, 3) := by decide +kernel
theorem dX5_init_28 : decode cX5_init 28 = .ok (.aload_n 0, 1) := by decide +kernel
theorem dX5_init_29 : decode cX5_init 29 = .ok (.bipush 8, 2) := by decide +kernel
theorem dX5_init_31 : decode cX5_init 31 = .ok (.newarray .int, 2) := by decide +kernel
theorem dX5_init_33 : decode cX5_init 33 = .ok (.putfield 19, 3) := by decide +kernel
theorem dX5_init_36 : decode cX5_init 36 = .ok (.aload_n 0, 1) := by decide +kernel
theorem dX5_init_37 : decode cX5_init 37 = .ok (.bipush 6, 2) := by decide +kernel
theorem dX5_init_39 : decode cX5_init 39 = .ok (.newarray .int, 2) := by decide +kernel
theorem dX5_init_41 : decode cX5_init 41 = .ok (.putfield 22, 3) := by decide +kernel
theorem dX5_init_44 : decode cX5_init 44 = .ok (.aload_n 0, 1) := by decide +kernel
theorem dX5_init_45 : decode cX5_init 45 = .ok (.bipush 6, 2) := by decide +kernel
theorem dX5_init_47 : decode cX5_init 47 = .ok (.newarray .int, 2) := by decide +kernel
theorem dX5_init_49 : decode cX5_init 49 = .ok (.putfield 25, 3) := by decide +kernel
theorem dX5_init_52 : decode cX5_init 52 = .ok (.aload_n 0, 1) := by decide +kernel
theorem dX5_init_53 : decode cX5_init 53 = .ok (.bipush 6, 2) := by decide +kernel
theorem dX5_init_55 : decode cX5_init 55 = .ok (.newarray .int, 2) := by decide +kernel
theorem dX5_init_57 : decode cX5_init 57 = .ok (.putfield 28, 3) := by decide +kernel
theorem dX5_init_60 : decode cX5_init 60 = .ok (.aload_n 0, 1) := by decide +kernel
theorem dX5_init_61 : decode cX5_init 61 = .ok (.bipush 8, 2) := by decide +kernel
theorem dX5_init_63 : decode cX5_init 63 = .ok (.newarray .int, 2) := by decide +kernel
theorem dX5_init_65 : decode cX5_init 65 = .ok (.putfield 31, 3) := by decide +kernel
theorem dX5_init_68 : decode cX5_init 68 = .ok (.aload_n 0, 1) := by decide +kernel
theorem dX5_init_69 : decode cX5_init 69 = .ok (.bipush 8, 2) := by decide +kernel
theorem dX5_init_71 : decode cX5_init 71 = .ok (.newarray .int, 2) := by decide +kernel
theorem dX5_init_73 : decode cX5_init 73 = .ok (.putfield 34, 3) := by decide +kernel
theorem dX5_init_76 : decode cX5_init 76 = .ok (.aload_n 0, 1) := by decide +kernel
theorem dX5_init_77 : decode cX5_init 77 = .ok (.bipush 6, 2) := by decide +kernel
theorem dX5_init_79 : decode cX5_init 79 = .ok (.newarray .int, 2) := by decide +kernel
theorem dX5_init_81 : decode cX5_init 81 = .ok (.putfield 37, 3) := by decide +kernel
theorem dX5_init_84 : decode cX5_init 84 = .ok (.aload_n 0, 1) := by decide +kernel
theorem dX5_init_85 : decode cX5_init 85 = .ok (.bipush 6, 2) := by decide +kernel
theorem dX5_init_87 : decode cX5_init 87 = .ok (.newarray .int, 2) := by decide +kernel
theorem dX5_init_89 : decode cX5_init 89 = .ok (.putfield 40, 3) := by decide +kernel
theorem dX5_init_92 : decode cX5_init 92 = .ok (.aload_n 0, 1) := by decide +kernel
theorem dX5_init_93 : decode cX5_init 93 = .ok (.bipush 60, 2) := by decide +kernel
theorem dX5_init_95 : decode cX5_init 95 = .ok (.newarray .int, 2) := by decide +kernel
theorem dX5_init_97 : decode cX5_init 97 = .ok (.putfield 43, 3) := by decide +kernel
theorem dX5_init_100 : decode cX5_init 100 = .ok (.aload_n 0, 1) := by decide +kernel
theorem dX5_init_101 : decode cX5_init 101 = .ok (.bipush 60, 2) := by decide +kernel
theorem dX5_init_103 : decode cX5_init 103 = .ok (.newarray .int, 2) := by decide +kernel
theorem dX5_init_105 : decode cX5_init 105 = .ok (.putfield 46, 3) := by decide +kernel
theorem dX5_init_108 : decode cX5_init 108 = .ok (.aload_n 0, 1) := by decide +kernel
theorem dX5_init_109 : decode cX5_init 109 = .ok (.bipush 60, 2) := by decide +kernel
theorem dX5_init_111 : decode cX5_init 111 = .ok (.newarray .int, 2) := by decide +kernel
theorem dX5_init_113 : decode cX5_init 113 = .ok (.putfield 49, 3) := by decide +kernel
theorem dX5_init_116 : decode cX5_init 116 = .ok (.aload_n 0, 1) := by decide +kernel
theorem dX5_init_117 : decode cX5_init 117 = .ok (.bipush 60, 2) := by decide +kernel
theorem dX5_init_119 : decode cX5_init 119 = .ok (.newarray .int, 2) := by decide +kernel
theorem dX5_init_121 : decode cX5_init 121 = .ok (.putfield 52, 3) := by decide +kernel
theorem dX5_init_124 : decode cX5_init 124 = .ok (.aload_n 0, 1) := by decide +kernel
theorem dX5_init_125 : decode cX5_init 125 = .ok (.bipush 60, 2) := by decide +kernel
theorem dX5_init_127 : decode cX5_init 127 = .ok (.newarray .int, 2) := by decide +kernel
theorem dX5_init_129 : decode cX5_init 129 = .ok (.putfield 55, 3) := by decide +kernel
theorem dX5_init_132 : decode cX5_init 132 = .ok (.aload_n 0, 1) := by decide +kernel
theorem dX5_init_133 : decode cX5_init 133 = .ok (.bipush 6, 2) := by decide +kernel
theorem dX5_init_135 : decode cX5_init 135 = .ok (.newarray .int, 2) := by decide +kernel
theorem dX5_init_137 : decode cX5_init 137 = .ok (.putfield 58, 3) := by decide +kernel
theorem dX5_init_140 : decode cX5_init 140 = .ok (.aload_n 0, 1) := by decide +kernel
theorem dX5_init_141 : decode cX5_init 141 = .ok (.bipush 6, 2) := by decide +kernel
theorem dX5_init_143 : decode cX5_init 143 = .ok (.newarray .int, 2) := by decide +kernel
theorem dX5_init_145 : decode cX5_init 145 = .ok (.putfield 61, 3) := by decide +kernel
theorem dX5_init_148 : decode cX5_init 148 = .ok (.aload_n 0, 1) := by decide +kernel
theorem dX5_init_149 : decode cX5_init 149 = .ok (.bipush 8, 2) := by decide +kernel
theorem dX5_init_151 : decode cX5_init 151 = .ok (.newarray .int, 2) := by decide +kernel
theorem dX5_init_153 : decode cX5_init 153 = .ok (.putfield 64, 3) := by decide +kernel
theorem dX5_init_156 : decode cX5_init 156 = .ok (.aload_n 0, 1) := by decide +kernel
theorem dX5_init_157 : decode cX5_init 157 = .ok (.bipush 8, 2) := by decide +kernel
theorem dX5_init_159 : decode cX5_init 159 = .ok (.newarray .int, 2) := by decide +kernel
theorem dX5_init_161 : decode cX5_init 161 = .ok (.putfield 67, 3) := by decide +kernel
theorem dX5_init_164 : decode cX5_init 164 = .ok (.aload_n 0, 1) := by decide +kernel
theorem dX5_init_165 : decode cX5_init 165 = .ok (.bipush 6, 2) := by decide +kernel
theorem dX5_init_167 : decode cX5_init 167 = .ok (.newarray .int, 2) := by decide +kernel
theorem dX5_init_169 : decode cX5_init 169 = .ok (.putfield 70, 3) := by decide +kernel
theorem dX5_init_172 : decode cX5_init 172 = .ok (.aload_n 0, 1) := by decide +kernel
theorem dX5_init_173 : decode cX5_init 173 = .ok (.bipush 6, 2) := by decide +kernel
theorem dX5_init_175 : decode cX5_init 175 = .ok (.newarray .int, 2) := by decide +kernel
theorem dX5_init_177 : decode cX5_init 177 = .ok (.putfield 73, 3) := by decide +kernel
theorem dX5_init_180 : decode cX5_init 180 = .ok (.aload_n 0, 1) := by decide +kernel
theorem dX5_init_181 : decode cX5_init 181 = .ok (.bipush 6, 2) := by decide +kernel
theorem dX5_init_183 : decode cX5_init 183 = .ok (.newarray .int, 2) := by decide +kernel
theorem dX5_init_185 : decode cX5_init 185 = .ok (.putfield 76, 3) := by decide +kernel
theorem dX5_init_188 : decode cX5_init 188 = .ok (.aload_n 0, 1) := by decide +kernel
theorem dX5_init_189 : decode cX5_init 189 = .ok (.bipush 6, 2) := by decide +kernel
theorem dX5_init_191 : decode cX5_init 191 = .ok (.newarray .int, 2) := by decide +kernel
theorem dX5_init_193 : decode cX5_init 193 = .ok (.putfield 79, 3) := by decide +kernel
theorem dX5_init_196 : decode cX5_init 196 = .ok (.aload_n 0, 1) := by decide +kernel
theorem dX5_init_197 : decode cX5_init 197 = .ok (.bipush 6, 2) := by decide +kernel
theorem dX5_init_199 : decode cX5_init 199 = .ok (.newarray .int, 2) := by decide +kernel
theorem dX5_init_201 : decode cX5_init 201 = .ok (.putfield 82, 3) := by decide +kernel
theorem dX5_init_204 : decode cX5_init 204 = .ok (.aload_n 0, 1) := by decide +kernel
theorem dX5_init_205 : decode cX5_init 205 = .ok (.bipush 6, 2) := by decide +kernel
theorem dX5_init_207 : decode cX5_init 207 = .ok (.newarray .int, 2) := by decide +kernel
theorem dX5_init_209 : decode cX5_init 209 = .ok (.putfield 85, 3) := by decide +kernel
theorem dX5_init_212 : decode cX5_init 212 = .ok (.aload_n 0, 1) := by decide +kernel
theorem dX5_init_213 : decode cX5_init 213 = .ok (.sipush 200, 3) := by decide +kernel
theorem dX5_init_216 : decode cX5_init 216 = .ok (.newarray .int, 2) := by decide +kernel
theorem dX5_init_218 : decode cX5_init 218 = .ok (.putfield 88, 3) := by decide +kernel
theorem dX5_init_221 : decode cX5_init 221 = .ok (.aload_n 0, 1) := by decide +kernel
theorem dX5_init_222 : decode cX5_init 222 = .ok (.iconst 2, 1) := by decide +kernel
theorem dX5_init_223 : decode cX5_init 223 = .ok (.newarray .boolean, 2) := by decide +kernel
theorem dX5_init_225 : decode cX5_init 225 = .ok (.putfield 91, 3) := by decide +kernel
theorem dX5_init_228 : decode cX5_init 228 = .ok (.aload_n 0, 1) := by decide +kernel
theorem dX5_init_229 : decode cX5_init 229 = .ok (.iconst 1, 1) := by decide +kernel
theorem dX5_init_230 : decode cX5_init 230 = .ok (.putfield 95, 3) := by decide +kernel
theorem dX5_init_233 : decode cX5_init 233 = .ok (.aload_n 0, 1) := by decide +kernel
theorem dX5_init_234 : decode cX5_init 234 = .ok (.iconst 4, 1) := by decide +kernel
theorem dX5_init_235 : decode cX5_init 235 = .ok (.invokevirtual 99, 3) := by decide +kernel
theorem dX5_init_238 : decode cX5_init 238 = .ok (.return_, 1) := by decide +kernel
theorem dX5_in_0 : decode cX5_in 0 = .ok (.lload_n 0, 1) := by decide +kernel
theorem dX5_in_1 : decode cX5_in 1 = .ok (.lload_n 2, 1) := by decide +kernel
theorem dX5_in_2 : decode cX5_in 2 = .ok (.lcmp, 1) := by decide +kernel
theorem dX5_in_3 : decode cX5_in 3 = .ok (.ifCond .lt 14, 3) := by decide +kernel
theorem dX5_in_6 : decode cX5_in 6 = .ok (.lload_n 0, 1) := by decide +kernel
theorem dX5_in_7 : decode cX5_in 7 = .ok (.lload 4, 2) := by decide +kernel
theorem dX5_in_9 : decode cX5_in 9 = .ok (.lcmp, 1) := by decide +kernel
theorem dX5_in_10 : decode cX5_in 10 = .ok (.ifCond .gt 7, 3) := by decide +kernel
theorem dX5_in_13 : decode cX5_in 13 = .ok (.iconst 1, 1) := by decide +kernel
theorem dX5_in_14 : decode cX5_in 14 = .ok (.goto 4, 3) := by decide +kernel
theorem dX5_in_17 : decode cX5_in 17 = .ok (.iconst 0, 1) := by decide +kernel
theorem dX5_in_18 : decode cX5_in 18 = .ok (.ireturn, 1) := by decide +kernel
theorem dX5_ones_0 : decode cX5_ones 0 = .ok (.iconst 0, 1) := by decide +kernel
theorem dX5_ones_1 : decode cX5_ones 1 = .ok (.istore_n 1, 1) := by decide +kernel
theorem dX5_ones_2 : decode cX5_ones 2 = .ok (.iload_n 0, 1) := by decide +kernel
theorem dX5_ones_3 : decode cX5_ones 3 = .ok (.istore_n 2, 1) := by decide +kernel
theorem dX5_ones_4 : decode cX5_ones 4 = .ok (.iload_n 2, 1) := by decide +kernel
theorem dX5_ones_5 : decode cX5_ones 5 = .ok (.ifCond .eq 15, 3) := by decide +kernel
theorem dX5_ones_8 : decode cX5_ones 8 = .ok (.iinc 1 1, 3) := by decide +kernel
theorem dX5_ones_11 : decode cX5_ones 11 = .ok (.iload_n 2, 1) := by decide +kernel
theorem dX5_ones_12 : decode cX5_ones 12 = .ok (.iload_n 2, 1) := by decide +kernel
theorem dX5_ones_13 : decode cX5_ones 13 = .ok (.iconst 1, 1) := by decide +kernel
theorem dX5_ones_14 : decode cX5_ones 14 = .ok (.isub, 1) := by decide +kernel
theorem dX5_ones_15 : decode cX5_ones 15 = .ok (.iand, 1) := by decide +kernel
theorem dX5_ones_16 : decode cX5_ones 16 = .ok (.istore_n 2, 1) := by decide +kernel
theorem dX5_ones_17 : decode cX5_ones 17 = .ok (.goto (-13), 3) := by decide +kernel
theorem dX5_ones_20 : decode cX5_ones 20 = .ok (.iload_n 1, 1) := by decide +kernel
theorem dX5_ones_21 : decode cX5_ones 21 = .ok (.ireturn, 1) := by decide +kernel
theorem dX5_begin_0 : decode cX5_begin 0 = .ok (.aload_n 0, 1) := by decide +kernel
theorem dX5_begin_1 : decode cX5_begin 1 = .ok (.iload_n 1, 1) := by decide +kernel
theorem dX5_begin_2 : decode cX5_begin 2 = .ok (.putfield 103, 3) := by decide +kernel
theorem dX5_begin_5 : decode cX5_begin 5 = .ok (.aload_n 0, 1) := by decide +kernel
theorem dX5_begin_6 : decode cX5_begin 6 = .ok (.iconst 0, 1) := by decide +kernel
theorem dX5_begin_7 : decode cX5_begin 7 = .ok (.putfield 106, 3) := by decide +kernel
theorem dX5_begin_10 : decode cX5_begin 10 = .ok (.aload_n 0, 1) := by decide +kernel
theorem dX5_begin_11 : decode cX5_begin 11 = .ok (.iconst 0, 1) := by decide +kernel
theorem dX5_begin_12 : decode cX5_begin 12 = .ok (.putfield 109, 3) := by decide +kernel
theorem dX5_begin_15 : decode cX5_begin 15 = .ok (.aload_n 0, 1) := by decide +kernel
theorem dX5_begin_16 : decode cX5_begin 16 = .ok (.iconst 0, 1) := by decide +kernel
theorem dX5_begin_17 : decode cX5_begin 17 = .ok (.putfield 112, 3) := by decide +kernel
theorem dX5_begin_20 : decode cX5_begin 20 = .ok (.aload_n 0, 1) := by decide +kernel
theorem dX5_begin_21 : decode cX5_begin 21 = .ok (.iconst 0, 1) := by decide +kernel
theorem dX5_begin_22 : decode cX5_begin 22 = .ok (.putfield 115, 3) := by decide +kernel
theorem dX5_begin_25 : decode cX5_begin 25 = .ok (.iconst 0, 1) := by decide +kernel
theorem dX5_begin_26 : decode cX5_begin 26 = .ok (.istore_n 2, 1) := by decide +kernel
theorem dX5_begin_27 : decode cX5_begin 27 = .ok (.iload_n 2, 1) := by decide +kernel
theorem dX5_begin_28 : decode cX5_begin 28 = .ok (.bipush 8, 2) := by decide +kernel
theorem dX5_begin_30 : decode cX5_begin 30 = .ok (.if_icmp .ge 23, 3) := by decide +kernel
theorem dX5_begin_33 : decode cX5_begin 33 = .ok (.aload_n 0, 1) := by decide +kernel
theorem dX5_begin_34 : decode cX5_begin 34 = .ok (.getfield 31, 3) := by decide +kernel
theorem dX5_begin_37 : decode cX5_begin 37 = .ok (.iload_n 2, 1) := by decide +kernel
theorem dX5_begin_38 : decode cX5_begin 38 = .ok (.iconst 0, 1) := by decide +kernel
theorem dX5_begin_39 : decode cX5_begin 39 = .ok (.iastore, 1) := by decide +kernel
theorem dX5_begin_40 : decode cX5_begin 40 = .ok (.aload_n 0, 1) := by decide +kernel
theorem dX5_begin_41 : decode cX5_begin 41 = .ok (.getfield 34, 3) := by decide +kernel
theorem dX5_begin_44 : decode cX5_begin 44 = .ok (.iload_n 2, 1) := by decide +kernel
theorem dX5_begin_45 : decode cX5_begin 45 = .ok (.iconst 3, 1) := by decide +kernel
theorem dX5_begin_46 : decode cX5_begin 46 = .ok (.iastore, 1) := by decide +kernel
theorem dX5_begin_47 : decode cX5_begin 47 = .ok (.iinc 2 1, 3) := by decide +kernel
theorem dX5_begin_50 : decode cX5_begin 50 = .ok (.goto (-23), 3) := by decide +kernel
theorem dX5_begin_53 : decode cX5_begin 53 = .ok (.return_, 1) := by decide +kernel
theorem dX5_isTerrace_0 : decode cX5_isTerrace 0 = .ok (.iload_n 1, 1) := by decide +kernel
theorem dX5_isTerrace_1 : decode cX5_isTerrace 1 = .ok (.i2l, 1) := by decide +kernel
theorem dX5_isTerrace_2 : decode cX5_isTerrace 2 = .ok (.lconst 0, 1) := by decide +kernel
theorem dX5_isTerrace_3 : decode cX5_isTerrace 3 = .ok (.aload_n 0, 1) := by decide +kernel
theorem dX5_isTerrace_4 : decode cX5_isTerrace 4 = .ok (.getfield 103, 3) := by decide +kernel
theorem dX5_isTerrace_7 : decode cX5_isTerrace 7 = .ok (.iconst 1, 1) := by decide +kernel
theorem dX5_isTerrace_8 : decode cX5_isTerrace 8 = .ok (.isub, 1) := by decide +kernel
theorem dX5_isTerrace_9 : decode cX5_isTerrace 9 = .ok (.i2l, 1) := by decide +kernel
theorem dX5_isTerrace_10 : decode cX5_isTerrace 10 = .ok (.invokestatic 118, 3) := by decide +kernel
theorem dX5_isTerrace_13 : decode cX5_isTerrace 13 = .ok (.ireturn, 1) := by decide +kernel
theorem dX5_isBridge_0 : decode cX5_isBridge 0 = .ok (.iload_n 1, 1) := by decide +kernel
theorem dX5_isBridge_1 : decode cX5_isBridge 1 = .ok (.i2l, 1) := by decide +kernel
theorem dX5_isBridge_2 : decode cX5_isBridge 2 = .ok (.lconst 0, 1) := by decide +kernel
theorem dX5_isBridge_3 : decode cX5_isBridge 3 = .ok (.ldc2_w 122, 3) := by decide +kernel
theorem dX5_isBridge_6 : decode cX5_isBridge 6 = .ok (.invokestatic 118, 3) := by decide +kernel
theorem dX5_isBridge_9 : decode cX5_isBridge 9 = .ok (.ifCond .eq 19, 3) := by decide +kernel
theorem dX5_isBridge_12 : decode cX5_isBridge 12 = .ok (.aload_n 0, 1) := by decide +kernel
theorem dX5_isBridge_13 : decode cX5_isBridge 13 = .ok (.getfield 106, 3) := by decide +kernel
theorem dX5_isBridge_16 : decode cX5_isBridge 16 = .ok (.iload_n 1, 1) := by decide +kernel
theorem dX5_isBridge_17 : decode cX5_isBridge 17 = .ok (.ishr, 1) := by decide +kernel
theorem dX5_isBridge_18 : decode cX5_isBridge 18 = .ok (.iconst 1, 1) := by decide +kernel
theorem dX5_isBridge_19 : decode cX5_isBridge 19 = .ok (.iand, 1) := by decide +kernel
theorem dX5_isBridge_20 : decode cX5_isBridge 20 = .ok (.iconst 1, 1) := by decide +kernel
theorem dX5_isBridge_21 : decode cX5_isBridge 21 = .ok (.if_icmp .ne 7, 3) := by decide +kernel
theorem dX5_isBridge_24 : decode cX5_isBridge 24 = .ok (.iconst 1, 1) := by decide +kernel
theorem dX5_isBridge_25 : decode cX5_isBridge 25 = .ok (.goto 4, 3) := by decide +kernel
theorem dX5_isBridge_28 : decode cX5_isBridge 28 = .ok (.iconst 0, 1) := by decide +kernel
theorem dX5_isBridge_29 : decode cX5_isBridge 29 = .ok (.ireturn, 1) := by decide +kernel
theorem dX5_isThere_0 : decode cX5_isThere 0 = .ok (.iload_n 1, 1) := by decide +kernel
theorem dX5_isThere_1 : decode cX5_isThere 1 = .ok (.i2l, 1) := by decide +kernel
theorem dX5_isThere_2 : decode cX5_isThere 2 = .ok (.lconst 0, 1) := by decide +kernel
theorem dX5_isThere_3 : decode cX5_isThere 3 = .ok (.ldc2_w 124, 3) := by decide +kernel
theorem dX5_isThere_6 : decode cX5_isThere 6 = .ok (.invokestatic 118, 3) := by decide +kernel
theorem dX5_isThere_9 : decode cX5_isThere 9 = .ok (.ifCond .eq 19, 3) := by decide +kernel
theorem dX5_isThere_12 : decode cX5_isThere 12 = .ok (.aload_n 0, 1) := by decide +kernel
theorem dX5_isThere_13 : decode cX5_isThere 13 = .ok (.getfield 109, 3) := by decide +kernel
theorem dX5_isThere_16 : decode cX5_isThere 16 = .ok (.iload_n 1, 1) := by decide +kernel
theorem dX5_isThere_17 : decode cX5_isThere 17 = .ok (.ishr, 1) := by decide +kernel
theorem dX5_isThere_18 : decode cX5_isThere 18 = .ok (.iconst 1, 1) := by decide +kernel
theorem dX5_isThere_19 : decode cX5_isThere 19 = .ok (.iand, 1) := by decide +kernel
theorem dX5_isThere_20 : decode cX5_isThere 20 = .ok (.iconst 1, 1) := by decide +kernel
theorem dX5_isThere_21 : decode cX5_isThere 21 = .ok (.if_icmp .ne 7, 3) := by decide +kernel
theorem dX5_isThere_24 : decode cX5_isThere 24 = .ok (.iconst 1, 1) := by decide +kernel
theorem dX5_isThere_25 : decode cX5_isThere 25 = .ok (.goto 4, 3) := by decide +kernel
theorem dX5_isThere_28 : decode cX5_isThere 28 = .ok (.iconst 0, 1) := by decide +kernel
theorem dX5_isThere_29 : decode cX5_isThere 29 = .ok (.ireturn, 1) := by decide +kernel
theorem dX5_isNews_0 : decode cX5_isNews 0 = .ok (.iload_n 0, 1) := by decide +kernel
theorem dX5_isNews_1 : decode cX5_isNews 1 = .ok (.i2l, 1) := by decide +kernel
theorem dX5_isNews_2 : decode cX5_isNews 2 = .ok (.lconst 0, 1) := by decide +kernel
theorem dX5_isNews_3 : decode cX5_isNews 3 = .ok (.ldc2_w 122, 3) := by decide +kernel
theorem dX5_isNews_6 : decode cX5_isNews 6 = .ok (.invokestatic 118, 3) := by decide +kernel
theorem dX5_isNews_9 : decode cX5_isNews 9 = .ok (.ireturn, 1) := by decide +kernel
theorem dX5_terraces_0 : decode cX5_terraces 0 = .ok (.iload_n 1, 1) := by decide +kernel
theorem dX5_terraces_1 : decode cX5_terraces 1 = .ok (.i2l, 1) := by decide +kernel
theorem dX5_terraces_2 : decode cX5_terraces 2 = .ok (.ldc2_w 126, 3) := by decide +kernel
theorem dX5_terraces_5 : decode cX5_terraces 5 = .ok (.ldc2_w 128, 3) := by decide +kernel
theorem dX5_terraces_8 : decode cX5_terraces 8 = .ok (.invokestatic 118, 3) := by decide +kernel
theorem dX5_terraces_11 : decode cX5_terraces 11 = .ok (.ifCond .ne 6, 3) := by decide +kernel
theorem dX5_terraces_14 : decode cX5_terraces 14 = .ok (.bipush (-2), 2) := by decide +kernel
theorem dX5_terraces_16 : decode cX5_terraces 16 = .ok (.ireturn, 1) := by decide +kernel
theorem dX5_terraces_17 : decode cX5_terraces 17 = .ok (.aload_n 0, 1) := by decide +kernel
theorem dX5_terraces_18 : decode cX5_terraces 18 = .ok (.getfield 103, 3) := by decide +kernel
theorem dX5_terraces_21 : decode cX5_terraces 21 = .ok (.istore_n 2, 1) := by decide +kernel
theorem dX5_terraces_22 : decode cX5_terraces 22 = .ok (.aload_n 0, 1) := by decide +kernel
theorem dX5_terraces_23 : decode cX5_terraces 23 = .ok (.iload_n 1, 1) := by decide +kernel
theorem dX5_terraces_24 : decode cX5_terraces 24 = .ok (.invokevirtual 99, 3) := by decide +kernel
theorem dX5_terraces_27 : decode cX5_terraces 27 = .ok (.iload_n 2, 1) := by decide +kernel
theorem dX5_terraces_28 : decode cX5_terraces 28 = .ok (.ireturn, 1) := by decide +kernel
theorem dX5_bridge_0 : decode cX5_bridge 0 = .ok (.iload_n 1, 1) := by decide +kernel
theorem dX5_bridge_1 : decode cX5_bridge 1 = .ok (.i2l, 1) := by decide +kernel
theorem dX5_bridge_2 : decode cX5_bridge 2 = .ok (.lconst 0, 1) := by decide +kernel
theorem dX5_bridge_3 : decode cX5_bridge 3 = .ok (.ldc2_w 122, 3) := by decide +kernel
theorem dX5_bridge_6 : decode cX5_bridge 6 = .ok (.invokestatic 118, 3) := by decide +kernel
theorem dX5_bridge_9 : decode cX5_bridge 9 = .ok (.ifCond .eq 24, 3) := by decide +kernel
theorem dX5_bridge_12 : decode cX5_bridge 12 = .ok (.aload_n 0, 1) := by decide +kernel
theorem dX5_bridge_13 : decode cX5_bridge 13 = .ok (.iload_n 2, 1) := by decide +kernel
theorem dX5_bridge_14 : decode cX5_bridge 14 = .ok (.invokevirtual 130, 3) := by decide +kernel
theorem dX5_bridge_17 : decode cX5_bridge 17 = .ok (.ifCond .eq 16, 3) := by decide +kernel
theorem dX5_bridge_20 : decode cX5_bridge 20 = .ok (.aload_n 0, 1) := by decide +kernel
theorem dX5_bridge_21 : decode cX5_bridge 21 = .ok (.iload_n 3, 1) := by decide +kernel
theorem dX5_bridge_22 : decode cX5_bridge 22 = .ok (.invokevirtual 130, 3) := by decide +kernel
theorem dX5_bridge_25 : decode cX5_bridge 25 = .ok (.ifCond .eq 8, 3) := by decide +kernel
theorem dX5_bridge_28 : decode cX5_bridge 28 = .ok (.iload_n 2, 1) := by decide +kernel
theorem dX5_bridge_29 : decode cX5_bridge 29 = .ok (.iload_n 3, 1) := by decide +kernel
theorem dX5_bridge_30 : decode cX5_bridge 30 = .ok (.if_icmp .ne 5, 3) := by decide +kernel
theorem dX5_bridge_33 : decode cX5_bridge 33 = .ok (.iconst (-1), 1) := by decide +kernel
theorem dX5_bridge_34 : decode cX5_bridge 34 = .ok (.ireturn, 1) := by decide +kernel
theorem dX5_bridge_35 : decode cX5_bridge 35 = .ok (.iload 4, 2) := by decide +kernel
theorem dX5_bridge_37 : decode cX5_bridge 37 = .ok (.i2l, 1) := by decide +kernel
theorem dX5_bridge_38 : decode cX5_bridge 38 = .ok (.lconst 0, 1) := by decide +kernel
theorem dX5_bridge_39 : decode cX5_bridge 39 = .ok (.ldc2_w 134, 3) := by decide +kernel
theorem dX5_bridge_42 : decode cX5_bridge 42 = .ok (.invokestatic 118, 3) := by decide +kernel
theorem dX5_bridge_45 : decode cX5_bridge 45 = .ok (.ifCond .ne 6, 3) := by decide +kernel
theorem dX5_bridge_48 : decode cX5_bridge 48 = .ok (.bipush (-2), 2) := by decide +kernel
theorem dX5_bridge_50 : decode cX5_bridge 50 = .ok (.ireturn, 1) := by decide +kernel
theorem dX5_bridge_51 : decode cX5_bridge 51 = .ok (.aload_n 0, 1) := by decide +kernel
theorem dX5_bridge_52 : decode cX5_bridge 52 = .ok (.getfield 7, 3) := by decide +kernel
theorem dX5_bridge_55 : decode cX5_bridge 55 = .ok (.iload_n 1, 1) := by decide +kernel
theorem dX5_bridge_56 : decode cX5_bridge 56 = .ok (.iload_n 2, 1) := by decide +kernel
theorem dX5_bridge_57 : decode cX5_bridge 57 = .ok (.iload_n 3, 1) := by decide +kernel
theorem dX5_bridge_58 : decode cX5_bridge 58 = .ok (.if_icmp .ge 7, 3) := by decide +kernel
theorem dX5_bridge_61 : decode cX5_bridge 61 = .ok (.iload_n 2, 1) := by decide +kernel
theorem dX5_bridge_62 : decode cX5_bridge 62 = .ok (.goto 4, 3) := by decide +kernel
theorem dX5_bridge_65 : decode cX5_bridge 65 = .ok (.iload_n 3, 1) := by decide +kernel
theorem dX5_bridge_66 : decode cX5_bridge 66 = .ok (.iastore, 1) := by decide +kernel
theorem dX5_bridge_67 : decode cX5_bridge 67 = .ok (.aload_n 0, 1) := by decide +kernel
theorem dX5_bridge_68 : decode cX5_bridge 68 = .ok (.getfield 13, 3) := by decide +kernel
theorem dX5_bridge_71 : decode cX5_bridge 71 = .ok (.iload_n 1, 1) := by decide +kernel
theorem dX5_bridge_72 : decode cX5_bridge 72 = .ok (.iload_n 2, 1) := by decide +kernel
theorem dX5_bridge_73 : decode cX5_bridge 73 = .ok (.iload_n 3, 1) := by decide +kernel
theorem dX5_bridge_74 : decode cX5_bridge 74 = .ok (.if_icmp .ge 7, 3) := by decide +kernel
theorem dX5_bridge_77 : decode cX5_bridge 77 = .ok (.iload_n 3, 1) := by decide +kernel
theorem dX5_bridge_78 : decode cX5_bridge 78 = .ok (.goto 4, 3) := by decide +kernel
theorem dX5_bridge_81 : decode cX5_bridge 81 = .ok (.iload_n 2, 1) := by decide +kernel
theorem dX5_bridge_82 : decode cX5_bridge 82 = .ok (.iastore, 1) := by decide +kernel
theorem dX5_bridge_83 : decode cX5_bridge 83 = .ok (.aload_n 0, 1) := by decide +kernel
theorem dX5_bridge_84 : decode cX5_bridge 84 = .ok (.getfield 16, 3) := by decide +kernel
theorem dX5_bridge_87 : decode cX5_bridge 87 = .ok (.iload_n 1, 1) := by decide +kernel
theorem dX5_bridge_88 : decode cX5_bridge 88 = .ok (.iload 4, 2) := by decide +kernel
theorem dX5_bridge_90 : decode cX5_bridge 90 = .ok (.iastore, 1) := by decide +kernel
theorem dX5_bridge_91 : decode cX5_bridge 91 = .ok (.aload_n 0, 1) := by decide +kernel
theorem dX5_bridge_92 : decode cX5_bridge 92 = .ok (.getfield 19, 3) := by decide +kernel
theorem dX5_bridge_95 : decode cX5_bridge 95 = .ok (.iload_n 1, 1) := by decide +kernel
theorem dX5_bridge_96 : decode cX5_bridge 96 = .ok (.iconst 0, 1) := by decide +kernel
theorem dX5_bridge_97 : decode cX5_bridge 97 = .ok (.iastore, 1) := by decide +kernel
theorem dX5_bridge_98 : decode cX5_bridge 98 = .ok (.aload_n 0, 1) := by decide +kernel
theorem dX5_bridge_99 : decode cX5_bridge 99 = .ok (.dup, 1) := by decide +kernel
theorem dX5_bridge_100 : decode cX5_bridge 100 = .ok (.getfield 106, 3) := by decide +kernel
theorem dX5_bridge_103 : decode cX5_bridge 103 = .ok (.iconst 1, 1) := by decide +kernel
theorem dX5_bridge_104 : decode cX5_bridge 104 = .ok (.iload_n 1, 1) := by decide +kernel
theorem dX5_bridge_105 : decode cX5_bridge 105 = .ok (.ishl, 1) := by decide +kernel
theorem dX5_bridge_106 : decode cX5_bridge 106 = .ok (.ior, 1) := by decide +kernel
theorem dX5_bridge_107 : decode cX5_bridge 107 = .ok (.putfield 106, 3) := by decide +kernel
theorem dX5_bridge_110 : decode cX5_bridge 110 = .ok (.aload_n 0, 1) := by decide +kernel
theorem dX5_bridge_111 : decode cX5_bridge 111 = .ok (.getfield 106, 3) := by decide +kernel
theorem dX5_bridge_114 : decode cX5_bridge 114 = .ok (.invokestatic 136, 3) := by decide +kernel
theorem dX5_bridge_117 : decode cX5_bridge 117 = .ok (.ireturn, 1) := by decide +kernel
theorem dX5_fall_0 : decode cX5_fall 0 = .ok (.aload_n 0, 1) := by decide +kernel
theorem dX5_fall_1 : decode cX5_fall 1 = .ok (.iload_n 1, 1) := by decide +kernel
theorem dX5_fall_2 : decode cX5_fall 2 = .ok (.invokevirtual 140, 3) := by decide +kernel
theorem dX5_fall_5 : decode cX5_fall 5 = .ok (.ifCond .ne 5, 3) := by decide +kernel
theorem dX5_fall_8 : decode cX5_fall 8 = .ok (.iconst (-1), 1) := by decide +kernel
theorem dX5_fall_9 : decode cX5_fall 9 = .ok (.ireturn, 1) := by decide +kernel
theorem dX5_fall_10 : decode cX5_fall 10 = .ok (.aload_n 0, 1) := by decide +kernel
theorem dX5_fall_11 : decode cX5_fall 11 = .ok (.dup, 1) := by decide +kernel
theorem dX5_fall_12 : decode cX5_fall 12 = .ok (.getfield 106, 3) := by decide +kernel
theorem dX5_fall_15 : decode cX5_fall 15 = .ok (.iconst 1, 1) := by decide +kernel
theorem dX5_fall_16 : decode cX5_fall 16 = .ok (.iload_n 1, 1) := by decide +kernel
theorem dX5_fall_17 : decode cX5_fall 17 = .ok (.ishl, 1) := by decide +kernel
theorem dX5_fall_18 : decode cX5_fall 18 = .ok (.iconst (-1), 1) := by decide +kernel
theorem dX5_fall_19 : decode cX5_fall 19 = .ok (.ixor, 1) := by decide +kernel
theorem dX5_fall_20 : decode cX5_fall 20 = .ok (.iand, 1) := by decide +kernel
theorem dX5_fall_21 : decode cX5_fall 21 = .ok (.putfield 106, 3) := by decide +kernel
theorem dX5_fall_24 : decode cX5_fall 24 = .ok (.aload_n 0, 1) := by decide +kernel
theorem dX5_fall_25 : decode cX5_fall 25 = .ok (.getfield 106, 3) := by decide +kernel
theorem dX5_fall_28 : decode cX5_fall 28 = .ok (.invokestatic 136, 3) := by decide +kernel
theorem dX5_fall_31 : decode cX5_fall 31 = .ok (.ireturn, 1) := by decide +kernel
theorem dX5_person_0 : decode cX5_person 0 = .ok (.iload_n 1, 1) := by decide +kernel
theorem dX5_person_1 : decode cX5_person 1 = .ok (.i2l, 1) := by decide +kernel
theorem dX5_person_2 : decode cX5_person 2 = .ok (.lconst 0, 1) := by decide +kernel
theorem dX5_person_3 : decode cX5_person 3 = .ok (.ldc2_w 124, 3) := by decide +kernel
theorem dX5_person_6 : decode cX5_person 6 = .ok (.invokestatic 118, 3) := by decide +kernel
theorem dX5_person_9 : decode cX5_person 9 = .ok (.ifCond .eq 11, 3) := by decide +kernel
theorem dX5_person_12 : decode cX5_person 12 = .ok (.aload_n 0, 1) := by decide +kernel
theorem dX5_person_13 : decode cX5_person 13 = .ok (.iload_n 2, 1) := by decide +kernel
theorem dX5_person_14 : decode cX5_person 14 = .ok (.invokevirtual 130, 3) := by decide +kernel
theorem dX5_person_17 : decode cX5_person 17 = .ok (.ifCond .ne 5, 3) := by decide +kernel
theorem dX5_person_20 : decode cX5_person 20 = .ok (.iconst (-1), 1) := by decide +kernel
theorem dX5_person_21 : decode cX5_person 21 = .ok (.ireturn, 1) := by decide +kernel
theorem dX5_person_22 : decode cX5_person 22 = .ok (.iload_n 3, 1) := by decide +kernel
theorem dX5_person_23 : decode cX5_person 23 = .ok (.i2l, 1) := by decide +kernel
theorem dX5_person_24 : decode cX5_person 24 = .ok (.lconst 0, 1) := by decide +kernel
theorem dX5_person_25 : decode cX5_person 25 = .ok (.ldc2_w 126, 3) := by decide +kernel
theorem dX5_person_28 : decode cX5_person 28 = .ok (.invokestatic 118, 3) := by decide +kernel
theorem dX5_person_31 : decode cX5_person 31 = .ok (.ifCond .ne 6, 3) := by decide +kernel
theorem dX5_person_34 : decode cX5_person 34 = .ok (.bipush (-2), 2) := by decide +kernel
theorem dX5_person_36 : decode cX5_person 36 = .ok (.ireturn, 1) := by decide +kernel
theorem dX5_person_37 : decode cX5_person 37 = .ok (.aload_n 0, 1) := by decide +kernel
theorem dX5_person_38 : decode cX5_person 38 = .ok (.getfield 22, 3) := by decide +kernel
theorem dX5_person_41 : decode cX5_person 41 = .ok (.iload_n 1, 1) := by decide +kernel
theorem dX5_person_42 : decode cX5_person 42 = .ok (.iload_n 2, 1) := by decide +kernel
theorem dX5_person_43 : decode cX5_person 43 = .ok (.iastore, 1) := by decide +kernel
theorem dX5_person_44 : decode cX5_person 44 = .ok (.aload_n 0, 1) := by decide +kernel
theorem dX5_person_45 : decode cX5_person 45 = .ok (.getfield 25, 3) := by decide +kernel
theorem dX5_person_48 : decode cX5_person 48 = .ok (.iload_n 1, 1) := by decide +kernel
theorem dX5_person_49 : decode cX5_person 49 = .ok (.iload_n 3, 1) := by decide +kernel
theorem dX5_person_50 : decode cX5_person 50 = .ok (.iastore, 1) := by decide +kernel
theorem dX5_person_51 : decode cX5_person 51 = .ok (.aload_n 0, 1) := by decide +kernel
theorem dX5_person_52 : decode cX5_person 52 = .ok (.getfield 28, 3) := by decide +kernel
theorem dX5_person_55 : decode cX5_person 55 = .ok (.iload_n 1, 1) := by decide +kernel
theorem dX5_person_56 : decode cX5_person 56 = .ok (.iconst 0, 1) := by decide +kernel
theorem dX5_person_57 : decode cX5_person 57 = .ok (.iastore, 1) := by decide +kernel
theorem dX5_person_58 : decode cX5_person 58 = .ok (.aload_n 0, 1) := by decide +kernel
theorem dX5_person_59 : decode cX5_person 59 = .ok (.dup, 1) := by decide +kernel
theorem dX5_person_60 : decode cX5_person 60 = .ok (.getfield 109, 3) := by decide +kernel
theorem dX5_person_63 : decode cX5_person 63 = .ok (.iconst 1, 1) := by decide +kernel
theorem dX5_person_64 : decode cX5_person 64 = .ok (.iload_n 1, 1) := by decide +kernel
theorem dX5_person_65 : decode cX5_person 65 = .ok (.ishl, 1) := by decide +kernel
theorem dX5_person_66 : decode cX5_person 66 = .ok (.ior, 1) := by decide +kernel
theorem dX5_person_67 : decode cX5_person 67 = .ok (.putfield 109, 3) := by decide +kernel
theorem dX5_person_70 : decode cX5_person 70 = .ok (.aload_n 0, 1) := by decide +kernel
theorem dX5_person_71 : decode cX5_person 71 = .ok (.getfield 109, 3) := by decide +kernel
theorem dX5_person_74 : decode cX5_person 74 = .ok (.invokestatic 136, 3) := by decide +kernel
theorem dX5_person_77 : decode cX5_person 77 = .ok (.ireturn, 1) := by decide +kernel
theorem dX5_leave_0 : decode cX5_leave 0 = .ok (.aload_n 0, 1) := by decide +kernel
theorem dX5_leave_1 : decode cX5_leave 1 = .ok (.iload_n 1, 1) := by decide +kernel
theorem dX5_leave_2 : decode cX5_leave 2 = .ok (.invokevirtual 143, 3) := by decide +kernel
theorem dX5_leave_5 : decode cX5_leave 5 = .ok (.ifCond .ne 5, 3) := by decide +kernel
theorem dX5_leave_8 : decode cX5_leave 8 = .ok (.iconst (-1), 1) := by decide +kernel
theorem dX5_leave_9 : decode cX5_leave 9 = .ok (.ireturn, 1) := by decide +kernel
theorem dX5_leave_10 : decode cX5_leave 10 = .ok (.aload_n 0, 1) := by decide +kernel
theorem dX5_leave_11 : decode cX5_leave 11 = .ok (.dup, 1) := by decide +kernel
theorem dX5_leave_12 : decode cX5_leave 12 = .ok (.getfield 109, 3) := by decide +kernel
theorem dX5_leave_15 : decode cX5_leave 15 = .ok (.iconst 1, 1) := by decide +kernel
theorem dX5_leave_16 : decode cX5_leave 16 = .ok (.iload_n 1, 1) := by decide +kernel
theorem dX5_leave_17 : decode cX5_leave 17 = .ok (.ishl, 1) := by decide +kernel
theorem dX5_leave_18 : decode cX5_leave 18 = .ok (.iconst (-1), 1) := by decide +kernel
theorem dX5_leave_19 : decode cX5_leave 19 = .ok (.ixor, 1) := by decide +kernel
theorem dX5_leave_20 : decode cX5_leave 20 = .ok (.iand, 1) := by decide +kernel
theorem dX5_leave_21 : decode cX5_leave 21 = .ok (.putfield 109, 3) := by decide +kernel
theorem dX5_leave_24 : decode cX5_leave 24 = .ok (.aload_n 0, 1) := by decide +kernel
theorem dX5_leave_25 : decode cX5_leave 25 = .ok (.getfield 109, 3) := by decide +kernel
theorem dX5_leave_28 : decode cX5_leave 28 = .ok (.invokestatic 136, 3) := by decide +kernel
theorem dX5_leave_31 : decode cX5_leave 31 = .ok (.ireturn, 1) := by decide +kernel
theorem dX5_news_0 : decode cX5_news 0 = .ok (.iload_n 1, 1) := by decide +kernel
theorem dX5_news_1 : decode cX5_news 1 = .ok (.invokestatic 146, 3) := by decide +kernel
theorem dX5_news_4 : decode cX5_news 4 = .ok (.ifCond .ne 5, 3) := by decide +kernel
theorem dX5_news_7 : decode cX5_news 7 = .ok (.iconst (-1), 1) := by decide +kernel
theorem dX5_news_8 : decode cX5_news 8 = .ok (.ireturn, 1) := by decide +kernel
theorem dX5_news_9 : decode cX5_news 9 = .ok (.iload_n 2, 1) := by decide +kernel
theorem dX5_news_10 : decode cX5_news 10 = .ok (.i2l, 1) := by decide +kernel
theorem dX5_news_11 : decode cX5_news 11 = .ok (.ldc2_w 149, 3) := by decide +kernel
theorem dX5_news_14 : decode cX5_news 14 = .ok (.ldc2_w 134, 3) := by decide +kernel
theorem dX5_news_17 : decode cX5_news 17 = .ok (.invokestatic 118, 3) := by decide +kernel
theorem dX5_news_20 : decode cX5_news 20 = .ok (.ifCond .eq 15, 3) := by decide +kernel
theorem dX5_news_23 : decode cX5_news 23 = .ok (.iload_n 3, 1) := by decide +kernel
theorem dX5_news_24 : decode cX5_news 24 = .ok (.i2l, 1) := by decide +kernel
theorem dX5_news_25 : decode cX5_news 25 = .ok (.lconst 0, 1) := by decide +kernel
theorem dX5_news_26 : decode cX5_news 26 = .ok (.ldc2_w 151, 3) := by decide +kernel
theorem dX5_news_29 : decode cX5_news 29 = .ok (.invokestatic 118, 3) := by decide +kernel
theorem dX5_news_32 : decode cX5_news 32 = .ok (.ifCond .ne 6, 3) := by decide +kernel
theorem dX5_news_35 : decode cX5_news 35 = .ok (.bipush (-2), 2) := by decide +kernel
theorem dX5_news_37 : decode cX5_news 37 = .ok (.ireturn, 1) := by decide +kernel
theorem dX5_news_38 : decode cX5_news 38 = .ok (.aload_n 0, 1) := by decide +kernel
theorem dX5_news_39 : decode cX5_news 39 = .ok (.getfield 31, 3) := by decide +kernel
theorem dX5_news_42 : decode cX5_news 42 = .ok (.iload_n 1, 1) := by decide +kernel
theorem dX5_news_43 : decode cX5_news 43 = .ok (.iaload, 1) := by decide +kernel
theorem dX5_news_44 : decode cX5_news 44 = .ok (.istore 4, 2) := by decide +kernel
theorem dX5_news_46 : decode cX5_news 46 = .ok (.aload_n 0, 1) := by decide +kernel
theorem dX5_news_47 : decode cX5_news 47 = .ok (.getfield 31, 3) := by decide +kernel
theorem dX5_news_50 : decode cX5_news 50 = .ok (.iload_n 1, 1) := by decide +kernel
theorem dX5_news_51 : decode cX5_news 51 = .ok (.iload_n 2, 1) := by decide +kernel
theorem dX5_news_52 : decode cX5_news 52 = .ok (.iastore, 1) := by decide +kernel
theorem dX5_news_53 : decode cX5_news 53 = .ok (.aload_n 0, 1) := by decide +kernel
theorem dX5_news_54 : decode cX5_news 54 = .ok (.getfield 34, 3) := by decide +kernel
theorem dX5_news_57 : decode cX5_news 57 = .ok (.iload_n 1, 1) := by decide +kernel
theorem dX5_news_58 : decode cX5_news 58 = .ok (.iload_n 3, 1) := by decide +kernel
theorem dX5_news_59 : decode cX5_news 59 = .ok (.iastore, 1) := by decide +kernel
theorem dX5_news_60 : decode cX5_news 60 = .ok (.aload_n 0, 1) := by decide +kernel
theorem dX5_news_61 : decode cX5_news 61 = .ok (.dup, 1) := by decide +kernel
theorem dX5_news_62 : decode cX5_news 62 = .ok (.getfield 112, 3) := by decide +kernel
theorem dX5_news_65 : decode cX5_news 65 = .ok (.iconst 1, 1) := by decide +kernel
theorem dX5_news_66 : decode cX5_news 66 = .ok (.iload_n 1, 1) := by decide +kernel
theorem dX5_news_67 : decode cX5_news 67 = .ok (.ishl, 1) := by decide +kernel
theorem dX5_news_68 : decode cX5_news 68 = .ok (.iconst (-1), 1) := by decide +kernel
theorem dX5_news_69 : decode cX5_news 69 = .ok (.ixor, 1) := by decide +kernel
theorem dX5_news_70 : decode cX5_news 70 = .ok (.iand, 1) := by decide +kernel
theorem dX5_news_71 : decode cX5_news 71 = .ok (.putfield 112, 3) := by decide +kernel
theorem dX5_news_74 : decode cX5_news 74 = .ok (.iload 4, 2) := by decide +kernel
theorem dX5_news_76 : decode cX5_news 76 = .ok (.sipush 1000, 3) := by decide +kernel
theorem dX5_news_79 : decode cX5_news 79 = .ok (.iadd, 1) := by decide +kernel
theorem dX5_news_80 : decode cX5_news 80 = .ok (.ireturn, 1) := by decide +kernel
theorem dX5_learn_0 : decode cX5_learn 0 = .ok (.aload_n 0, 1) := by decide +kernel
theorem dX5_learn_1 : decode cX5_learn 1 = .ok (.iload_n 1, 1) := by decide +kernel
theorem dX5_learn_2 : decode cX5_learn 2 = .ok (.invokevirtual 143, 3) := by decide +kernel
theorem dX5_learn_5 : decode cX5_learn 5 = .ok (.ifCond .eq 10, 3) := by decide +kernel
theorem dX5_learn_8 : decode cX5_learn 8 = .ok (.iload_n 2, 1) := by decide +kernel
theorem dX5_learn_9 : decode cX5_learn 9 = .ok (.invokestatic 146, 3) := by decide +kernel
theorem dX5_learn_12 : decode cX5_learn 12 = .ok (.ifCond .ne 5, 3) := by decide +kernel
theorem dX5_learn_15 : decode cX5_learn 15 = .ok (.iconst (-1), 1) := by decide +kernel
theorem dX5_learn_16 : decode cX5_learn 16 = .ok (.ireturn, 1) := by decide +kernel
theorem dX5_learn_17 : decode cX5_learn 17 = .ok (.iconst 1, 1) := by decide +kernel
theorem dX5_learn_18 : decode cX5_learn 18 = .ok (.iload_n 2, 1) := by decide +kernel
theorem dX5_learn_19 : decode cX5_learn 19 = .ok (.ishl, 1) := by decide +kernel
theorem dX5_learn_20 : decode cX5_learn 20 = .ok (.istore 4, 2) := by decide +kernel
theorem dX5_learn_22 : decode cX5_learn 22 = .ok (.aload_n 0, 1) := by decide +kernel
theorem dX5_learn_23 : decode cX5_learn 23 = .ok (.getfield 28, 3) := by decide +kernel
theorem dX5_learn_26 : decode cX5_learn 26 = .ok (.iload_n 1, 1) := by decide +kernel
theorem dX5_learn_27 : decode cX5_learn 27 = .ok (.iload_n 3, 1) := by decide +kernel
theorem dX5_learn_28 : decode cX5_learn 28 = .ok (.ifCond .eq 15, 3) := by decide +kernel
theorem dX5_learn_31 : decode cX5_learn 31 = .ok (.aload_n 0, 1) := by decide +kernel
theorem dX5_learn_32 : decode cX5_learn 32 = .ok (.getfield 28, 3) := by decide +kernel
theorem dX5_learn_35 : decode cX5_learn 35 = .ok (.iload_n 1, 1) := by decide +kernel
theorem dX5_learn_36 : decode cX5_learn 36 = .ok (.iaload, 1) := by decide +kernel
theorem dX5_learn_37 : decode cX5_learn 37 = .ok (.iload 4, 2) := by decide +kernel
theorem dX5_learn_39 : decode cX5_learn 39 = .ok (.ior, 1) := by decide +kernel
theorem dX5_learn_40 : decode cX5_learn 40 = .ok (.goto 14, 3) := by decide +kernel
theorem dX5_learn_43 : decode cX5_learn 43 = .ok (.aload_n 0, 1) := by decide +kernel
theorem dX5_learn_44 : decode cX5_learn 44 = .ok (.getfield 28, 3) := by decide +kernel
theorem dX5_learn_47 : decode cX5_learn 47 = .ok (.iload_n 1, 1) := by decide +kernel
theorem dX5_learn_48 : decode cX5_learn 48 = .ok (.iaload, 1) := by decide +kernel
theorem dX5_learn_49 : decode cX5_learn 49 = .ok (.iload 4, 2) := by decide +kernel
theorem dX5_learn_51 : decode cX5_learn 51 = .ok (.iconst (-1), 1) := by decide +kernel
theorem dX5_learn_52 : decode cX5_learn 52 = .ok (.ixor, 1) := by decide +kernel
theorem dX5_learn_53 : decode cX5_learn 53 = .ok (.iand, 1) := by decide +kernel
theorem dX5_learn_54 : decode cX5_learn 54 = .ok (.iastore, 1) := by decide +kernel
theorem dX5_learn_55 : decode cX5_learn 55 = .ok (.aload_n 0, 1) := by decide +kernel
theorem dX5_learn_56 : decode cX5_learn 56 = .ok (.getfield 28, 3) := by decide +kernel
theorem dX5_learn_59 : decode cX5_learn 59 = .ok (.iload_n 1, 1) := by decide +kernel
theorem dX5_learn_60 : decode cX5_learn 60 = .ok (.iaload, 1) := by decide +kernel
theorem dX5_learn_61 : decode cX5_learn 61 = .ok (.ireturn, 1) := by decide +kernel
theorem dX5_fade_0 : decode cX5_fade 0 = .ok (.iload_n 1, 1) := by decide +kernel
theorem dX5_fade_1 : decode cX5_fade 1 = .ok (.i2l, 1) := by decide +kernel
theorem dX5_fade_2 : decode cX5_fade 2 = .ok (.lconst 0, 1) := by decide +kernel
theorem dX5_fade_3 : decode cX5_fade 3 = .ok (.ldc2_w 153, 3) := by decide +kernel
theorem dX5_fade_6 : decode cX5_fade 6 = .ok (.invokestatic 118, 3) := by decide +kernel
theorem dX5_fade_9 : decode cX5_fade 9 = .ok (.ifCond .ne 6, 3) := by decide +kernel
theorem dX5_fade_12 : decode cX5_fade 12 = .ok (.bipush (-2), 2) := by decide +kernel
theorem dX5_fade_14 : decode cX5_fade 14 = .ok (.ireturn, 1) := by decide +kernel
theorem dX5_fade_15 : decode cX5_fade 15 = .ok (.aload_n 0, 1) := by decide +kernel
theorem dX5_fade_16 : decode cX5_fade 16 = .ok (.getfield 95, 3) := by decide +kernel
theorem dX5_fade_19 : decode cX5_fade 19 = .ok (.istore_n 2, 1) := by decide +kernel
theorem dX5_fade_20 : decode cX5_fade 20 = .ok (.aload_n 0, 1) := by decide +kernel
theorem dX5_fade_21 : decode cX5_fade 21 = .ok (.iload_n 1, 1) := by decide +kernel
theorem dX5_fade_22 : decode cX5_fade 22 = .ok (.putfield 95, 3) := by decide +kernel
theorem dX5_fade_25 : decode cX5_fade 25 = .ok (.iload_n 2, 1) := by decide +kernel
theorem dX5_fade_26 : decode cX5_fade 26 = .ok (.ireturn, 1) := by decide +kernel
theorem dX5_say_0 : decode cX5_say 0 = .ok (.iload_n 1, 1) := by decide +kernel
theorem dX5_say_1 : decode cX5_say 1 = .ok (.i2l, 1) := by decide +kernel
theorem dX5_say_2 : decode cX5_say 2 = .ok (.ldc2_w 155, 3) := by decide +kernel
theorem dX5_say_5 : decode cX5_say 5 = .ok (.ldc2_w 157, 3) := by decide +kernel
theorem dX5_say_8 : decode cX5_say 8 = .ok (.invokestatic 118, 3) := by decide +kernel
theorem dX5_say_11 : decode cX5_say 11 = .ok (.ifCond .ne 6, 3) := by decide +kernel
theorem dX5_say_14 : decode cX5_say 14 = .ok (.bipush (-2), 2) := by decide +kernel
theorem dX5_say_16 : decode cX5_say 16 = .ok (.ireturn, 1) := by decide +kernel
theorem dX5_say_17 : decode cX5_say 17 = .ok (.aload_n 0, 1) := by decide +kernel
theorem dX5_say_18 : decode cX5_say 18 = .ok (.getfield 159, 3) := by decide +kernel
theorem dX5_say_21 : decode cX5_say 21 = .ok (.bipush 60, 2) := by decide +kernel
theorem dX5_say_23 : decode cX5_say 23 = .ok (.if_icmp .ne 6, 3) := by decide +kernel
theorem dX5_say_26 : decode cX5_say 26 = .ok (.bipush (-4), 2) := by decide +kernel
theorem dX5_say_28 : decode cX5_say 28 = .ok (.ireturn, 1) := by decide +kernel
theorem dX5_say_29 : decode cX5_say 29 = .ok (.aload_n 0, 1) := by decide +kernel
theorem dX5_say_30 : decode cX5_say 30 = .ok (.getfield 43, 3) := by decide +kernel
theorem dX5_say_33 : decode cX5_say 33 = .ok (.aload_n 0, 1) := by decide +kernel
theorem dX5_say_34 : decode cX5_say 34 = .ok (.getfield 159, 3) := by decide +kernel
theorem dX5_say_37 : decode cX5_say 37 = .ok (.iload_n 1, 1) := by decide +kernel
theorem dX5_say_38 : decode cX5_say 38 = .ok (.iastore, 1) := by decide +kernel
theorem dX5_say_39 : decode cX5_say 39 = .ok (.aload_n 0, 1) := by decide +kernel
theorem dX5_say_40 : decode cX5_say 40 = .ok (.dup, 1) := by decide +kernel
theorem dX5_say_41 : decode cX5_say 41 = .ok (.getfield 159, 3) := by decide +kernel
theorem dX5_say_44 : decode cX5_say 44 = .ok (.iconst 1, 1) := by decide +kernel
theorem dX5_say_45 : decode cX5_say 45 = .ok (.iadd, 1) := by decide +kernel
theorem dX5_say_46 : decode cX5_say 46 = .ok (.putfield 159, 3) := by decide +kernel
theorem dX5_say_49 : decode cX5_say 49 = .ok (.aload_n 0, 1) := by decide +kernel
theorem dX5_say_50 : decode cX5_say 50 = .ok (.getfield 159, 3) := by decide +kernel
theorem dX5_say_53 : decode cX5_say 53 = .ok (.ireturn, 1) := by decide +kernel
theorem dX5_wipe_0 : decode cX5_wipe 0 = .ok (.aload_n 0, 1) := by decide +kernel
theorem dX5_wipe_1 : decode cX5_wipe 1 = .ok (.getfield 159, 3) := by decide +kernel
theorem dX5_wipe_4 : decode cX5_wipe 4 = .ok (.istore_n 1, 1) := by decide +kernel
theorem dX5_wipe_5 : decode cX5_wipe 5 = .ok (.aload_n 0, 1) := by decide +kernel
theorem dX5_wipe_6 : decode cX5_wipe 6 = .ok (.iconst 0, 1) := by decide +kernel
theorem dX5_wipe_7 : decode cX5_wipe 7 = .ok (.putfield 159, 3) := by decide +kernel
theorem dX5_wipe_10 : decode cX5_wipe 10 = .ok (.iload_n 1, 1) := by decide +kernel
theorem dX5_wipe_11 : decode cX5_wipe 11 = .ok (.ireturn, 1) := by decide +kernel
theorem dX5_isName_0 : decode cX5_isName 0 = .ok (.iload_n 0, 1) := by decide +kernel
theorem dX5_isName_1 : decode cX5_isName 1 = .ok (.i2l, 1) := by decide +kernel
theorem dX5_isName_2 : decode cX5_isName 2 = .ok (.ldc2_w 162, 3) := by decide +kernel
theorem dX5_isName_5 : decode cX5_isName 5 = .ok (.ldc2_w 164, 3) := by decide +kernel
theorem dX5_isName_8 : decode cX5_isName 8 = .ok (.invokestatic 118, 3) := by decide +kernel
theorem dX5_isName_11 : decode cX5_isName 11 = .ok (.ireturn, 1) := by decide +kernel
theorem dX5_isLetter_0 : decode cX5_isLetter 0 = .ok (.iload_n 0, 1) := by decide +kernel
theorem dX5_isLetter_1 : decode cX5_isLetter 1 = .ok (.i2l, 1) := by decide +kernel
theorem dX5_isLetter_2 : decode cX5_isLetter 2 = .ok (.ldc2_w 166, 3) := by decide +kernel
theorem dX5_isLetter_5 : decode cX5_isLetter 5 = .ok (.ldc2_w 168, 3) := by decide +kernel
theorem dX5_isLetter_8 : decode cX5_isLetter 8 = .ok (.invokestatic 118, 3) := by decide +kernel
theorem dX5_isLetter_11 : decode cX5_isLetter 11 = .ok (.ireturn, 1) := by decide +kernel
theorem dX5_readFirst_0 : decode cX5_readFirst 0 = .ok (.aload_n 0, 1) := by decide +kernel
theorem dX5_readFirst_1 : decode cX5_readFirst 1 = .ok (.getfield 46, 3) := by decide +kernel
theorem dX5_readFirst_4 : decode cX5_readFirst 4 = .ok (.aload_n 0, 1) := by decide +kernel
theorem dX5_readFirst_5 : decode cX5_readFirst 5 = .ok (.getfield 170, 3) := by decide +kernel
theorem dX5_readFirst_8 : decode cX5_readFirst 8 = .ok (.iload_n 1, 1) := by decide +kernel
theorem dX5_readFirst_9 : decode cX5_readFirst 9 = .ok (.bipush 46, 2) := by decide +kernel
theorem dX5_readFirst_11 : decode cX5_readFirst 11 = .ok (.if_icmp .ne 7, 3) := by decide +kernel
theorem dX5_readFirst_14 : decode cX5_readFirst 14 = .ok (.iconst 3, 1) := by decide +kernel
theorem dX5_readFirst_15 : decode cX5_readFirst 15 = .ok (.goto 4, 3) := by decide +kernel
theorem dX5_readFirst_18 : decode cX5_readFirst 18 = .ok (.iconst 2, 1) := by decide +kernel
theorem dX5_readFirst_19 : decode cX5_readFirst 19 = .ok (.iastore, 1) := by decide +kernel
theorem dX5_readFirst_20 : decode cX5_readFirst 20 = .ok (.aload_n 0, 1) := by decide +kernel
theorem dX5_readFirst_21 : decode cX5_readFirst 21 = .ok (.getfield 49, 3) := by decide +kernel
theorem dX5_readFirst_24 : decode cX5_readFirst 24 = .ok (.aload_n 0, 1) := by decide +kernel
theorem dX5_readFirst_25 : decode cX5_readFirst 25 = .ok (.getfield 170, 3) := by decide +kernel
theorem dX5_readFirst_28 : decode cX5_readFirst 28 = .ok (.iload_n 1, 1) := by decide +kernel
theorem dX5_readFirst_29 : decode cX5_readFirst 29 = .ok (.bipush 65, 2) := by decide +kernel
theorem dX5_readFirst_31 : decode cX5_readFirst 31 = .ok (.isub, 1) := by decide +kernel
theorem dX5_readFirst_32 : decode cX5_readFirst 32 = .ok (.iastore, 1) := by decide +kernel
theorem dX5_readFirst_33 : decode cX5_readFirst 33 = .ok (.aload_n 0, 1) := by decide +kernel
theorem dX5_readFirst_34 : decode cX5_readFirst 34 = .ok (.iload_n 1, 1) := by decide +kernel
theorem dX5_readFirst_35 : decode cX5_readFirst 35 = .ok (.bipush 46, 2) := by decide +kernel
theorem dX5_readFirst_37 : decode cX5_readFirst 37 = .ok (.if_icmp .ne 7, 3) := by decide +kernel
theorem dX5_readFirst_40 : decode cX5_readFirst 40 = .ok (.iconst 0, 1) := by decide +kernel
theorem dX5_readFirst_41 : decode cX5_readFirst 41 = .ok (.goto 14, 3) := by decide +kernel
theorem dX5_readFirst_44 : decode cX5_readFirst 44 = .ok (.iload_n 1, 1) := by decide +kernel
theorem dX5_readFirst_45 : decode cX5_readFirst 45 = .ok (.bipush 33, 2) := by decide +kernel
theorem dX5_readFirst_47 : decode cX5_readFirst 47 = .ok (.if_icmp .ne 7, 3) := by decide +kernel
theorem dX5_readFirst_50 : decode cX5_readFirst 50 = .ok (.iconst 3, 1) := by decide +kernel
theorem dX5_readFirst_51 : decode cX5_readFirst 51 = .ok (.goto 4, 3) := by decide +kernel
theorem dX5_readFirst_54 : decode cX5_readFirst 54 = .ok (.iconst 1, 1) := by decide +kernel
theorem dX5_readFirst_55 : decode cX5_readFirst 55 = .ok (.putfield 173, 3) := by decide +kernel
theorem dX5_readFirst_58 : decode cX5_readFirst 58 = .ok (.aload_n 0, 1) := by decide +kernel
theorem dX5_readFirst_59 : decode cX5_readFirst 59 = .ok (.dup, 1) := by decide +kernel
theorem dX5_readFirst_60 : decode cX5_readFirst 60 = .ok (.getfield 170, 3) := by decide +kernel
theorem dX5_readFirst_63 : decode cX5_readFirst 63 = .ok (.iload_n 1, 1) := by decide +kernel
theorem dX5_readFirst_64 : decode cX5_readFirst 64 = .ok (.bipush 46, 2) := by decide +kernel
theorem dX5_readFirst_66 : decode cX5_readFirst 66 = .ok (.if_icmp .ne 7, 3) := by decide +kernel
theorem dX5_readFirst_69 : decode cX5_readFirst 69 = .ok (.iconst 1, 1) := by decide +kernel
theorem dX5_readFirst_70 : decode cX5_readFirst 70 = .ok (.goto 4, 3) := by decide +kernel
theorem dX5_readFirst_73 : decode cX5_readFirst 73 = .ok (.iconst 0, 1) := by decide +kernel
theorem dX5_readFirst_74 : decode cX5_readFirst 74 = .ok (.iadd, 1) := by decide +kernel
theorem dX5_readFirst_75 : decode cX5_readFirst 75 = .ok (.putfield 170, 3) := by decide +kernel
theorem dX5_readFirst_78 : decode cX5_readFirst 78 = .ok (.iload_n 1, 1) := by decide +kernel
theorem dX5_readFirst_79 : decode cX5_readFirst 79 = .ok (.bipush 46, 2) := by decide +kernel
theorem dX5_readFirst_81 : decode cX5_readFirst 81 = .ok (.if_icmp .eq 16, 3) := by decide +kernel
theorem dX5_readFirst_84 : decode cX5_readFirst 84 = .ok (.iload_n 1, 1) := by decide +kernel
theorem dX5_readFirst_85 : decode cX5_readFirst 85 = .ok (.bipush 33, 2) := by decide +kernel
theorem dX5_readFirst_87 : decode cX5_readFirst 87 = .ok (.if_icmp .eq 10, 3) := by decide +kernel
theorem dX5_readFirst_90 : decode cX5_readFirst 90 = .ok (.iload_n 1, 1) := by decide +kernel
theorem dX5_readFirst_91 : decode cX5_readFirst 91 = .ok (.invokestatic 176, 3) := by decide +kernel
theorem dX5_readFirst_94 : decode cX5_readFirst 94 = .ok (.ifCond .eq 7, 3) := by decide +kernel
theorem dX5_readFirst_97 : decode cX5_readFirst 97 = .ok (.iconst 1, 1) := by decide +kernel
theorem dX5_readFirst_98 : decode cX5_readFirst 98 = .ok (.goto 4, 3) := by decide +kernel
theorem dX5_readFirst_101 : decode cX5_readFirst 101 = .ok (.iconst 0, 1) := by decide +kernel
theorem dX5_readFirst_102 : decode cX5_readFirst 102 = .ok (.ireturn, 1) := by decide +kernel
theorem dX5_readSecond_0 : decode cX5_readSecond 0 = .ok (.iload_n 1, 1) := by decide +kernel
theorem dX5_readSecond_1 : decode cX5_readSecond 1 = .ok (.i2l, 1) := by decide +kernel
theorem dX5_readSecond_2 : decode cX5_readSecond 2 = .ok (.ldc2_w 179, 3) := by decide +kernel
theorem dX5_readSecond_5 : decode cX5_readSecond 5 = .ok (.ldc2_w 181, 3) := by decide +kernel
theorem dX5_readSecond_8 : decode cX5_readSecond 8 = .ok (.invokestatic 118, 3) := by decide +kernel
theorem dX5_readSecond_11 : decode cX5_readSecond 11 = .ok (.istore_n 2, 1) := by decide +kernel
theorem dX5_readSecond_12 : decode cX5_readSecond 12 = .ok (.aload_n 0, 1) := by decide +kernel
theorem dX5_readSecond_13 : decode cX5_readSecond 13 = .ok (.getfield 46, 3) := by decide +kernel
theorem dX5_readSecond_16 : decode cX5_readSecond 16 = .ok (.aload_n 0, 1) := by decide +kernel
theorem dX5_readSecond_17 : decode cX5_readSecond 17 = .ok (.getfield 170, 3) := by decide +kernel
theorem dX5_readSecond_20 : decode cX5_readSecond 20 = .ok (.iload_n 2, 1) := by decide +kernel
theorem dX5_readSecond_21 : decode cX5_readSecond 21 = .ok (.ifCond .eq 7, 3) := by decide +kernel
theorem dX5_readSecond_24 : decode cX5_readSecond 24 = .ok (.iconst 1, 1) := by decide +kernel
theorem dX5_readSecond_25 : decode cX5_readSecond 25 = .ok (.goto 4, 3) := by decide +kernel
theorem dX5_readSecond_28 : decode cX5_readSecond 28 = .ok (.iconst 0, 1) := by decide +kernel
theorem dX5_readSecond_29 : decode cX5_readSecond 29 = .ok (.iastore, 1) := by decide +kernel
theorem dX5_readSecond_30 : decode cX5_readSecond 30 = .ok (.aload_n 0, 1) := by decide +kernel
theorem dX5_readSecond_31 : decode cX5_readSecond 31 = .ok (.getfield 52, 3) := by decide +kernel
theorem dX5_readSecond_34 : decode cX5_readSecond 34 = .ok (.aload_n 0, 1) := by decide +kernel
theorem dX5_readSecond_35 : decode cX5_readSecond 35 = .ok (.getfield 170, 3) := by decide +kernel
theorem dX5_readSecond_38 : decode cX5_readSecond 38 = .ok (.iload_n 1, 1) := by decide +kernel
theorem dX5_readSecond_39 : decode cX5_readSecond 39 = .ok (.bipush 65, 2) := by decide +kernel
theorem dX5_readSecond_41 : decode cX5_readSecond 41 = .ok (.isub, 1) := by decide +kernel
theorem dX5_readSecond_42 : decode cX5_readSecond 42 = .ok (.iastore, 1) := by decide +kernel
theorem dX5_readSecond_43 : decode cX5_readSecond 43 = .ok (.aload_n 0, 1) := by decide +kernel
theorem dX5_readSecond_44 : decode cX5_readSecond 44 = .ok (.getfield 55, 3) := by decide +kernel
theorem dX5_readSecond_47 : decode cX5_readSecond 47 = .ok (.aload_n 0, 1) := by decide +kernel
theorem dX5_readSecond_48 : decode cX5_readSecond 48 = .ok (.getfield 170, 3) := by decide +kernel
theorem dX5_readSecond_51 : decode cX5_readSecond 51 = .ok (.iload_n 1, 1) := by decide +kernel
theorem dX5_readSecond_52 : decode cX5_readSecond 52 = .ok (.bipush 48, 2) := by decide +kernel
theorem dX5_readSecond_54 : decode cX5_readSecond 54 = .ok (.isub, 1) := by decide +kernel
theorem dX5_readSecond_55 : decode cX5_readSecond 55 = .ok (.iastore, 1) := by decide +kernel
theorem dX5_readSecond_56 : decode cX5_readSecond 56 = .ok (.aload_n 0, 1) := by decide +kernel
theorem dX5_readSecond_57 : decode cX5_readSecond 57 = .ok (.dup, 1) := by decide +kernel
theorem dX5_readSecond_58 : decode cX5_readSecond 58 = .ok (.getfield 170, 3) := by decide +kernel
theorem dX5_readSecond_61 : decode cX5_readSecond 61 = .ok (.iload_n 2, 1) := by decide +kernel
theorem dX5_readSecond_62 : decode cX5_readSecond 62 = .ok (.ifCond .eq 7, 3) := by decide +kernel
theorem dX5_readSecond_65 : decode cX5_readSecond 65 = .ok (.iconst 1, 1) := by decide +kernel
theorem dX5_readSecond_66 : decode cX5_readSecond 66 = .ok (.goto 4, 3) := by decide +kernel
theorem dX5_readSecond_69 : decode cX5_readSecond 69 = .ok (.iconst 0, 1) := by decide +kernel
theorem dX5_readSecond_70 : decode cX5_readSecond 70 = .ok (.iadd, 1) := by decide +kernel
theorem dX5_readSecond_71 : decode cX5_readSecond 71 = .ok (.putfield 170, 3) := by decide +kernel
theorem dX5_readSecond_74 : decode cX5_readSecond 74 = .ok (.aload_n 0, 1) := by decide +kernel
theorem dX5_readSecond_75 : decode cX5_readSecond 75 = .ok (.iload_n 2, 1) := by decide +kernel
theorem dX5_readSecond_76 : decode cX5_readSecond 76 = .ok (.ifCond .eq 7, 3) := by decide +kernel
theorem dX5_readSecond_79 : decode cX5_readSecond 79 = .ok (.iconst 0, 1) := by decide +kernel
theorem dX5_readSecond_80 : decode cX5_readSecond 80 = .ok (.goto 4, 3) := by decide +kernel
theorem dX5_readSecond_83 : decode cX5_readSecond 83 = .ok (.iconst 2, 1) := by decide +kernel
theorem dX5_readSecond_84 : decode cX5_readSecond 84 = .ok (.putfield 173, 3) := by decide +kernel
theorem dX5_readSecond_87 : decode cX5_readSecond 87 = .ok (.iload_n 2, 1) := by decide +kernel
theorem dX5_readSecond_88 : decode cX5_readSecond 88 = .ok (.ifCond .ne 10, 3) := by decide +kernel
theorem dX5_readSecond_91 : decode cX5_readSecond 91 = .ok (.iload_n 1, 1) := by decide +kernel
theorem dX5_readSecond_92 : decode cX5_readSecond 92 = .ok (.invokestatic 176, 3) := by decide +kernel
theorem dX5_readSecond_95 : decode cX5_readSecond 95 = .ok (.ifCond .eq 7, 3) := by decide +kernel
theorem dX5_readSecond_98 : decode cX5_readSecond 98 = .ok (.iconst 1, 1) := by decide +kernel
theorem dX5_readSecond_99 : decode cX5_readSecond 99 = .ok (.goto 4, 3) := by decide +kernel
theorem dX5_readSecond_102 : decode cX5_readSecond 102 = .ok (.iconst 0, 1) := by decide +kernel
theorem dX5_readSecond_103 : decode cX5_readSecond 103 = .ok (.ireturn, 1) := by decide +kernel
theorem dX5_readNews_0 : decode cX5_readNews 0 = .ok (.aload_n 0, 1) := by decide +kernel
theorem dX5_readNews_1 : decode cX5_readNews 1 = .ok (.getfield 55, 3) := by decide +kernel
theorem dX5_readNews_4 : decode cX5_readNews 4 = .ok (.aload_n 0, 1) := by decide +kernel
theorem dX5_readNews_5 : decode cX5_readNews 5 = .ok (.getfield 170, 3) := by decide +kernel
theorem dX5_readNews_8 : decode cX5_readNews 8 = .ok (.iload_n 1, 1) := by decide +kernel
theorem dX5_readNews_9 : decode cX5_readNews 9 = .ok (.bipush 97, 2) := by decide +kernel
theorem dX5_readNews_11 : decode cX5_readNews 11 = .ok (.isub, 1) := by decide +kernel
theorem dX5_readNews_12 : decode cX5_readNews 12 = .ok (.iastore, 1) := by decide +kernel
theorem dX5_readNews_13 : decode cX5_readNews 13 = .ok (.aload_n 0, 1) := by decide +kernel
theorem dX5_readNews_14 : decode cX5_readNews 14 = .ok (.dup, 1) := by decide +kernel
theorem dX5_readNews_15 : decode cX5_readNews 15 = .ok (.getfield 170, 3) := by decide +kernel
theorem dX5_readNews_18 : decode cX5_readNews 18 = .ok (.iconst 1, 1) := by decide +kernel
theorem dX5_readNews_19 : decode cX5_readNews 19 = .ok (.iadd, 1) := by decide +kernel
theorem dX5_readNews_20 : decode cX5_readNews 20 = .ok (.putfield 170, 3) := by decide +kernel
theorem dX5_readNews_23 : decode cX5_readNews 23 = .ok (.aload_n 0, 1) := by decide +kernel
theorem dX5_readNews_24 : decode cX5_readNews 24 = .ok (.iconst 0, 1) := by decide +kernel
theorem dX5_readNews_25 : decode cX5_readNews 25 = .ok (.putfield 173, 3) := by decide +kernel
theorem dX5_readNews_28 : decode cX5_readNews 28 = .ok (.iload_n 1, 1) := by decide +kernel
theorem dX5_readNews_29 : decode cX5_readNews 29 = .ok (.invokestatic 183, 3) := by decide +kernel
theorem dX5_readNews_32 : decode cX5_readNews 32 = .ok (.ireturn, 1) := by decide +kernel
theorem dX5_fault_0 : decode cX5_fault 0 = .ok (.aload_n 0, 1) := by decide +kernel
theorem dX5_fault_1 : decode cX5_fault 1 = .ok (.iconst 0, 1) := by decide +kernel
theorem dX5_fault_2 : decode cX5_fault 2 = .ok (.putfield 170, 3) := by decide +kernel
theorem dX5_fault_5 : decode cX5_fault 5 = .ok (.aload_n 0, 1) := by decide +kernel
theorem dX5_fault_6 : decode cX5_fault 6 = .ok (.iconst 0, 1) := by decide +kernel
theorem dX5_fault_7 : decode cX5_fault 7 = .ok (.putfield 173, 3) := by decide +kernel
theorem dX5_fault_10 : decode cX5_fault 10 = .ok (.iconst 0, 1) := by decide +kernel
theorem dX5_fault_11 : decode cX5_fault 11 = .ok (.istore_n 1, 1) := by decide +kernel
theorem dX5_fault_12 : decode cX5_fault 12 = .ok (.iload_n 1, 1) := by decide +kernel
theorem dX5_fault_13 : decode cX5_fault 13 = .ok (.aload_n 0, 1) := by decide +kernel
theorem dX5_fault_14 : decode cX5_fault 14 = .ok (.getfield 159, 3) := by decide +kernel
theorem dX5_fault_17 : decode cX5_fault 17 = .ok (.if_icmp .ge 67, 3) := by decide +kernel
theorem dX5_fault_20 : decode cX5_fault 20 = .ok (.aload_n 0, 1) := by decide +kernel
theorem dX5_fault_21 : decode cX5_fault 21 = .ok (.getfield 173, 3) := by decide +kernel
theorem dX5_fault_24 : decode cX5_fault 24 = .ok (.ifCond .ne 16, 3) := by decide +kernel
theorem dX5_fault_27 : decode cX5_fault 27 = .ok (.aload_n 0, 1) := by decide +kernel
theorem dX5_fault_28 : decode cX5_fault 28 = .ok (.aload_n 0, 1) := by decide +kernel
theorem dX5_fault_29 : decode cX5_fault 29 = .ok (.getfield 43, 3) := by decide +kernel
theorem dX5_fault_32 : decode cX5_fault 32 = .ok (.iload_n 1, 1) := by decide +kernel
theorem dX5_fault_33 : decode cX5_fault 33 = .ok (.iaload, 1) := by decide +kernel
theorem dX5_fault_34 : decode cX5_fault 34 = .ok (.invokevirtual 186, 3) := by decide +kernel
theorem dX5_fault_37 : decode cX5_fault 37 = .ok (.goto 34, 3) := by decide +kernel
theorem dX5_fault_40 : decode cX5_fault 40 = .ok (.aload_n 0, 1) := by decide +kernel
theorem dX5_fault_41 : decode cX5_fault 41 = .ok (.getfield 173, 3) := by decide +kernel
theorem dX5_fault_44 : decode cX5_fault 44 = .ok (.iconst 1, 1) := by decide +kernel
theorem dX5_fault_45 : decode cX5_fault 45 = .ok (.if_icmp .ne 16, 3) := by decide +kernel
theorem dX5_fault_48 : decode cX5_fault 48 = .ok (.aload_n 0, 1) := by decide +kernel
theorem dX5_fault_49 : decode cX5_fault 49 = .ok (.aload_n 0, 1) := by decide +kernel
theorem dX5_fault_50 : decode cX5_fault 50 = .ok (.getfield 43, 3) := by decide +kernel
theorem dX5_fault_53 : decode cX5_fault 53 = .ok (.iload_n 1, 1) := by decide +kernel
theorem dX5_fault_54 : decode cX5_fault 54 = .ok (.iaload, 1) := by decide +kernel
theorem dX5_fault_55 : decode cX5_fault 55 = .ok (.invokevirtual 189, 3) := by decide +kernel
theorem dX5_fault_58 : decode cX5_fault 58 = .ok (.goto 13, 3) := by decide +kernel
theorem dX5_fault_61 : decode cX5_fault 61 = .ok (.aload_n 0, 1) := by decide +kernel
theorem dX5_fault_62 : decode cX5_fault 62 = .ok (.aload_n 0, 1) := by decide +kernel
theorem dX5_fault_63 : decode cX5_fault 63 = .ok (.getfield 43, 3) := by decide +kernel
theorem dX5_fault_66 : decode cX5_fault 66 = .ok (.iload_n 1, 1) := by decide +kernel
theorem dX5_fault_67 : decode cX5_fault 67 = .ok (.iaload, 1) := by decide +kernel
theorem dX5_fault_68 : decode cX5_fault 68 = .ok (.invokevirtual 192, 3) := by decide +kernel
theorem dX5_fault_71 : decode cX5_fault 71 = .ok (.istore_n 2, 1) := by decide +kernel
theorem dX5_fault_72 : decode cX5_fault 72 = .ok (.iload_n 2, 1) := by decide +kernel
theorem dX5_fault_73 : decode cX5_fault 73 = .ok (.ifCond .ne 5, 3) := by decide +kernel
theorem dX5_fault_76 : decode cX5_fault 76 = .ok (.iload_n 1, 1) := by decide +kernel
theorem dX5_fault_77 : decode cX5_fault 77 = .ok (.ireturn, 1) := by decide +kernel
theorem dX5_fault_78 : decode cX5_fault 78 = .ok (.iinc 1 1, 3) := by decide +kernel
theorem dX5_fault_81 : decode cX5_fault 81 = .ok (.goto (-69), 3) := by decide +kernel
theorem dX5_fault_84 : decode cX5_fault 84 = .ok (.aload_n 0, 1) := by decide +kernel
theorem dX5_fault_85 : decode cX5_fault 85 = .ok (.getfield 173, 3) := by decide +kernel
theorem dX5_fault_88 : decode cX5_fault 88 = .ok (.ifCond .ne 8, 3) := by decide +kernel
theorem dX5_fault_91 : decode cX5_fault 91 = .ok (.bipush (-6), 2) := by decide +kernel
theorem dX5_fault_93 : decode cX5_fault 93 = .ok (.goto 7, 3) := by decide +kernel
theorem dX5_fault_96 : decode cX5_fault 96 = .ok (.aload_n 0, 1) := by decide +kernel
theorem dX5_fault_97 : decode cX5_fault 97 = .ok (.getfield 159, 3) := by decide +kernel
theorem dX5_fault_100 : decode cX5_fault 100 = .ok (.ireturn, 1) := by decide +kernel
theorem dX5_knowers_0 : decode cX5_knowers 0 = .ok (.iconst 0, 1) := by decide +kernel
theorem dX5_knowers_1 : decode cX5_knowers 1 = .ok (.istore_n 2, 1) := by decide +kernel
theorem dX5_knowers_2 : decode cX5_knowers 2 = .ok (.iconst 0, 1) := by decide +kernel
theorem dX5_knowers_3 : decode cX5_knowers 3 = .ok (.istore_n 3, 1) := by decide +kernel
theorem dX5_knowers_4 : decode cX5_knowers 4 = .ok (.iload_n 3, 1) := by decide +kernel
theorem dX5_knowers_5 : decode cX5_knowers 5 = .ok (.bipush 6, 2) := by decide +kernel
theorem dX5_knowers_7 : decode cX5_knowers 7 = .ok (.if_icmp .ge 34, 3) := by decide +kernel
theorem dX5_knowers_10 : decode cX5_knowers 10 = .ok (.iload_n 2, 1) := by decide +kernel
theorem dX5_knowers_11 : decode cX5_knowers 11 = .ok (.aload_n 0, 1) := by decide +kernel
theorem dX5_knowers_12 : decode cX5_knowers 12 = .ok (.iload_n 3, 1) := by decide +kernel
theorem dX5_knowers_13 : decode cX5_knowers 13 = .ok (.invokevirtual 143, 3) := by decide +kernel
theorem dX5_knowers_16 : decode cX5_knowers 16 = .ok (.ifCond .eq 16, 3) := by decide +kernel
theorem dX5_knowers_19 : decode cX5_knowers 19 = .ok (.aload_n 0, 1) := by decide +kernel
theorem dX5_knowers_20 : decode cX5_knowers 20 = .ok (.getfield 28, 3) := by decide +kernel
theorem dX5_knowers_23 : decode cX5_knowers 23 = .ok (.iload_n 3, 1) := by decide +kernel
theorem dX5_knowers_24 : decode cX5_knowers 24 = .ok (.iaload, 1) := by decide +kernel
theorem dX5_knowers_25 : decode cX5_knowers 25 = .ok (.iload_n 1, 1) := by decide +kernel
theorem dX5_knowers_26 : decode cX5_knowers 26 = .ok (.ishr, 1) := by decide +kernel
theorem dX5_knowers_27 : decode cX5_knowers 27 = .ok (.iconst 1, 1) := by decide +kernel
theorem dX5_knowers_28 : decode cX5_knowers 28 = .ok (.iand, 1) := by decide +kernel
theorem dX5_knowers_29 : decode cX5_knowers 29 = .ok (.goto 4, 3) := by decide +kernel
theorem dX5_knowers_32 : decode cX5_knowers 32 = .ok (.iconst 0, 1) := by decide +kernel
theorem dX5_knowers_33 : decode cX5_knowers 33 = .ok (.iadd, 1) := by decide +kernel
theorem dX5_knowers_34 : decode cX5_knowers 34 = .ok (.istore_n 2, 1) := by decide +kernel
theorem dX5_knowers_35 : decode cX5_knowers 35 = .ok (.iinc 3 1, 3) := by decide +kernel
theorem dX5_knowers_38 : decode cX5_knowers 38 = .ok (.goto (-34), 3) := by decide +kernel
theorem dX5_knowers_41 : decode cX5_knowers 41 = .ok (.iload_n 2, 1) := by decide +kernel
theorem dX5_knowers_42 : decode cX5_knowers 42 = .ok (.ireturn, 1) := by decide +kernel
theorem dX5_heavyBy_0 : decode cX5_heavyBy 0 = .ok (.aload_n 0, 1) := by decide +kernel
theorem dX5_heavyBy_1 : decode cX5_heavyBy 1 = .ok (.getfield 34, 3) := by decide +kernel
theorem dX5_heavyBy_4 : decode cX5_heavyBy 4 = .ok (.iload_n 2, 1) := by decide +kernel
theorem dX5_heavyBy_5 : decode cX5_heavyBy 5 = .ok (.iaload, 1) := by decide +kernel
theorem dX5_heavyBy_6 : decode cX5_heavyBy 6 = .ok (.aload_n 0, 1) := by decide +kernel
theorem dX5_heavyBy_7 : decode cX5_heavyBy 7 = .ok (.getfield 25, 3) := by decide +kernel
theorem dX5_heavyBy_10 : decode cX5_heavyBy 10 = .ok (.iload_n 1, 1) := by decide +kernel
theorem dX5_heavyBy_11 : decode cX5_heavyBy 11 = .ok (.iaload, 1) := by decide +kernel
theorem dX5_heavyBy_12 : decode cX5_heavyBy 12 = .ok (.if_icmp .ne 7, 3) := by decide +kernel
theorem dX5_heavyBy_15 : decode cX5_heavyBy 15 = .ok (.iconst 2, 1) := by decide +kernel
theorem dX5_heavyBy_16 : decode cX5_heavyBy 16 = .ok (.goto 4, 3) := by decide +kernel
theorem dX5_heavyBy_19 : decode cX5_heavyBy 19 = .ok (.iconst 1, 1) := by decide +kernel
theorem dX5_heavyBy_20 : decode cX5_heavyBy 20 = .ok (.istore 4, 2) := by decide +kernel
theorem dX5_heavyBy_22 : decode cX5_heavyBy 22 = .ok (.aload_n 0, 1) := by decide +kernel
theorem dX5_heavyBy_23 : decode cX5_heavyBy 23 = .ok (.getfield 112, 3) := by decide +kernel
theorem dX5_heavyBy_26 : decode cX5_heavyBy 26 = .ok (.iload_n 2, 1) := by decide +kernel
theorem dX5_heavyBy_27 : decode cX5_heavyBy 27 = .ok (.ishr, 1) := by decide +kernel
theorem dX5_heavyBy_28 : decode cX5_heavyBy 28 = .ok (.iconst 1, 1) := by decide +kernel
theorem dX5_heavyBy_29 : decode cX5_heavyBy 29 = .ok (.iand, 1) := by decide +kernel
theorem dX5_heavyBy_30 : decode cX5_heavyBy 30 = .ok (.iconst 1, 1) := by decide +kernel
theorem dX5_heavyBy_31 : decode cX5_heavyBy 31 = .ok (.if_icmp .ne 7, 3) := by decide +kernel
theorem dX5_heavyBy_34 : decode cX5_heavyBy 34 = .ok (.iconst 0, 1) := by decide +kernel
theorem dX5_heavyBy_35 : decode cX5_heavyBy 35 = .ok (.goto 14, 3) := by decide +kernel
theorem dX5_heavyBy_38 : decode cX5_heavyBy 38 = .ok (.aload_n 0, 1) := by decide +kernel
theorem dX5_heavyBy_39 : decode cX5_heavyBy 39 = .ok (.getfield 31, 3) := by decide +kernel
theorem dX5_heavyBy_42 : decode cX5_heavyBy 42 = .ok (.iload_n 2, 1) := by decide +kernel
theorem dX5_heavyBy_43 : decode cX5_heavyBy 43 = .ok (.iaload, 1) := by decide +kernel
theorem dX5_heavyBy_44 : decode cX5_heavyBy 44 = .ok (.iload 4, 2) := by decide +kernel
theorem dX5_heavyBy_46 : decode cX5_heavyBy 46 = .ok (.imul, 1) := by decide +kernel
theorem dX5_heavyBy_47 : decode cX5_heavyBy 47 = .ok (.iload_n 3, 1) := by decide +kernel
theorem dX5_heavyBy_48 : decode cX5_heavyBy 48 = .ok (.idiv, 1) := by decide +kernel
theorem dX5_heavyBy_49 : decode cX5_heavyBy 49 = .ok (.ireturn, 1) := by decide +kernel
theorem dX5_sumOf_0 : decode cX5_sumOf 0 = .ok (.iconst 0, 1) := by decide +kernel
theorem dX5_sumOf_1 : decode cX5_sumOf 1 = .ok (.istore_n 3, 1) := by decide +kernel
theorem dX5_sumOf_2 : decode cX5_sumOf 2 = .ok (.iconst 0, 1) := by decide +kernel
theorem dX5_sumOf_3 : decode cX5_sumOf 3 = .ok (.istore 4, 2) := by decide +kernel
theorem dX5_sumOf_5 : decode cX5_sumOf 5 = .ok (.iload 4, 2) := by decide +kernel
theorem dX5_sumOf_7 : decode cX5_sumOf 7 = .ok (.bipush 8, 2) := by decide +kernel
theorem dX5_sumOf_9 : decode cX5_sumOf 9 = .ok (.if_icmp .ge 39, 3) := by decide +kernel
theorem dX5_sumOf_12 : decode cX5_sumOf 12 = .ok (.iload_n 3, 1) := by decide +kernel
theorem dX5_sumOf_13 : decode cX5_sumOf 13 = .ok (.iload_n 2, 1) := by decide +kernel
theorem dX5_sumOf_14 : decode cX5_sumOf 14 = .ok (.iload 4, 2) := by decide +kernel
theorem dX5_sumOf_16 : decode cX5_sumOf 16 = .ok (.ishr, 1) := by decide +kernel
theorem dX5_sumOf_17 : decode cX5_sumOf 17 = .ok (.iconst 1, 1) := by decide +kernel
theorem dX5_sumOf_18 : decode cX5_sumOf 18 = .ok (.iand, 1) := by decide +kernel
theorem dX5_sumOf_19 : decode cX5_sumOf 19 = .ok (.iconst 1, 1) := by decide +kernel
theorem dX5_sumOf_20 : decode cX5_sumOf 20 = .ok (.if_icmp .ne 19, 3) := by decide +kernel
theorem dX5_sumOf_23 : decode cX5_sumOf 23 = .ok (.aload_n 0, 1) := by decide +kernel
theorem dX5_sumOf_24 : decode cX5_sumOf 24 = .ok (.iload_n 1, 1) := by decide +kernel
theorem dX5_sumOf_25 : decode cX5_sumOf 25 = .ok (.iload 4, 2) := by decide +kernel
theorem dX5_sumOf_27 : decode cX5_sumOf 27 = .ok (.aload_n 0, 1) := by decide +kernel
theorem dX5_sumOf_28 : decode cX5_sumOf 28 = .ok (.iload 4, 2) := by decide +kernel
theorem dX5_sumOf_30 : decode cX5_sumOf 30 = .ok (.invokevirtual 195, 3) := by decide +kernel
theorem dX5_sumOf_33 : decode cX5_sumOf 33 = .ok (.invokevirtual 198, 3) := by decide +kernel
theorem dX5_sumOf_36 : decode cX5_sumOf 36 = .ok (.goto 4, 3) := by decide +kernel
theorem dX5_sumOf_39 : decode cX5_sumOf 39 = .ok (.iconst 0, 1) := by decide +kernel
theorem dX5_sumOf_40 : decode cX5_sumOf 40 = .ok (.iadd, 1) := by decide +kernel
theorem dX5_sumOf_41 : decode cX5_sumOf 41 = .ok (.istore_n 3, 1) := by decide +kernel
theorem dX5_sumOf_42 : decode cX5_sumOf 42 = .ok (.iinc 4 1, 3) := by decide +kernel
theorem dX5_sumOf_45 : decode cX5_sumOf 45 = .ok (.goto (-40), 3) := by decide +kernel
theorem dX5_sumOf_48 : decode cX5_sumOf 48 = .ok (.iload_n 3, 1) := by decide +kernel
theorem dX5_sumOf_49 : decode cX5_sumOf 49 = .ok (.ireturn, 1) := by decide +kernel
theorem dX5_carriedBy_0 : decode cX5_carriedBy 0 = .ok (.aload_n 0, 1) := by decide +kernel
theorem dX5_carriedBy_1 : decode cX5_carriedBy 1 = .ok (.iload_n 1, 1) := by decide +kernel
theorem dX5_carriedBy_2 : decode cX5_carriedBy 2 = .ok (.aload_n 0, 1) := by decide +kernel
theorem dX5_carriedBy_3 : decode cX5_carriedBy 3 = .ok (.getfield 28, 3) := by decide +kernel
theorem dX5_carriedBy_6 : decode cX5_carriedBy 6 = .ok (.iload_n 1, 1) := by decide +kernel
theorem dX5_carriedBy_7 : decode cX5_carriedBy 7 = .ok (.iaload, 1) := by decide +kernel
theorem dX5_carriedBy_8 : decode cX5_carriedBy 8 = .ok (.invokevirtual 202, 3) := by decide +kernel
theorem dX5_carriedBy_11 : decode cX5_carriedBy 11 = .ok (.istore_n 2, 1) := by decide +kernel
theorem dX5_carriedBy_12 : decode cX5_carriedBy 12 = .ok (.iload_n 2, 1) := by decide +kernel
theorem dX5_carriedBy_13 : decode cX5_carriedBy 13 = .ok (.ifCond .le 7, 3) := by decide +kernel
theorem dX5_carriedBy_16 : decode cX5_carriedBy 16 = .ok (.iload_n 2, 1) := by decide +kernel
theorem dX5_carriedBy_17 : decode cX5_carriedBy 17 = .ok (.goto 4, 3) := by decide +kernel
theorem dX5_carriedBy_20 : decode cX5_carriedBy 20 = .ok (.iconst 0, 1) := by decide +kernel
theorem dX5_carriedBy_21 : decode cX5_carriedBy 21 = .ok (.ireturn, 1) := by decide +kernel
theorem dX5_passNight_0 : decode cX5_passNight 0 = .ok (.iconst 0, 1) := by decide +kernel
theorem dX5_passNight_1 : decode cX5_passNight 1 = .ok (.istore_n 1, 1) := by decide +kernel
theorem dX5_passNight_2 : decode cX5_passNight 2 = .ok (.iload_n 1, 1) := by decide +kernel
theorem dX5_passNight_3 : decode cX5_passNight 3 = .ok (.bipush 8, 2) := by decide +kernel
theorem dX5_passNight_5 : decode cX5_passNight 5 = .ok (.if_icmp .ge 54, 3) := by decide +kernel
theorem dX5_passNight_8 : decode cX5_passNight 8 = .ok (.aload_n 0, 1) := by decide +kernel
theorem dX5_passNight_9 : decode cX5_passNight 9 = .ok (.getfield 31, 3) := by decide +kernel
theorem dX5_passNight_12 : decode cX5_passNight 12 = .ok (.iload_n 1, 1) := by decide +kernel
theorem dX5_passNight_13 : decode cX5_passNight 13 = .ok (.iaload, 1) := by decide +kernel
theorem dX5_passNight_14 : decode cX5_passNight 14 = .ok (.aload_n 0, 1) := by decide +kernel
theorem dX5_passNight_15 : decode cX5_passNight 15 = .ok (.getfield 95, 3) := by decide +kernel
theorem dX5_passNight_18 : decode cX5_passNight 18 = .ok (.isub, 1) := by decide +kernel
theorem dX5_passNight_19 : decode cX5_passNight 19 = .ok (.istore_n 2, 1) := by decide +kernel
theorem dX5_passNight_20 : decode cX5_passNight 20 = .ok (.aload_n 0, 1) := by decide +kernel
theorem dX5_passNight_21 : decode cX5_passNight 21 = .ok (.getfield 31, 3) := by decide +kernel
theorem dX5_passNight_24 : decode cX5_passNight 24 = .ok (.iload_n 1, 1) := by decide +kernel
theorem dX5_passNight_25 : decode cX5_passNight 25 = .ok (.aload_n 0, 1) := by decide +kernel
theorem dX5_passNight_26 : decode cX5_passNight 26 = .ok (.getfield 31, 3) := by decide +kernel
theorem dX5_passNight_29 : decode cX5_passNight 29 = .ok (.iload_n 1, 1) := by decide +kernel
theorem dX5_passNight_30 : decode cX5_passNight 30 = .ok (.iaload, 1) := by decide +kernel
theorem dX5_passNight_31 : decode cX5_passNight 31 = .ok (.ifCond .gt 12, 3) := by decide +kernel
theorem dX5_passNight_34 : decode cX5_passNight 34 = .ok (.aload_n 0, 1) := by decide +kernel
theorem dX5_passNight_35 : decode cX5_passNight 35 = .ok (.getfield 31, 3) := by decide +kernel
theorem dX5_passNight_38 : decode cX5_passNight 38 = .ok (.iload_n 1, 1) := by decide +kernel
theorem dX5_passNight_39 : decode cX5_passNight 39 = .ok (.iaload, 1) := by decide +kernel
theorem dX5_passNight_40 : decode cX5_passNight 40 = .ok (.goto 12, 3) := by decide +kernel
theorem dX5_passNight_43 : decode cX5_passNight 43 = .ok (.iload_n 2, 1) := by decide +kernel
theorem dX5_passNight_44 : decode cX5_passNight 44 = .ok (.ifCond .le 7, 3) := by decide +kernel
theorem dX5_passNight_47 : decode cX5_passNight 47 = .ok (.iload_n 2, 1) := by decide +kernel
theorem dX5_passNight_48 : decode cX5_passNight 48 = .ok (.goto 4, 3) := by decide +kernel
theorem dX5_passNight_51 : decode cX5_passNight 51 = .ok (.iconst 0, 1) := by decide +kernel
theorem dX5_passNight_52 : decode cX5_passNight 52 = .ok (.iastore, 1) := by decide +kernel
theorem dX5_passNight_53 : decode cX5_passNight 53 = .ok (.iinc 1 1, 3) := by decide +kernel
theorem dX5_passNight_56 : decode cX5_passNight 56 = .ok (.goto (-54), 3) := by decide +kernel
theorem dX5_passNight_59 : decode cX5_passNight 59 = .ok (.return_, 1) := by decide +kernel
theorem dX5_heavy_0 : decode cX5_heavy 0 = .ok (.aload_n 0, 1) := by decide +kernel
theorem dX5_heavy_1 : decode cX5_heavy 1 = .ok (.iload_n 1, 1) := by decide +kernel
theorem dX5_heavy_2 : decode cX5_heavy 2 = .ok (.invokevirtual 143, 3) := by decide +kernel
theorem dX5_heavy_5 : decode cX5_heavy 5 = .ok (.ifCond .eq 10, 3) := by decide +kernel
theorem dX5_heavy_8 : decode cX5_heavy 8 = .ok (.iload_n 2, 1) := by decide +kernel
theorem dX5_heavy_9 : decode cX5_heavy 9 = .ok (.invokestatic 146, 3) := by decide +kernel
theorem dX5_heavy_12 : decode cX5_heavy 12 = .ok (.ifCond .ne 5, 3) := by decide +kernel
theorem dX5_heavy_15 : decode cX5_heavy 15 = .ok (.iconst (-1), 1) := by decide +kernel
theorem dX5_heavy_16 : decode cX5_heavy 16 = .ok (.ireturn, 1) := by decide +kernel
theorem dX5_heavy_17 : decode cX5_heavy 17 = .ok (.aload_n 0, 1) := by decide +kernel
theorem dX5_heavy_18 : decode cX5_heavy 18 = .ok (.getfield 28, 3) := by decide +kernel
theorem dX5_heavy_21 : decode cX5_heavy 21 = .ok (.iload_n 1, 1) := by decide +kernel
theorem dX5_heavy_22 : decode cX5_heavy 22 = .ok (.iaload, 1) := by decide +kernel
theorem dX5_heavy_23 : decode cX5_heavy 23 = .ok (.iload_n 2, 1) := by decide +kernel
theorem dX5_heavy_24 : decode cX5_heavy 24 = .ok (.ishr, 1) := by decide +kernel
theorem dX5_heavy_25 : decode cX5_heavy 25 = .ok (.iconst 1, 1) := by decide +kernel
theorem dX5_heavy_26 : decode cX5_heavy 26 = .ok (.iand, 1) := by decide +kernel
theorem dX5_heavy_27 : decode cX5_heavy 27 = .ok (.ifCond .ne 8, 3) := by decide +kernel
theorem dX5_heavy_30 : decode cX5_heavy 30 = .ok (.bipush (-6), 2) := by decide +kernel
theorem dX5_heavy_32 : decode cX5_heavy 32 = .ok (.goto 18, 3) := by decide +kernel
theorem dX5_heavy_35 : decode cX5_heavy 35 = .ok (.aload_n 0, 1) := by decide +kernel
theorem dX5_heavy_36 : decode cX5_heavy 36 = .ok (.iload_n 1, 1) := by decide +kernel
theorem dX5_heavy_37 : decode cX5_heavy 37 = .ok (.iload_n 2, 1) := by decide +kernel
theorem dX5_heavy_38 : decode cX5_heavy 38 = .ok (.aload_n 0, 1) := by decide +kernel
theorem dX5_heavy_39 : decode cX5_heavy 39 = .ok (.iload_n 2, 1) := by decide +kernel
theorem dX5_heavy_40 : decode cX5_heavy 40 = .ok (.invokevirtual 195, 3) := by decide +kernel
theorem dX5_heavy_43 : decode cX5_heavy 43 = .ok (.invokevirtual 198, 3) := by decide +kernel
theorem dX5_heavy_46 : decode cX5_heavy 46 = .ok (.sipush 1000, 3) := by decide +kernel
theorem dX5_heavy_49 : decode cX5_heavy 49 = .ok (.iadd, 1) := by decide +kernel
theorem dX5_heavy_50 : decode cX5_heavy 50 = .ok (.ireturn, 1) := by decide +kernel
theorem dX5_carries_0 : decode cX5_carries 0 = .ok (.aload_n 0, 1) := by decide +kernel
theorem dX5_carries_1 : decode cX5_carries 1 = .ok (.iload_n 1, 1) := by decide +kernel
theorem dX5_carries_2 : decode cX5_carries 2 = .ok (.invokevirtual 143, 3) := by decide +kernel
theorem dX5_carries_5 : decode cX5_carries 5 = .ok (.ifCond .eq 11, 3) := by decide +kernel
theorem dX5_carries_8 : decode cX5_carries 8 = .ok (.aload_n 0, 1) := by decide +kernel
theorem dX5_carries_9 : decode cX5_carries 9 = .ok (.iload_n 1, 1) := by decide +kernel
theorem dX5_carries_10 : decode cX5_carries 10 = .ok (.invokevirtual 206, 3) := by decide +kernel
theorem dX5_carries_13 : decode cX5_carries 13 = .ok (.goto 4, 3) := by decide +kernel
theorem dX5_carries_16 : decode cX5_carries 16 = .ok (.iconst (-1), 1) := by decide +kernel
theorem dX5_carries_17 : decode cX5_carries 17 = .ok (.ireturn, 1) := by decide +kernel
theorem dX5_bent_0 : decode cX5_bent 0 = .ok (.aload_n 0, 1) := by decide +kernel
theorem dX5_bent_1 : decode cX5_bent 1 = .ok (.iload_n 1, 1) := by decide +kernel
theorem dX5_bent_2 : decode cX5_bent 2 = .ok (.invokevirtual 140, 3) := by decide +kernel
theorem dX5_bent_5 : decode cX5_bent 5 = .ok (.ifCond .eq 12, 3) := by decide +kernel
theorem dX5_bent_8 : decode cX5_bent 8 = .ok (.aload_n 0, 1) := by decide +kernel
theorem dX5_bent_9 : decode cX5_bent 9 = .ok (.getfield 19, 3) := by decide +kernel
theorem dX5_bent_12 : decode cX5_bent 12 = .ok (.iload_n 1, 1) := by decide +kernel
theorem dX5_bent_13 : decode cX5_bent 13 = .ok (.iaload, 1) := by decide +kernel
theorem dX5_bent_14 : decode cX5_bent 14 = .ok (.goto 4, 3) := by decide +kernel
theorem dX5_bent_17 : decode cX5_bent 17 = .ok (.iconst (-1), 1) := by decide +kernel
theorem dX5_bent_18 : decode cX5_bent 18 = .ok (.ireturn, 1) := by decide +kernel
theorem dX5_tell_0 : decode cX5_tell 0 = .ok (.aload_n 0, 1) := by decide +kernel
theorem dX5_tell_1 : decode cX5_tell 1 = .ok (.iload_n 1, 1) := by decide +kernel
theorem dX5_tell_2 : decode cX5_tell 2 = .ok (.invokevirtual 143, 3) := by decide +kernel
theorem dX5_tell_5 : decode cX5_tell 5 = .ok (.ifCond .eq 11, 3) := by decide +kernel
theorem dX5_tell_8 : decode cX5_tell 8 = .ok (.aload_n 0, 1) := by decide +kernel
theorem dX5_tell_9 : decode cX5_tell 9 = .ok (.iload_n 2, 1) := by decide +kernel
theorem dX5_tell_10 : decode cX5_tell 10 = .ok (.invokevirtual 143, 3) := by decide +kernel
theorem dX5_tell_13 : decode cX5_tell 13 = .ok (.ifCond .ne 5, 3) := by decide +kernel
theorem dX5_tell_16 : decode cX5_tell 16 = .ok (.iconst 1, 1) := by decide +kernel
theorem dX5_tell_17 : decode cX5_tell 17 = .ok (.ireturn, 1) := by decide +kernel
theorem dX5_tell_18 : decode cX5_tell 18 = .ok (.iload_n 1, 1) := by decide +kernel
theorem dX5_tell_19 : decode cX5_tell 19 = .ok (.iload_n 2, 1) := by decide +kernel
theorem dX5_tell_20 : decode cX5_tell 20 = .ok (.if_icmp .eq 18, 3) := by decide +kernel
theorem dX5_tell_23 : decode cX5_tell 23 = .ok (.aload_n 0, 1) := by decide +kernel
theorem dX5_tell_24 : decode cX5_tell 24 = .ok (.getfield 22, 3) := by decide +kernel
theorem dX5_tell_27 : decode cX5_tell 27 = .ok (.iload_n 1, 1) := by decide +kernel
theorem dX5_tell_28 : decode cX5_tell 28 = .ok (.iaload, 1) := by decide +kernel
theorem dX5_tell_29 : decode cX5_tell 29 = .ok (.aload_n 0, 1) := by decide +kernel
theorem dX5_tell_30 : decode cX5_tell 30 = .ok (.getfield 22, 3) := by decide +kernel
theorem dX5_tell_33 : decode cX5_tell 33 = .ok (.iload_n 2, 1) := by decide +kernel
theorem dX5_tell_34 : decode cX5_tell 34 = .ok (.iaload, 1) := by decide +kernel
theorem dX5_tell_35 : decode cX5_tell 35 = .ok (.if_icmp .eq 5, 3) := by decide +kernel
theorem dX5_tell_38 : decode cX5_tell 38 = .ok (.iconst 2, 1) := by decide +kernel
theorem dX5_tell_39 : decode cX5_tell 39 = .ok (.ireturn, 1) := by decide +kernel
theorem dX5_tell_40 : decode cX5_tell 40 = .ok (.aload_n 0, 1) := by decide +kernel
theorem dX5_tell_41 : decode cX5_tell 41 = .ok (.getfield 28, 3) := by decide +kernel
theorem dX5_tell_44 : decode cX5_tell 44 = .ok (.iload_n 1, 1) := by decide +kernel
theorem dX5_tell_45 : decode cX5_tell 45 = .ok (.iaload, 1) := by decide +kernel
theorem dX5_tell_46 : decode cX5_tell 46 = .ok (.iload_n 3, 1) := by decide +kernel
theorem dX5_tell_47 : decode cX5_tell 47 = .ok (.ishr, 1) := by decide +kernel
theorem dX5_tell_48 : decode cX5_tell 48 = .ok (.iconst 1, 1) := by decide +kernel
theorem dX5_tell_49 : decode cX5_tell 49 = .ok (.iand, 1) := by decide +kernel
theorem dX5_tell_50 : decode cX5_tell 50 = .ok (.ifCond .ne 5, 3) := by decide +kernel
theorem dX5_tell_53 : decode cX5_tell 53 = .ok (.iconst 3, 1) := by decide +kernel
theorem dX5_tell_54 : decode cX5_tell 54 = .ok (.ireturn, 1) := by decide +kernel
theorem dX5_tell_55 : decode cX5_tell 55 = .ok (.aload_n 0, 1) := by decide +kernel
theorem dX5_tell_56 : decode cX5_tell 56 = .ok (.getfield 28, 3) := by decide +kernel
theorem dX5_tell_59 : decode cX5_tell 59 = .ok (.iload_n 2, 1) := by decide +kernel
theorem dX5_tell_60 : decode cX5_tell 60 = .ok (.iaload, 1) := by decide +kernel
theorem dX5_tell_61 : decode cX5_tell 61 = .ok (.iload_n 3, 1) := by decide +kernel
theorem dX5_tell_62 : decode cX5_tell 62 = .ok (.ishr, 1) := by decide +kernel
theorem dX5_tell_63 : decode cX5_tell 63 = .ok (.iconst 1, 1) := by decide +kernel
theorem dX5_tell_64 : decode cX5_tell 64 = .ok (.iand, 1) := by decide +kernel
theorem dX5_tell_65 : decode cX5_tell 65 = .ok (.iconst 1, 1) := by decide +kernel
theorem dX5_tell_66 : decode cX5_tell 66 = .ok (.if_icmp .ne 5, 3) := by decide +kernel
theorem dX5_tell_69 : decode cX5_tell 69 = .ok (.iconst 4, 1) := by decide +kernel
theorem dX5_tell_70 : decode cX5_tell 70 = .ok (.ireturn, 1) := by decide +kernel
theorem dX5_tell_71 : decode cX5_tell 71 = .ok (.aload_n 0, 1) := by decide +kernel
theorem dX5_tell_72 : decode cX5_tell 72 = .ok (.getfield 28, 3) := by decide +kernel
theorem dX5_tell_75 : decode cX5_tell 75 = .ok (.iload_n 2, 1) := by decide +kernel
theorem dX5_tell_76 : decode cX5_tell 76 = .ok (.dup2, 1) := by decide +kernel
theorem dX5_tell_77 : decode cX5_tell 77 = .ok (.iaload, 1) := by decide +kernel
theorem dX5_tell_78 : decode cX5_tell 78 = .ok (.iconst 1, 1) := by decide +kernel
theorem dX5_tell_79 : decode cX5_tell 79 = .ok (.iload_n 3, 1) := by decide +kernel
theorem dX5_tell_80 : decode cX5_tell 80 = .ok (.ishl, 1) := by decide +kernel
theorem dX5_tell_81 : decode cX5_tell 81 = .ok (.ior, 1) := by decide +kernel
theorem dX5_tell_82 : decode cX5_tell 82 = .ok (.iastore, 1) := by decide +kernel
theorem dX5_tell_83 : decode cX5_tell 83 = .ok (.aload_n 0, 1) := by decide +kernel
theorem dX5_tell_84 : decode cX5_tell 84 = .ok (.dup, 1) := by decide +kernel
theorem dX5_tell_85 : decode cX5_tell 85 = .ok (.getfield 209, 3) := by decide +kernel
theorem dX5_tell_88 : decode cX5_tell 88 = .ok (.iconst 1, 1) := by decide +kernel
theorem dX5_tell_89 : decode cX5_tell 89 = .ok (.iadd, 1) := by decide +kernel
theorem dX5_tell_90 : decode cX5_tell 90 = .ok (.putfield 209, 3) := by decide +kernel
theorem dX5_tell_93 : decode cX5_tell 93 = .ok (.iconst 0, 1) := by decide +kernel
theorem dX5_tell_94 : decode cX5_tell 94 = .ok (.ireturn, 1) := by decide +kernel
theorem dX5_cross_0 : decode cX5_cross 0 = .ok (.aload_n 0, 1) := by decide +kernel
theorem dX5_cross_1 : decode cX5_cross 1 = .ok (.iload_n 1, 1) := by decide +kernel
theorem dX5_cross_2 : decode cX5_cross 2 = .ok (.invokevirtual 143, 3) := by decide +kernel
theorem dX5_cross_5 : decode cX5_cross 5 = .ok (.ifCond .ne 5, 3) := by decide +kernel
theorem dX5_cross_8 : decode cX5_cross 8 = .ok (.iconst 1, 1) := by decide +kernel
theorem dX5_cross_9 : decode cX5_cross 9 = .ok (.ireturn, 1) := by decide +kernel
theorem dX5_cross_10 : decode cX5_cross 10 = .ok (.aload_n 0, 1) := by decide +kernel
theorem dX5_cross_11 : decode cX5_cross 11 = .ok (.iload_n 2, 1) := by decide +kernel
theorem dX5_cross_12 : decode cX5_cross 12 = .ok (.invokevirtual 140, 3) := by decide +kernel
theorem dX5_cross_15 : decode cX5_cross 15 = .ok (.ifCond .ne 5, 3) := by decide +kernel
theorem dX5_cross_18 : decode cX5_cross 18 = .ok (.iconst 5, 1) := by decide +kernel
theorem dX5_cross_19 : decode cX5_cross 19 = .ok (.ireturn, 1) := by decide +kernel
theorem dX5_cross_20 : decode cX5_cross 20 = .ok (.aload_n 0, 1) := by decide +kernel
theorem dX5_cross_21 : decode cX5_cross 21 = .ok (.getfield 22, 3) := by decide +kernel
theorem dX5_cross_24 : decode cX5_cross 24 = .ok (.iload_n 1, 1) := by decide +kernel
theorem dX5_cross_25 : decode cX5_cross 25 = .ok (.iaload, 1) := by decide +kernel
theorem dX5_cross_26 : decode cX5_cross 26 = .ok (.aload_n 0, 1) := by decide +kernel
theorem dX5_cross_27 : decode cX5_cross 27 = .ok (.getfield 7, 3) := by decide +kernel
theorem dX5_cross_30 : decode cX5_cross 30 = .ok (.iload_n 2, 1) := by decide +kernel
theorem dX5_cross_31 : decode cX5_cross 31 = .ok (.iaload, 1) := by decide +kernel
theorem dX5_cross_32 : decode cX5_cross 32 = .ok (.if_icmp .eq 21, 3) := by decide +kernel
theorem dX5_cross_35 : decode cX5_cross 35 = .ok (.aload_n 0, 1) := by decide +kernel
theorem dX5_cross_36 : decode cX5_cross 36 = .ok (.getfield 22, 3) := by decide +kernel
theorem dX5_cross_39 : decode cX5_cross 39 = .ok (.iload_n 1, 1) := by decide +kernel
theorem dX5_cross_40 : decode cX5_cross 40 = .ok (.iaload, 1) := by decide +kernel
theorem dX5_cross_41 : decode cX5_cross 41 = .ok (.aload_n 0, 1) := by decide +kernel
theorem dX5_cross_42 : decode cX5_cross 42 = .ok (.getfield 13, 3) := by decide +kernel
theorem dX5_cross_45 : decode cX5_cross 45 = .ok (.iload_n 2, 1) := by decide +kernel
theorem dX5_cross_46 : decode cX5_cross 46 = .ok (.iaload, 1) := by decide +kernel
theorem dX5_cross_47 : decode cX5_cross 47 = .ok (.if_icmp .eq 6, 3) := by decide +kernel
theorem dX5_cross_50 : decode cX5_cross 50 = .ok (.bipush 6, 2) := by decide +kernel
theorem dX5_cross_52 : decode cX5_cross 52 = .ok (.ireturn, 1) := by decide +kernel
theorem dX5_cross_53 : decode cX5_cross 53 = .ok (.aload_n 0, 1) := by decide +kernel
theorem dX5_cross_54 : decode cX5_cross 54 = .ok (.iload_n 1, 1) := by decide +kernel
theorem dX5_cross_55 : decode cX5_cross 55 = .ok (.invokevirtual 206, 3) := by decide +kernel
theorem dX5_cross_58 : decode cX5_cross 58 = .ok (.istore_n 3, 1) := by decide +kernel
theorem dX5_cross_59 : decode cX5_cross 59 = .ok (.iload_n 3, 1) := by decide +kernel
theorem dX5_cross_60 : decode cX5_cross 60 = .ok (.aload_n 0, 1) := by decide +kernel
theorem dX5_cross_61 : decode cX5_cross 61 = .ok (.getfield 16, 3) := by decide +kernel
theorem dX5_cross_64 : decode cX5_cross 64 = .ok (.iload_n 2, 1) := by decide +kernel
theorem dX5_cross_65 : decode cX5_cross 65 = .ok (.iaload, 1) := by decide +kernel
theorem dX5_cross_66 : decode cX5_cross 66 = .ok (.if_icmp .le 6, 3) := by decide +kernel
theorem dX5_cross_69 : decode cX5_cross 69 = .ok (.bipush 7, 2) := by decide +kernel
theorem dX5_cross_71 : decode cX5_cross 71 = .ok (.ireturn, 1) := by decide +kernel
theorem dX5_cross_72 : decode cX5_cross 72 = .ok (.aload_n 0, 1) := by decide +kernel
theorem dX5_cross_73 : decode cX5_cross 73 = .ok (.getfield 19, 3) := by decide +kernel
theorem dX5_cross_76 : decode cX5_cross 76 = .ok (.iload_n 2, 1) := by decide +kernel
theorem dX5_cross_77 : decode cX5_cross 77 = .ok (.iload_n 3, 1) := by decide +kernel
theorem dX5_cross_78 : decode cX5_cross 78 = .ok (.aload_n 0, 1) := by decide +kernel
theorem dX5_cross_79 : decode cX5_cross 79 = .ok (.getfield 19, 3) := by decide +kernel
theorem dX5_cross_82 : decode cX5_cross 82 = .ok (.iload_n 2, 1) := by decide +kernel
theorem dX5_cross_83 : decode cX5_cross 83 = .ok (.iaload, 1) := by decide +kernel
theorem dX5_cross_84 : decode cX5_cross 84 = .ok (.if_icmp .le 7, 3) := by decide +kernel
theorem dX5_cross_87 : decode cX5_cross 87 = .ok (.iload_n 3, 1) := by decide +kernel
theorem dX5_cross_88 : decode cX5_cross 88 = .ok (.goto 9, 3) := by decide +kernel
theorem dX5_cross_91 : decode cX5_cross 91 = .ok (.aload_n 0, 1) := by decide +kernel
theorem dX5_cross_92 : decode cX5_cross 92 = .ok (.getfield 19, 3) := by decide +kernel
theorem dX5_cross_95 : decode cX5_cross 95 = .ok (.iload_n 2, 1) := by decide +kernel
theorem dX5_cross_96 : decode cX5_cross 96 = .ok (.iaload, 1) := by decide +kernel
theorem dX5_cross_97 : decode cX5_cross 97 = .ok (.iastore, 1) := by decide +kernel
theorem dX5_cross_98 : decode cX5_cross 98 = .ok (.aload_n 0, 1) := by decide +kernel
theorem dX5_cross_99 : decode cX5_cross 99 = .ok (.getfield 22, 3) := by decide +kernel
theorem dX5_cross_102 : decode cX5_cross 102 = .ok (.iload_n 1, 1) := by decide +kernel
theorem dX5_cross_103 : decode cX5_cross 103 = .ok (.aload_n 0, 1) := by decide +kernel
theorem dX5_cross_104 : decode cX5_cross 104 = .ok (.getfield 7, 3) := by decide +kernel
theorem dX5_cross_107 : decode cX5_cross 107 = .ok (.iload_n 2, 1) := by decide +kernel
theorem dX5_cross_108 : decode cX5_cross 108 = .ok (.iaload, 1) := by decide +kernel
theorem dX5_cross_109 : decode cX5_cross 109 = .ok (.aload_n 0, 1) := by decide +kernel
theorem dX5_cross_110 : decode cX5_cross 110 = .ok (.getfield 13, 3) := by decide +kernel
theorem dX5_cross_113 : decode cX5_cross 113 = .ok (.iload_n 2, 1) := by decide +kernel
theorem dX5_cross_114 : decode cX5_cross 114 = .ok (.iaload, 1) := by decide +kernel
theorem dX5_cross_115 : decode cX5_cross 115 = .ok (.iadd, 1) := by decide +kernel
theorem dX5_cross_116 : decode cX5_cross 116 = .ok (.aload_n 0, 1) := by decide +kernel
theorem dX5_cross_117 : decode cX5_cross 117 = .ok (.getfield 22, 3) := by decide +kernel
theorem dX5_cross_120 : decode cX5_cross 120 = .ok (.iload_n 1, 1) := by decide +kernel
theorem dX5_cross_121 : decode cX5_cross 121 = .ok (.iaload, 1) := by decide +kernel
theorem dX5_cross_122 : decode cX5_cross 122 = .ok (.isub, 1) := by decide +kernel
theorem dX5_cross_123 : decode cX5_cross 123 = .ok (.iastore, 1) := by decide +kernel
theorem dX5_cross_124 : decode cX5_cross 124 = .ok (.aload_n 0, 1) := by decide +kernel
theorem dX5_cross_125 : decode cX5_cross 125 = .ok (.dup, 1) := by decide +kernel
theorem dX5_cross_126 : decode cX5_cross 126 = .ok (.getfield 212, 3) := by decide +kernel
theorem dX5_cross_129 : decode cX5_cross 129 = .ok (.iconst 1, 1) := by decide +kernel
theorem dX5_cross_130 : decode cX5_cross 130 = .ok (.iadd, 1) := by decide +kernel
theorem dX5_cross_131 : decode cX5_cross 131 = .ok (.putfield 212, 3) := by decide +kernel
theorem dX5_cross_134 : decode cX5_cross 134 = .ok (.iconst 0, 1) := by decide +kernel
theorem dX5_cross_135 : decode cX5_cross 135 = .ok (.ireturn, 1) := by decide +kernel
theorem dX5_publish_0 : decode cX5_publish 0 = .ok (.aload_n 0, 1) := by decide +kernel
theorem dX5_publish_1 : decode cX5_publish 1 = .ok (.getfield 112, 3) := by decide +kernel
theorem dX5_publish_4 : decode cX5_publish 4 = .ok (.iload_n 1, 1) := by decide +kernel
theorem dX5_publish_5 : decode cX5_publish 5 = .ok (.ishr, 1) := by decide +kernel
theorem dX5_publish_6 : decode cX5_publish 6 = .ok (.iconst 1, 1) := by decide +kernel
theorem dX5_publish_7 : decode cX5_publish 7 = .ok (.iand, 1) := by decide +kernel
theorem dX5_publish_8 : decode cX5_publish 8 = .ok (.iconst 1, 1) := by decide +kernel
theorem dX5_publish_9 : decode cX5_publish 9 = .ok (.if_icmp .ne 6, 3) := by decide +kernel
theorem dX5_publish_12 : decode cX5_publish 12 = .ok (.bipush 8, 2) := by decide +kernel
theorem dX5_publish_14 : decode cX5_publish 14 = .ok (.ireturn, 1) := by decide +kernel
theorem dX5_publish_15 : decode cX5_publish 15 = .ok (.aload_n 0, 1) := by decide +kernel
theorem dX5_publish_16 : decode cX5_publish 16 = .ok (.dup, 1) := by decide +kernel
theorem dX5_publish_17 : decode cX5_publish 17 = .ok (.getfield 112, 3) := by decide +kernel
theorem dX5_publish_20 : decode cX5_publish 20 = .ok (.iconst 1, 1) := by decide +kernel
theorem dX5_publish_21 : decode cX5_publish 21 = .ok (.iload_n 1, 1) := by decide +kernel
theorem dX5_publish_22 : decode cX5_publish 22 = .ok (.ishl, 1) := by decide +kernel
theorem dX5_publish_23 : decode cX5_publish 23 = .ok (.ior, 1) := by decide +kernel
theorem dX5_publish_24 : decode cX5_publish 24 = .ok (.putfield 112, 3) := by decide +kernel
theorem dX5_publish_27 : decode cX5_publish 27 = .ok (.iconst 0, 1) := by decide +kernel
theorem dX5_publish_28 : decode cX5_publish 28 = .ok (.ireturn, 1) := by decide +kernel
theorem dX5_happen_0 : decode cX5_happen 0 = .ok (.aload_n 0, 1) := by decide +kernel
theorem dX5_happen_1 : decode cX5_happen 1 = .ok (.getfield 46, 3) := by decide +kernel
theorem dX5_happen_4 : decode cX5_happen 4 = .ok (.iload_n 1, 1) := by decide +kernel
theorem dX5_happen_5 : decode cX5_happen 5 = .ok (.iaload, 1) := by decide +kernel
theorem dX5_happen_6 : decode cX5_happen 6 = .ok (.ifCond .ne 26, 3) := by decide +kernel
theorem dX5_happen_9 : decode cX5_happen 9 = .ok (.aload_n 0, 1) := by decide +kernel
theorem dX5_happen_10 : decode cX5_happen 10 = .ok (.aload_n 0, 1) := by decide +kernel
theorem dX5_happen_11 : decode cX5_happen 11 = .ok (.getfield 49, 3) := by decide +kernel
theorem dX5_happen_14 : decode cX5_happen 14 = .ok (.iload_n 1, 1) := by decide +kernel
theorem dX5_happen_15 : decode cX5_happen 15 = .ok (.iaload, 1) := by decide +kernel
theorem dX5_happen_16 : decode cX5_happen 16 = .ok (.aload_n 0, 1) := by decide +kernel
theorem dX5_happen_17 : decode cX5_happen 17 = .ok (.getfield 52, 3) := by decide +kernel
theorem dX5_happen_20 : decode cX5_happen 20 = .ok (.iload_n 1, 1) := by decide +kernel
theorem dX5_happen_21 : decode cX5_happen 21 = .ok (.iaload, 1) := by decide +kernel
theorem dX5_happen_22 : decode cX5_happen 22 = .ok (.aload_n 0, 1) := by decide +kernel
theorem dX5_happen_23 : decode cX5_happen 23 = .ok (.getfield 55, 3) := by decide +kernel
theorem dX5_happen_26 : decode cX5_happen 26 = .ok (.iload_n 1, 1) := by decide +kernel
theorem dX5_happen_27 : decode cX5_happen 27 = .ok (.iaload, 1) := by decide +kernel
theorem dX5_happen_28 : decode cX5_happen 28 = .ok (.invokevirtual 215, 3) := by decide +kernel
theorem dX5_happen_31 : decode cX5_happen 31 = .ok (.ireturn, 1) := by decide +kernel
theorem dX5_happen_32 : decode cX5_happen 32 = .ok (.aload_n 0, 1) := by decide +kernel
theorem dX5_happen_33 : decode cX5_happen 33 = .ok (.getfield 46, 3) := by decide +kernel
theorem dX5_happen_36 : decode cX5_happen 36 = .ok (.iload_n 1, 1) := by decide +kernel
theorem dX5_happen_37 : decode cX5_happen 37 = .ok (.iaload, 1) := by decide +kernel
theorem dX5_happen_38 : decode cX5_happen 38 = .ok (.iconst 1, 1) := by decide +kernel
theorem dX5_happen_39 : decode cX5_happen 39 = .ok (.if_icmp .ne 20, 3) := by decide +kernel
theorem dX5_happen_42 : decode cX5_happen 42 = .ok (.aload_n 0, 1) := by decide +kernel
theorem dX5_happen_43 : decode cX5_happen 43 = .ok (.aload_n 0, 1) := by decide +kernel
theorem dX5_happen_44 : decode cX5_happen 44 = .ok (.getfield 49, 3) := by decide +kernel
theorem dX5_happen_47 : decode cX5_happen 47 = .ok (.iload_n 1, 1) := by decide +kernel
theorem dX5_happen_48 : decode cX5_happen 48 = .ok (.iaload, 1) := by decide +kernel
theorem dX5_happen_49 : decode cX5_happen 49 = .ok (.aload_n 0, 1) := by decide +kernel
theorem dX5_happen_50 : decode cX5_happen 50 = .ok (.getfield 55, 3) := by decide +kernel
theorem dX5_happen_53 : decode cX5_happen 53 = .ok (.iload_n 1, 1) := by decide +kernel
theorem dX5_happen_54 : decode cX5_happen 54 = .ok (.iaload, 1) := by decide +kernel
theorem dX5_happen_55 : decode cX5_happen 55 = .ok (.invokevirtual 218, 3) := by decide +kernel
theorem dX5_happen_58 : decode cX5_happen 58 = .ok (.ireturn, 1) := by decide +kernel
theorem dX5_happen_59 : decode cX5_happen 59 = .ok (.aload_n 0, 1) := by decide +kernel
theorem dX5_happen_60 : decode cX5_happen 60 = .ok (.getfield 46, 3) := by decide +kernel
theorem dX5_happen_63 : decode cX5_happen 63 = .ok (.iload_n 1, 1) := by decide +kernel
theorem dX5_happen_64 : decode cX5_happen 64 = .ok (.iaload, 1) := by decide +kernel
theorem dX5_happen_65 : decode cX5_happen 65 = .ok (.iconst 2, 1) := by decide +kernel
theorem dX5_happen_66 : decode cX5_happen 66 = .ok (.if_icmp .ne 14, 3) := by decide +kernel
theorem dX5_happen_69 : decode cX5_happen 69 = .ok (.aload_n 0, 1) := by decide +kernel
theorem dX5_happen_70 : decode cX5_happen 70 = .ok (.aload_n 0, 1) := by decide +kernel
theorem dX5_happen_71 : decode cX5_happen 71 = .ok (.getfield 55, 3) := by decide +kernel
theorem dX5_happen_74 : decode cX5_happen 74 = .ok (.iload_n 1, 1) := by decide +kernel
theorem dX5_happen_75 : decode cX5_happen 75 = .ok (.iaload, 1) := by decide +kernel
theorem dX5_happen_76 : decode cX5_happen 76 = .ok (.invokevirtual 221, 3) := by decide +kernel
theorem dX5_happen_79 : decode cX5_happen 79 = .ok (.ireturn, 1) := by decide +kernel
theorem dX5_happen_80 : decode cX5_happen 80 = .ok (.aload_n 0, 1) := by decide +kernel
theorem dX5_happen_81 : decode cX5_happen 81 = .ok (.invokevirtual 224, 3) := by decide +kernel
theorem dX5_happen_84 : decode cX5_happen 84 = .ok (.aload_n 0, 1) := by decide +kernel
theorem dX5_happen_85 : decode cX5_happen 85 = .ok (.dup, 1) := by decide +kernel
theorem dX5_happen_86 : decode cX5_happen 86 = .ok (.getfield 227, 3) := by decide +kernel
theorem dX5_happen_89 : decode cX5_happen 89 = .ok (.iconst 1, 1) := by decide +kernel
theorem dX5_happen_90 : decode cX5_happen 90 = .ok (.iadd, 1) := by decide +kernel
theorem dX5_happen_91 : decode cX5_happen 91 = .ok (.putfield 227, 3) := by decide +kernel
theorem dX5_happen_94 : decode cX5_happen 94 = .ok (.iconst 0, 1) := by decide +kernel
theorem dX5_happen_95 : decode cX5_happen 95 = .ok (.ireturn, 1) := by decide +kernel
theorem dX5_keepNow_0 : decode cX5_keepNow 0 = .ok (.iconst 0, 1) := by decide +kernel
theorem dX5_keepNow_1 : decode cX5_keepNow 1 = .ok (.istore_n 1, 1) := by decide +kernel
theorem dX5_keepNow_2 : decode cX5_keepNow 2 = .ok (.iload_n 1, 1) := by decide +kernel
theorem dX5_keepNow_3 : decode cX5_keepNow 3 = .ok (.bipush 6, 2) := by decide +kernel
theorem dX5_keepNow_5 : decode cX5_keepNow 5 = .ok (.if_icmp .ge 33, 3) := by decide +kernel
theorem dX5_keepNow_8 : decode cX5_keepNow 8 = .ok (.aload_n 0, 1) := by decide +kernel
theorem dX5_keepNow_9 : decode cX5_keepNow 9 = .ok (.getfield 58, 3) := by decide +kernel
theorem dX5_keepNow_12 : decode cX5_keepNow 12 = .ok (.iload_n 1, 1) := by decide +kernel
theorem dX5_keepNow_13 : decode cX5_keepNow 13 = .ok (.aload_n 0, 1) := by decide +kernel
theorem dX5_keepNow_14 : decode cX5_keepNow 14 = .ok (.getfield 22, 3) := by decide +kernel
theorem dX5_keepNow_17 : decode cX5_keepNow 17 = .ok (.iload_n 1, 1) := by decide +kernel
theorem dX5_keepNow_18 : decode cX5_keepNow 18 = .ok (.iaload, 1) := by decide +kernel
theorem dX5_keepNow_19 : decode cX5_keepNow 19 = .ok (.iastore, 1) := by decide +kernel
theorem dX5_keepNow_20 : decode cX5_keepNow 20 = .ok (.aload_n 0, 1) := by decide +kernel
theorem dX5_keepNow_21 : decode cX5_keepNow 21 = .ok (.getfield 61, 3) := by decide +kernel
theorem dX5_keepNow_24 : decode cX5_keepNow 24 = .ok (.iload_n 1, 1) := by decide +kernel
theorem dX5_keepNow_25 : decode cX5_keepNow 25 = .ok (.aload_n 0, 1) := by decide +kernel
theorem dX5_keepNow_26 : decode cX5_keepNow 26 = .ok (.getfield 28, 3) := by decide +kernel
theorem dX5_keepNow_29 : decode cX5_keepNow 29 = .ok (.iload_n 1, 1) := by decide +kernel
theorem dX5_keepNow_30 : decode cX5_keepNow 30 = .ok (.iaload, 1) := by decide +kernel
theorem dX5_keepNow_31 : decode cX5_keepNow 31 = .ok (.iastore, 1) := by decide +kernel
theorem dX5_keepNow_32 : decode cX5_keepNow 32 = .ok (.iinc 1 1, 3) := by decide +kernel
theorem dX5_keepNow_35 : decode cX5_keepNow 35 = .ok (.goto (-33), 3) := by decide +kernel
theorem dX5_keepNow_38 : decode cX5_keepNow 38 = .ok (.iconst 0, 1) := by decide +kernel
theorem dX5_keepNow_39 : decode cX5_keepNow 39 = .ok (.istore_n 1, 1) := by decide +kernel
theorem dX5_keepNow_40 : decode cX5_keepNow 40 = .ok (.iload_n 1, 1) := by decide +kernel
theorem dX5_keepNow_41 : decode cX5_keepNow 41 = .ok (.bipush 8, 2) := by decide +kernel
theorem dX5_keepNow_43 : decode cX5_keepNow 43 = .ok (.if_icmp .ge 33, 3) := by decide +kernel
theorem dX5_keepNow_46 : decode cX5_keepNow 46 = .ok (.aload_n 0, 1) := by decide +kernel
theorem dX5_keepNow_47 : decode cX5_keepNow 47 = .ok (.getfield 64, 3) := by decide +kernel
theorem dX5_keepNow_50 : decode cX5_keepNow 50 = .ok (.iload_n 1, 1) := by decide +kernel
theorem dX5_keepNow_51 : decode cX5_keepNow 51 = .ok (.aload_n 0, 1) := by decide +kernel
theorem dX5_keepNow_52 : decode cX5_keepNow 52 = .ok (.getfield 31, 3) := by decide +kernel
theorem dX5_keepNow_55 : decode cX5_keepNow 55 = .ok (.iload_n 1, 1) := by decide +kernel
theorem dX5_keepNow_56 : decode cX5_keepNow 56 = .ok (.iaload, 1) := by decide +kernel
theorem dX5_keepNow_57 : decode cX5_keepNow 57 = .ok (.iastore, 1) := by decide +kernel
theorem dX5_keepNow_58 : decode cX5_keepNow 58 = .ok (.aload_n 0, 1) := by decide +kernel
theorem dX5_keepNow_59 : decode cX5_keepNow 59 = .ok (.getfield 67, 3) := by decide +kernel
theorem dX5_keepNow_62 : decode cX5_keepNow 62 = .ok (.iload_n 1, 1) := by decide +kernel
theorem dX5_keepNow_63 : decode cX5_keepNow 63 = .ok (.aload_n 0, 1) := by decide +kernel
theorem dX5_keepNow_64 : decode cX5_keepNow 64 = .ok (.getfield 19, 3) := by decide +kernel
theorem dX5_keepNow_67 : decode cX5_keepNow 67 = .ok (.iload_n 1, 1) := by decide +kernel
theorem dX5_keepNow_68 : decode cX5_keepNow 68 = .ok (.iaload, 1) := by decide +kernel
theorem dX5_keepNow_69 : decode cX5_keepNow 69 = .ok (.iastore, 1) := by decide +kernel
theorem dX5_keepNow_70 : decode cX5_keepNow 70 = .ok (.iinc 1 1, 3) := by decide +kernel
theorem dX5_keepNow_73 : decode cX5_keepNow 73 = .ok (.goto (-33), 3) := by decide +kernel
theorem dX5_keepNow_76 : decode cX5_keepNow 76 = .ok (.aload_n 0, 1) := by decide +kernel
theorem dX5_keepNow_77 : decode cX5_keepNow 77 = .ok (.aload_n 0, 1) := by decide +kernel
theorem dX5_keepNow_78 : decode cX5_keepNow 78 = .ok (.getfield 112, 3) := by decide +kernel
theorem dX5_keepNow_81 : decode cX5_keepNow 81 = .ok (.putfield 230, 3) := by decide +kernel
theorem dX5_keepNow_84 : decode cX5_keepNow 84 = .ok (.return_, 1) := by decide +kernel
theorem dX5_putBack_0 : decode cX5_putBack 0 = .ok (.iconst 0, 1) := by decide +kernel
theorem dX5_putBack_1 : decode cX5_putBack 1 = .ok (.istore_n 1, 1) := by decide +kernel
theorem dX5_putBack_2 : decode cX5_putBack 2 = .ok (.iload_n 1, 1) := by decide +kernel
theorem dX5_putBack_3 : decode cX5_putBack 3 = .ok (.bipush 6, 2) := by decide +kernel
theorem dX5_putBack_5 : decode cX5_putBack 5 = .ok (.if_icmp .ge 33, 3) := by decide +kernel
theorem dX5_putBack_8 : decode cX5_putBack 8 = .ok (.aload_n 0, 1) := by decide +kernel
theorem dX5_putBack_9 : decode cX5_putBack 9 = .ok (.getfield 22, 3) := by decide +kernel
theorem dX5_putBack_12 : decode cX5_putBack 12 = .ok (.iload_n 1, 1) := by decide +kernel
theorem dX5_putBack_13 : decode cX5_putBack 13 = .ok (.aload_n 0, 1) := by decide +kernel
theorem dX5_putBack_14 : decode cX5_putBack 14 = .ok (.getfield 58, 3) := by decide +kernel
theorem dX5_putBack_17 : decode cX5_putBack 17 = .ok (.iload_n 1, 1) := by decide +kernel
theorem dX5_putBack_18 : decode cX5_putBack 18 = .ok (.iaload, 1) := by decide +kernel
theorem dX5_putBack_19 : decode cX5_putBack 19 = .ok (.iastore, 1) := by decide +kernel
theorem dX5_putBack_20 : decode cX5_putBack 20 = .ok (.aload_n 0, 1) := by decide +kernel
theorem dX5_putBack_21 : decode cX5_putBack 21 = .ok (.getfield 28, 3) := by decide +kernel
theorem dX5_putBack_24 : decode cX5_putBack 24 = .ok (.iload_n 1, 1) := by decide +kernel
theorem dX5_putBack_25 : decode cX5_putBack 25 = .ok (.aload_n 0, 1) := by decide +kernel
theorem dX5_putBack_26 : decode cX5_putBack 26 = .ok (.getfield 61, 3) := by decide +kernel
theorem dX5_putBack_29 : decode cX5_putBack 29 = .ok (.iload_n 1, 1) := by decide +kernel
theorem dX5_putBack_30 : decode cX5_putBack 30 = .ok (.iaload, 1) := by decide +kernel
theorem dX5_putBack_31 : decode cX5_putBack 31 = .ok (.iastore, 1) := by decide +kernel
theorem dX5_putBack_32 : decode cX5_putBack 32 = .ok (.iinc 1 1, 3) := by decide +kernel
theorem dX5_putBack_35 : decode cX5_putBack 35 = .ok (.goto (-33), 3) := by decide +kernel
theorem dX5_putBack_38 : decode cX5_putBack 38 = .ok (.iconst 0, 1) := by decide +kernel
theorem dX5_putBack_39 : decode cX5_putBack 39 = .ok (.istore_n 1, 1) := by decide +kernel
theorem dX5_putBack_40 : decode cX5_putBack 40 = .ok (.iload_n 1, 1) := by decide +kernel
theorem dX5_putBack_41 : decode cX5_putBack 41 = .ok (.bipush 8, 2) := by decide +kernel
theorem dX5_putBack_43 : decode cX5_putBack 43 = .ok (.if_icmp .ge 33, 3) := by decide +kernel
theorem dX5_putBack_46 : decode cX5_putBack 46 = .ok (.aload_n 0, 1) := by decide +kernel
theorem dX5_putBack_47 : decode cX5_putBack 47 = .ok (.getfield 31, 3) := by decide +kernel
theorem dX5_putBack_50 : decode cX5_putBack 50 = .ok (.iload_n 1, 1) := by decide +kernel
theorem dX5_putBack_51 : decode cX5_putBack 51 = .ok (.aload_n 0, 1) := by decide +kernel
theorem dX5_putBack_52 : decode cX5_putBack 52 = .ok (.getfield 64, 3) := by decide +kernel
theorem dX5_putBack_55 : decode cX5_putBack 55 = .ok (.iload_n 1, 1) := by decide +kernel
theorem dX5_putBack_56 : decode cX5_putBack 56 = .ok (.iaload, 1) := by decide +kernel
theorem dX5_putBack_57 : decode cX5_putBack 57 = .ok (.iastore, 1) := by decide +kernel
theorem dX5_putBack_58 : decode cX5_putBack 58 = .ok (.aload_n 0, 1) := by decide +kernel
theorem dX5_putBack_59 : decode cX5_putBack 59 = .ok (.getfield 19, 3) := by decide +kernel
theorem dX5_putBack_62 : decode cX5_putBack 62 = .ok (.iload_n 1, 1) := by decide +kernel
theorem dX5_putBack_63 : decode cX5_putBack 63 = .ok (.aload_n 0, 1) := by decide +kernel
theorem dX5_putBack_64 : decode cX5_putBack 64 = .ok (.getfield 67, 3) := by decide +kernel
theorem dX5_putBack_67 : decode cX5_putBack 67 = .ok (.iload_n 1, 1) := by decide +kernel
theorem dX5_putBack_68 : decode cX5_putBack 68 = .ok (.iaload, 1) := by decide +kernel
theorem dX5_putBack_69 : decode cX5_putBack 69 = .ok (.iastore, 1) := by decide +kernel
theorem dX5_putBack_70 : decode cX5_putBack 70 = .ok (.iinc 1 1, 3) := by decide +kernel
theorem dX5_putBack_73 : decode cX5_putBack 73 = .ok (.goto (-33), 3) := by decide +kernel
theorem dX5_putBack_76 : decode cX5_putBack 76 = .ok (.aload_n 0, 1) := by decide +kernel
theorem dX5_putBack_77 : decode cX5_putBack 77 = .ok (.aload_n 0, 1) := by decide +kernel
theorem dX5_putBack_78 : decode cX5_putBack 78 = .ok (.getfield 230, 3) := by decide +kernel
theorem dX5_putBack_81 : decode cX5_putBack 81 = .ok (.putfield 112, 3) := by decide +kernel
theorem dX5_putBack_84 : decode cX5_putBack 84 = .ok (.return_, 1) := by decide +kernel
theorem dX5_goDay_0 : decode cX5_goDay 0 = .ok (.aload_n 0, 1) := by decide +kernel
theorem dX5_goDay_1 : decode cX5_goDay 1 = .ok (.bipush (-6), 2) := by decide +kernel
theorem dX5_goDay_3 : decode cX5_goDay 3 = .ok (.putfield 233, 3) := by decide +kernel
theorem dX5_goDay_6 : decode cX5_goDay 6 = .ok (.aload_n 0, 1) := by decide +kernel
theorem dX5_goDay_7 : decode cX5_goDay 7 = .ok (.bipush (-6), 2) := by decide +kernel
theorem dX5_goDay_9 : decode cX5_goDay 9 = .ok (.putfield 236, 3) := by decide +kernel
theorem dX5_goDay_12 : decode cX5_goDay 12 = .ok (.aload_n 0, 1) := by decide +kernel
theorem dX5_goDay_13 : decode cX5_goDay 13 = .ok (.iconst 0, 1) := by decide +kernel
theorem dX5_goDay_14 : decode cX5_goDay 14 = .ok (.putfield 209, 3) := by decide +kernel
theorem dX5_goDay_17 : decode cX5_goDay 17 = .ok (.aload_n 0, 1) := by decide +kernel
theorem dX5_goDay_18 : decode cX5_goDay 18 = .ok (.iconst 0, 1) := by decide +kernel
theorem dX5_goDay_19 : decode cX5_goDay 19 = .ok (.putfield 212, 3) := by decide +kernel
theorem dX5_goDay_22 : decode cX5_goDay 22 = .ok (.aload_n 0, 1) := by decide +kernel
theorem dX5_goDay_23 : decode cX5_goDay 23 = .ok (.iconst 0, 1) := by decide +kernel
theorem dX5_goDay_24 : decode cX5_goDay 24 = .ok (.putfield 227, 3) := by decide +kernel
theorem dX5_goDay_27 : decode cX5_goDay 27 = .ok (.iconst 0, 1) := by decide +kernel
theorem dX5_goDay_28 : decode cX5_goDay 28 = .ok (.istore_n 1, 1) := by decide +kernel
theorem dX5_goDay_29 : decode cX5_goDay 29 = .ok (.iload_n 1, 1) := by decide +kernel
theorem dX5_goDay_30 : decode cX5_goDay 30 = .ok (.aload_n 0, 1) := by decide +kernel
theorem dX5_goDay_31 : decode cX5_goDay 31 = .ok (.getfield 170, 3) := by decide +kernel
theorem dX5_goDay_34 : decode cX5_goDay 34 = .ok (.if_icmp .ge 50, 3) := by decide +kernel
theorem dX5_goDay_37 : decode cX5_goDay 37 = .ok (.aload_n 0, 1) := by decide +kernel
theorem dX5_goDay_38 : decode cX5_goDay 38 = .ok (.getfield 233, 3) := by decide +kernel
theorem dX5_goDay_41 : decode cX5_goDay 41 = .ok (.ifCond .ge 43, 3) := by decide +kernel
theorem dX5_goDay_44 : decode cX5_goDay 44 = .ok (.aload_n 0, 1) := by decide +kernel
theorem dX5_goDay_45 : decode cX5_goDay 45 = .ok (.iload_n 1, 1) := by decide +kernel
theorem dX5_goDay_46 : decode cX5_goDay 46 = .ok (.invokevirtual 239, 3) := by decide +kernel
theorem dX5_goDay_49 : decode cX5_goDay 49 = .ok (.istore_n 2, 1) := by decide +kernel
theorem dX5_goDay_50 : decode cX5_goDay 50 = .ok (.aload_n 0, 1) := by decide +kernel
theorem dX5_goDay_51 : decode cX5_goDay 51 = .ok (.iload_n 2, 1) := by decide +kernel
theorem dX5_goDay_52 : decode cX5_goDay 52 = .ok (.ifCond .le 7, 3) := by decide +kernel
theorem dX5_goDay_55 : decode cX5_goDay 55 = .ok (.iload_n 1, 1) := by decide +kernel
theorem dX5_goDay_56 : decode cX5_goDay 56 = .ok (.goto 5, 3) := by decide +kernel
theorem dX5_goDay_59 : decode cX5_goDay 59 = .ok (.bipush (-6), 2) := by decide +kernel
theorem dX5_goDay_61 : decode cX5_goDay 61 = .ok (.putfield 233, 3) := by decide +kernel
theorem dX5_goDay_64 : decode cX5_goDay 64 = .ok (.aload_n 0, 1) := by decide +kernel
theorem dX5_goDay_65 : decode cX5_goDay 65 = .ok (.iload_n 2, 1) := by decide +kernel
theorem dX5_goDay_66 : decode cX5_goDay 66 = .ok (.ifCond .le 7, 3) := by decide +kernel
theorem dX5_goDay_69 : decode cX5_goDay 69 = .ok (.iload_n 2, 1) := by decide +kernel
theorem dX5_goDay_70 : decode cX5_goDay 70 = .ok (.goto 5, 3) := by decide +kernel
theorem dX5_goDay_73 : decode cX5_goDay 73 = .ok (.bipush (-6), 2) := by decide +kernel
theorem dX5_goDay_75 : decode cX5_goDay 75 = .ok (.putfield 236, 3) := by decide +kernel
theorem dX5_goDay_78 : decode cX5_goDay 78 = .ok (.iinc 1 1, 3) := by decide +kernel
theorem dX5_goDay_81 : decode cX5_goDay 81 = .ok (.goto (-52), 3) := by decide +kernel
theorem dX5_goDay_84 : decode cX5_goDay 84 = .ok (.return_, 1) := by decide +kernel
theorem dX5_judge_0 : decode cX5_judge 0 = .ok (.iload_n 1, 1) := by decide +kernel
theorem dX5_judge_1 : decode cX5_judge 1 = .ok (.i2l, 1) := by decide +kernel
theorem dX5_judge_2 : decode cX5_judge 2 = .ok (.lconst 0, 1) := by decide +kernel
theorem dX5_judge_3 : decode cX5_judge 3 = .ok (.ldc2_w 242, 3) := by decide +kernel
theorem dX5_judge_6 : decode cX5_judge 6 = .ok (.invokestatic 118, 3) := by decide +kernel
theorem dX5_judge_9 : decode cX5_judge 9 = .ok (.ifCond .ne 6, 3) := by decide +kernel
theorem dX5_judge_12 : decode cX5_judge 12 = .ok (.bipush (-2), 2) := by decide +kernel
theorem dX5_judge_14 : decode cX5_judge 14 = .ok (.ireturn, 1) := by decide +kernel
theorem dX5_judge_15 : decode cX5_judge 15 = .ok (.aload_n 0, 1) := by decide +kernel
theorem dX5_judge_16 : decode cX5_judge 16 = .ok (.invokevirtual 244, 3) := by decide +kernel
theorem dX5_judge_19 : decode cX5_judge 19 = .ok (.ifCond .lt 6, 3) := by decide +kernel
theorem dX5_judge_22 : decode cX5_judge 22 = .ok (.bipush (-5), 2) := by decide +kernel
theorem dX5_judge_24 : decode cX5_judge 24 = .ok (.ireturn, 1) := by decide +kernel
theorem dX5_judge_25 : decode cX5_judge 25 = .ok (.aload_n 0, 1) := by decide +kernel
theorem dX5_judge_26 : decode cX5_judge 26 = .ok (.invokevirtual 248, 3) := by decide +kernel
theorem dX5_judge_29 : decode cX5_judge 29 = .ok (.aload_n 0, 1) := by decide +kernel
theorem dX5_judge_30 : decode cX5_judge 30 = .ok (.invokevirtual 251, 3) := by decide +kernel
theorem dX5_judge_33 : decode cX5_judge 33 = .ok (.aload_n 0, 1) := by decide +kernel
theorem dX5_judge_34 : decode cX5_judge 34 = .ok (.invokevirtual 254, 3) := by decide +kernel
theorem dX5_judge_37 : decode cX5_judge 37 = .ok (.iload_n 1, 1) := by decide +kernel
theorem dX5_judge_38 : decode cX5_judge 38 = .ok (.iconst 1, 1) := by decide +kernel
theorem dX5_judge_39 : decode cX5_judge 39 = .ok (.if_icmp .le 13, 3) := by decide +kernel
theorem dX5_judge_42 : decode cX5_judge 42 = .ok (.aload_n 0, 1) := by decide +kernel
theorem dX5_judge_43 : decode cX5_judge 43 = .ok (.getfield 233, 3) := by decide +kernel
theorem dX5_judge_46 : decode cX5_judge 46 = .ok (.ifCond .lt 6, 3) := by decide +kernel
theorem dX5_judge_49 : decode cX5_judge 49 = .ok (.bipush (-3), 2) := by decide +kernel
theorem dX5_judge_51 : decode cX5_judge 51 = .ok (.ireturn, 1) := by decide +kernel
theorem dX5_judge_52 : decode cX5_judge 52 = .ok (.iload_n 1, 1) := by decide +kernel
theorem dX5_judge_53 : decode cX5_judge 53 = .ok (.tableswitch 51 0 3 #[31, 36, 41, 46], 31) := by decide +kernel
theorem dX5_judge_84 : decode cX5_judge 84 = .ok (.aload_n 0, 1) := by decide +kernel
theorem dX5_judge_85 : decode cX5_judge 85 = .ok (.getfield 233, 3) := by decide +kernel
theorem dX5_judge_88 : decode cX5_judge 88 = .ok (.ireturn, 1) := by decide +kernel
theorem dX5_judge_89 : decode cX5_judge 89 = .ok (.aload_n 0, 1) := by decide +kernel
theorem dX5_judge_90 : decode cX5_judge 90 = .ok (.getfield 236, 3) := by decide +kernel
theorem dX5_judge_93 : decode cX5_judge 93 = .ok (.ireturn, 1) := by decide +kernel
theorem dX5_judge_94 : decode cX5_judge 94 = .ok (.aload_n 0, 1) := by decide +kernel
theorem dX5_judge_95 : decode cX5_judge 95 = .ok (.getfield 209, 3) := by decide +kernel
theorem dX5_judge_98 : decode cX5_judge 98 = .ok (.ireturn, 1) := by decide +kernel
theorem dX5_judge_99 : decode cX5_judge 99 = .ok (.aload_n 0, 1) := by decide +kernel
theorem dX5_judge_100 : decode cX5_judge 100 = .ok (.getfield 212, 3) := by decide +kernel
theorem dX5_judge_103 : decode cX5_judge 103 = .ok (.ireturn, 1) := by decide +kernel
theorem dX5_judge_104 : decode cX5_judge 104 = .ok (.aload_n 0, 1) := by decide +kernel
theorem dX5_judge_105 : decode cX5_judge 105 = .ok (.getfield 227, 3) := by decide +kernel
theorem dX5_judge_108 : decode cX5_judge 108 = .ok (.ireturn, 1) := by decide +kernel
theorem dX5_behind_0 : decode cX5_behind 0 = .ok (.aload_n 0, 1) := by decide +kernel
theorem dX5_behind_1 : decode cX5_behind 1 = .ok (.iload_n 1, 1) := by decide +kernel
theorem dX5_behind_2 : decode cX5_behind 2 = .ok (.invokevirtual 143, 3) := by decide +kernel
theorem dX5_behind_5 : decode cX5_behind 5 = .ok (.ifCond .ne 5, 3) := by decide +kernel
theorem dX5_behind_8 : decode cX5_behind 8 = .ok (.iconst (-1), 1) := by decide +kernel
theorem dX5_behind_9 : decode cX5_behind 9 = .ok (.ireturn, 1) := by decide +kernel
theorem dX5_behind_10 : decode cX5_behind 10 = .ok (.iload_n 2, 1) := by decide +kernel
theorem dX5_behind_11 : decode cX5_behind 11 = .ok (.i2l, 1) := by decide +kernel
theorem dX5_behind_12 : decode cX5_behind 12 = .ok (.lconst 0, 1) := by decide +kernel
theorem dX5_behind_13 : decode cX5_behind 13 = .ok (.ldc2_w 126, 3) := by decide +kernel
theorem dX5_behind_16 : decode cX5_behind 16 = .ok (.invokestatic 118, 3) := by decide +kernel
theorem dX5_behind_19 : decode cX5_behind 19 = .ok (.ifCond .ne 6, 3) := by decide +kernel
theorem dX5_behind_22 : decode cX5_behind 22 = .ok (.bipush (-2), 2) := by decide +kernel
theorem dX5_behind_24 : decode cX5_behind 24 = .ok (.ireturn, 1) := by decide +kernel
theorem dX5_behind_25 : decode cX5_behind 25 = .ok (.aload_n 0, 1) := by decide +kernel
theorem dX5_behind_26 : decode cX5_behind 26 = .ok (.invokevirtual 244, 3) := by decide +kernel
theorem dX5_behind_29 : decode cX5_behind 29 = .ok (.ifCond .lt 6, 3) := by decide +kernel
theorem dX5_behind_32 : decode cX5_behind 32 = .ok (.bipush (-5), 2) := by decide +kernel
theorem dX5_behind_34 : decode cX5_behind 34 = .ok (.ireturn, 1) := by decide +kernel
theorem dX5_behind_35 : decode cX5_behind 35 = .ok (.aload_n 0, 1) := by decide +kernel
theorem dX5_behind_36 : decode cX5_behind 36 = .ok (.invokevirtual 248, 3) := by decide +kernel
theorem dX5_behind_39 : decode cX5_behind 39 = .ok (.aload_n 0, 1) := by decide +kernel
theorem dX5_behind_40 : decode cX5_behind 40 = .ok (.invokevirtual 251, 3) := by decide +kernel
theorem dX5_behind_43 : decode cX5_behind 43 = .ok (.iload_n 2, 1) := by decide +kernel
theorem dX5_behind_44 : decode cX5_behind 44 = .ok (.ifCond .ne 12, 3) := by decide +kernel
theorem dX5_behind_47 : decode cX5_behind 47 = .ok (.aload_n 0, 1) := by decide +kernel
theorem dX5_behind_48 : decode cX5_behind 48 = .ok (.getfield 22, 3) := by decide +kernel
theorem dX5_behind_51 : decode cX5_behind 51 = .ok (.iload_n 1, 1) := by decide +kernel
theorem dX5_behind_52 : decode cX5_behind 52 = .ok (.iaload, 1) := by decide +kernel
theorem dX5_behind_53 : decode cX5_behind 53 = .ok (.goto 22, 3) := by decide +kernel
theorem dX5_behind_56 : decode cX5_behind 56 = .ok (.iload_n 2, 1) := by decide +kernel
theorem dX5_behind_57 : decode cX5_behind 57 = .ok (.iconst 1, 1) := by decide +kernel
theorem dX5_behind_58 : decode cX5_behind 58 = .ok (.if_icmp .ne 11, 3) := by decide +kernel
theorem dX5_behind_61 : decode cX5_behind 61 = .ok (.aload_n 0, 1) := by decide +kernel
theorem dX5_behind_62 : decode cX5_behind 62 = .ok (.iload_n 1, 1) := by decide +kernel
theorem dX5_behind_63 : decode cX5_behind 63 = .ok (.invokevirtual 206, 3) := by decide +kernel
theorem dX5_behind_66 : decode cX5_behind 66 = .ok (.goto 9, 3) := by decide +kernel
theorem dX5_behind_69 : decode cX5_behind 69 = .ok (.aload_n 0, 1) := by decide +kernel
theorem dX5_behind_70 : decode cX5_behind 70 = .ok (.getfield 28, 3) := by decide +kernel
theorem dX5_behind_73 : decode cX5_behind 73 = .ok (.iload_n 1, 1) := by decide +kernel
theorem dX5_behind_74 : decode cX5_behind 74 = .ok (.iaload, 1) := by decide +kernel
theorem dX5_behind_75 : decode cX5_behind 75 = .ok (.istore_n 3, 1) := by decide +kernel
theorem dX5_behind_76 : decode cX5_behind 76 = .ok (.aload_n 0, 1) := by decide +kernel
theorem dX5_behind_77 : decode cX5_behind 77 = .ok (.invokevirtual 254, 3) := by decide +kernel
theorem dX5_behind_80 : decode cX5_behind 80 = .ok (.aload_n 0, 1) := by decide +kernel
theorem dX5_behind_81 : decode cX5_behind 81 = .ok (.getfield 233, 3) := by decide +kernel
theorem dX5_behind_84 : decode cX5_behind 84 = .ok (.ifCond .lt 8, 3) := by decide +kernel
theorem dX5_behind_87 : decode cX5_behind 87 = .ok (.bipush (-3), 2) := by decide +kernel
theorem dX5_behind_89 : decode cX5_behind 89 = .ok (.goto 4, 3) := by decide +kernel
theorem dX5_behind_92 : decode cX5_behind 92 = .ok (.iload_n 3, 1) := by decide +kernel
theorem dX5_behind_93 : decode cX5_behind 93 = .ok (.ireturn, 1) := by decide +kernel
theorem dX5_done_0 : decode cX5_done 0 = .ok (.aload_n 0, 1) := by decide +kernel
theorem dX5_done_1 : decode cX5_done 1 = .ok (.invokevirtual 244, 3) := by decide +kernel
theorem dX5_done_4 : decode cX5_done 4 = .ok (.ifCond .lt 6, 3) := by decide +kernel
theorem dX5_done_7 : decode cX5_done 7 = .ok (.bipush (-5), 2) := by decide +kernel
theorem dX5_done_9 : decode cX5_done 9 = .ok (.ireturn, 1) := by decide +kernel
theorem dX5_done_10 : decode cX5_done 10 = .ok (.aload_n 0, 1) := by decide +kernel
theorem dX5_done_11 : decode cX5_done 11 = .ok (.invokevirtual 248, 3) := by decide +kernel
theorem dX5_done_14 : decode cX5_done 14 = .ok (.aload_n 0, 1) := by decide +kernel
theorem dX5_done_15 : decode cX5_done 15 = .ok (.invokevirtual 251, 3) := by decide +kernel
theorem dX5_done_18 : decode cX5_done 18 = .ok (.aload_n 0, 1) := by decide +kernel
theorem dX5_done_19 : decode cX5_done 19 = .ok (.getfield 233, 3) := by decide +kernel
theorem dX5_done_22 : decode cX5_done 22 = .ok (.ifCond .lt 10, 3) := by decide +kernel
theorem dX5_done_25 : decode cX5_done 25 = .ok (.aload_n 0, 1) := by decide +kernel
theorem dX5_done_26 : decode cX5_done 26 = .ok (.invokevirtual 254, 3) := by decide +kernel
theorem dX5_done_29 : decode cX5_done 29 = .ok (.bipush (-3), 2) := by decide +kernel
theorem dX5_done_31 : decode cX5_done 31 = .ok (.ireturn, 1) := by decide +kernel
theorem dX5_done_32 : decode cX5_done 32 = .ok (.aload_n 0, 1) := by decide +kernel
theorem dX5_done_33 : decode cX5_done 33 = .ok (.iconst 0, 1) := by decide +kernel
theorem dX5_done_34 : decode cX5_done 34 = .ok (.putfield 159, 3) := by decide +kernel
theorem dX5_done_37 : decode cX5_done 37 = .ok (.aload_n 0, 1) := by decide +kernel
theorem dX5_done_38 : decode cX5_done 38 = .ok (.getfield 170, 3) := by decide +kernel
theorem dX5_done_41 : decode cX5_done 41 = .ok (.ireturn, 1) := by decide +kernel
theorem dX5_bearing_0 : decode cX5_bearing 0 = .ok (.iconst 0, 1) := by decide +kernel
theorem dX5_bearing_1 : decode cX5_bearing 1 = .ok (.istore_n 2, 1) := by decide +kernel
theorem dX5_bearing_2 : decode cX5_bearing 2 = .ok (.iconst 0, 1) := by decide +kernel
theorem dX5_bearing_3 : decode cX5_bearing 3 = .ok (.istore_n 3, 1) := by decide +kernel
theorem dX5_bearing_4 : decode cX5_bearing 4 = .ok (.iload_n 3, 1) := by decide +kernel
theorem dX5_bearing_5 : decode cX5_bearing 5 = .ok (.bipush 8, 2) := by decide +kernel
theorem dX5_bearing_7 : decode cX5_bearing 7 = .ok (.if_icmp .ge 37, 3) := by decide +kernel
theorem dX5_bearing_10 : decode cX5_bearing 10 = .ok (.iload_n 2, 1) := by decide +kernel
theorem dX5_bearing_11 : decode cX5_bearing 11 = .ok (.aload_n 0, 1) := by decide +kernel
theorem dX5_bearing_12 : decode cX5_bearing 12 = .ok (.iload_n 3, 1) := by decide +kernel
theorem dX5_bearing_13 : decode cX5_bearing 13 = .ok (.invokevirtual 140, 3) := by decide +kernel
theorem dX5_bearing_16 : decode cX5_bearing 16 = .ok (.ifCond .eq 19, 3) := by decide +kernel
theorem dX5_bearing_19 : decode cX5_bearing 19 = .ok (.aload_n 0, 1) := by decide +kernel
theorem dX5_bearing_20 : decode cX5_bearing 20 = .ok (.getfield 16, 3) := by decide +kernel
theorem dX5_bearing_23 : decode cX5_bearing 23 = .ok (.iload_n 3, 1) := by decide +kernel
theorem dX5_bearing_24 : decode cX5_bearing 24 = .ok (.iaload, 1) := by decide +kernel
theorem dX5_bearing_25 : decode cX5_bearing 25 = .ok (.iload_n 1, 1) := by decide +kernel
theorem dX5_bearing_26 : decode cX5_bearing 26 = .ok (.if_icmp .lt 9, 3) := by decide +kernel
theorem dX5_bearing_29 : decode cX5_bearing 29 = .ok (.iconst 1, 1) := by decide +kernel
theorem dX5_bearing_30 : decode cX5_bearing 30 = .ok (.iload_n 3, 1) := by decide +kernel
theorem dX5_bearing_31 : decode cX5_bearing 31 = .ok (.ishl, 1) := by decide +kernel
theorem dX5_bearing_32 : decode cX5_bearing 32 = .ok (.goto 4, 3) := by decide +kernel
theorem dX5_bearing_35 : decode cX5_bearing 35 = .ok (.iconst 0, 1) := by decide +kernel
theorem dX5_bearing_36 : decode cX5_bearing 36 = .ok (.ior, 1) := by decide +kernel
theorem dX5_bearing_37 : decode cX5_bearing 37 = .ok (.istore_n 2, 1) := by decide +kernel
theorem dX5_bearing_38 : decode cX5_bearing 38 = .ok (.iinc 3 1, 3) := by decide +kernel
theorem dX5_bearing_41 : decode cX5_bearing 41 = .ok (.goto (-37), 3) := by decide +kernel
theorem dX5_bearing_44 : decode cX5_bearing 44 = .ok (.iload_n 2, 1) := by decide +kernel
theorem dX5_bearing_45 : decode cX5_bearing 45 = .ok (.ireturn, 1) := by decide +kernel
theorem dX5_findFar_0 : decode cX5_findFar 0 = .ok (.iconst 0, 1) := by decide +kernel
theorem dX5_findFar_1 : decode cX5_findFar 1 = .ok (.istore_n 3, 1) := by decide +kernel
theorem dX5_findFar_2 : decode cX5_findFar 2 = .ok (.iload_n 3, 1) := by decide +kernel
theorem dX5_findFar_3 : decode cX5_findFar 3 = .ok (.bipush 6, 2) := by decide +kernel
theorem dX5_findFar_5 : decode cX5_findFar 5 = .ok (.if_icmp .ge 27, 3) := by decide +kernel
theorem dX5_findFar_8 : decode cX5_findFar 8 = .ok (.aload_n 0, 1) := by decide +kernel
theorem dX5_findFar_9 : decode cX5_findFar 9 = .ok (.getfield 70, 3) := by decide +kernel
theorem dX5_findFar_12 : decode cX5_findFar 12 = .ok (.iload_n 3, 1) := by decide +kernel
theorem dX5_findFar_13 : decode cX5_findFar 13 = .ok (.iload_n 3, 1) := by decide +kernel
theorem dX5_findFar_14 : decode cX5_findFar 14 = .ok (.iload_n 1, 1) := by decide +kernel
theorem dX5_findFar_15 : decode cX5_findFar 15 = .ok (.if_icmp .ne 7, 3) := by decide +kernel
theorem dX5_findFar_18 : decode cX5_findFar 18 = .ok (.iconst 0, 1) := by decide +kernel
theorem dX5_findFar_19 : decode cX5_findFar 19 = .ok (.goto 6, 3) := by decide +kernel
theorem dX5_findFar_22 : decode cX5_findFar 22 = .ok (.sipush 1000, 3) := by decide +kernel
theorem dX5_findFar_25 : decode cX5_findFar 25 = .ok (.iastore, 1) := by decide +kernel
theorem dX5_findFar_26 : decode cX5_findFar 26 = .ok (.iinc 3 1, 3) := by decide +kernel
theorem dX5_findFar_29 : decode cX5_findFar 29 = .ok (.goto (-27), 3) := by decide +kernel
theorem dX5_findFar_32 : decode cX5_findFar 32 = .ok (.iconst 0, 1) := by decide +kernel
theorem dX5_findFar_33 : decode cX5_findFar 33 = .ok (.istore_n 3, 1) := by decide +kernel
theorem dX5_findFar_34 : decode cX5_findFar 34 = .ok (.iload_n 3, 1) := by decide +kernel
theorem dX5_findFar_35 : decode cX5_findFar 35 = .ok (.bipush 6, 2) := by decide +kernel
theorem dX5_findFar_37 : decode cX5_findFar 37 = .ok (.if_icmp .ge 143, 3) := by decide +kernel
theorem dX5_findFar_40 : decode cX5_findFar 40 = .ok (.iconst 0, 1) := by decide +kernel
theorem dX5_findFar_41 : decode cX5_findFar 41 = .ok (.istore 4, 2) := by decide +kernel
theorem dX5_findFar_43 : decode cX5_findFar 43 = .ok (.iload 4, 2) := by decide +kernel
theorem dX5_findFar_45 : decode cX5_findFar 45 = .ok (.bipush 8, 2) := by decide +kernel
theorem dX5_findFar_47 : decode cX5_findFar 47 = .ok (.if_icmp .ge 127, 3) := by decide +kernel
theorem dX5_findFar_50 : decode cX5_findFar 50 = .ok (.iload_n 2, 1) := by decide +kernel
theorem dX5_findFar_51 : decode cX5_findFar 51 = .ok (.iload 4, 2) := by decide +kernel
theorem dX5_findFar_53 : decode cX5_findFar 53 = .ok (.ishr, 1) := by decide +kernel
theorem dX5_findFar_54 : decode cX5_findFar 54 = .ok (.iconst 1, 1) := by decide +kernel
theorem dX5_findFar_55 : decode cX5_findFar 55 = .ok (.iand, 1) := by decide +kernel
theorem dX5_findFar_56 : decode cX5_findFar 56 = .ok (.iconst 1, 1) := by decide +kernel
theorem dX5_findFar_57 : decode cX5_findFar 57 = .ok (.if_icmp .ne 111, 3) := by decide +kernel
theorem dX5_findFar_60 : decode cX5_findFar 60 = .ok (.aload_n 0, 1) := by decide +kernel
theorem dX5_findFar_61 : decode cX5_findFar 61 = .ok (.getfield 7, 3) := by decide +kernel
theorem dX5_findFar_64 : decode cX5_findFar 64 = .ok (.iload 4, 2) := by decide +kernel
theorem dX5_findFar_66 : decode cX5_findFar 66 = .ok (.iaload, 1) := by decide +kernel
theorem dX5_findFar_67 : decode cX5_findFar 67 = .ok (.istore 5, 2) := by decide +kernel
theorem dX5_findFar_69 : decode cX5_findFar 69 = .ok (.aload_n 0, 1) := by decide +kernel
theorem dX5_findFar_70 : decode cX5_findFar 70 = .ok (.getfield 13, 3) := by decide +kernel
theorem dX5_findFar_73 : decode cX5_findFar 73 = .ok (.iload 4, 2) := by decide +kernel
theorem dX5_findFar_75 : decode cX5_findFar 75 = .ok (.iaload, 1) := by decide +kernel
theorem dX5_findFar_76 : decode cX5_findFar 76 = .ok (.istore 6, 2) := by decide +kernel
theorem dX5_findFar_78 : decode cX5_findFar 78 = .ok (.aload_n 0, 1) := by decide +kernel
theorem dX5_findFar_79 : decode cX5_findFar 79 = .ok (.getfield 70, 3) := by decide +kernel
theorem dX5_findFar_82 : decode cX5_findFar 82 = .ok (.iload 5, 2) := by decide +kernel
theorem dX5_findFar_84 : decode cX5_findFar 84 = .ok (.aload_n 0, 1) := by decide +kernel
theorem dX5_findFar_85 : decode cX5_findFar 85 = .ok (.getfield 70, 3) := by decide +kernel
theorem dX5_findFar_88 : decode cX5_findFar 88 = .ok (.iload 6, 2) := by decide +kernel
theorem dX5_findFar_90 : decode cX5_findFar 90 = .ok (.iaload, 1) := by decide +kernel
theorem dX5_findFar_91 : decode cX5_findFar 91 = .ok (.iconst 1, 1) := by decide +kernel
theorem dX5_findFar_92 : decode cX5_findFar 92 = .ok (.iadd, 1) := by decide +kernel
theorem dX5_findFar_93 : decode cX5_findFar 93 = .ok (.aload_n 0, 1) := by decide +kernel
theorem dX5_findFar_94 : decode cX5_findFar 94 = .ok (.getfield 70, 3) := by decide +kernel
theorem dX5_findFar_97 : decode cX5_findFar 97 = .ok (.iload 5, 2) := by decide +kernel
theorem dX5_findFar_99 : decode cX5_findFar 99 = .ok (.iaload, 1) := by decide +kernel
theorem dX5_findFar_100 : decode cX5_findFar 100 = .ok (.if_icmp .ge 15, 3) := by decide +kernel
theorem dX5_findFar_103 : decode cX5_findFar 103 = .ok (.aload_n 0, 1) := by decide +kernel
theorem dX5_findFar_104 : decode cX5_findFar 104 = .ok (.getfield 70, 3) := by decide +kernel
theorem dX5_findFar_107 : decode cX5_findFar 107 = .ok (.iload 6, 2) := by decide +kernel
theorem dX5_findFar_109 : decode cX5_findFar 109 = .ok (.iaload, 1) := by decide +kernel
theorem dX5_findFar_110 : decode cX5_findFar 110 = .ok (.iconst 1, 1) := by decide +kernel
theorem dX5_findFar_111 : decode cX5_findFar 111 = .ok (.iadd, 1) := by decide +kernel
theorem dX5_findFar_112 : decode cX5_findFar 112 = .ok (.goto 10, 3) := by decide +kernel
theorem dX5_findFar_115 : decode cX5_findFar 115 = .ok (.aload_n 0, 1) := by decide +kernel
theorem dX5_findFar_116 : decode cX5_findFar 116 = .ok (.getfield 70, 3) := by decide +kernel
theorem dX5_findFar_119 : decode cX5_findFar 119 = .ok (.iload 5, 2) := by decide +kernel
theorem dX5_findFar_121 : decode cX5_findFar 121 = .ok (.iaload, 1) := by decide +kernel
theorem dX5_findFar_122 : decode cX5_findFar 122 = .ok (.iastore, 1) := by decide +kernel
theorem dX5_findFar_123 : decode cX5_findFar 123 = .ok (.aload_n 0, 1) := by decide +kernel
theorem dX5_findFar_124 : decode cX5_findFar 124 = .ok (.getfield 70, 3) := by decide +kernel
theorem dX5_findFar_127 : decode cX5_findFar 127 = .ok (.iload 6, 2) := by decide +kernel
theorem dX5_findFar_129 : decode cX5_findFar 129 = .ok (.aload_n 0, 1) := by decide +kernel
theorem dX5_findFar_130 : decode cX5_findFar 130 = .ok (.getfield 70, 3) := by decide +kernel
theorem dX5_findFar_133 : decode cX5_findFar 133 = .ok (.iload 5, 2) := by decide +kernel
theorem dX5_findFar_135 : decode cX5_findFar 135 = .ok (.iaload, 1) := by decide +kernel
theorem dX5_findFar_136 : decode cX5_findFar 136 = .ok (.iconst 1, 1) := by decide +kernel
theorem dX5_findFar_137 : decode cX5_findFar 137 = .ok (.iadd, 1) := by decide +kernel
theorem dX5_findFar_138 : decode cX5_findFar 138 = .ok (.aload_n 0, 1) := by decide +kernel
theorem dX5_findFar_139 : decode cX5_findFar 139 = .ok (.getfield 70, 3) := by decide +kernel
theorem dX5_findFar_142 : decode cX5_findFar 142 = .ok (.iload 6, 2) := by decide +kernel
theorem dX5_findFar_144 : decode cX5_findFar 144 = .ok (.iaload, 1) := by decide +kernel
theorem dX5_findFar_145 : decode cX5_findFar 145 = .ok (.if_icmp .ge 15, 3) := by decide +kernel
theorem dX5_findFar_148 : decode cX5_findFar 148 = .ok (.aload_n 0, 1) := by decide +kernel
theorem dX5_findFar_149 : decode cX5_findFar 149 = .ok (.getfield 70, 3) := by decide +kernel
theorem dX5_findFar_152 : decode cX5_findFar 152 = .ok (.iload 5, 2) := by decide +kernel
theorem dX5_findFar_154 : decode cX5_findFar 154 = .ok (.iaload, 1) := by decide +kernel
theorem dX5_findFar_155 : decode cX5_findFar 155 = .ok (.iconst 1, 1) := by decide +kernel
theorem dX5_findFar_156 : decode cX5_findFar 156 = .ok (.iadd, 1) := by decide +kernel
theorem dX5_findFar_157 : decode cX5_findFar 157 = .ok (.goto 10, 3) := by decide +kernel
theorem dX5_findFar_160 : decode cX5_findFar 160 = .ok (.aload_n 0, 1) := by decide +kernel
theorem dX5_findFar_161 : decode cX5_findFar 161 = .ok (.getfield 70, 3) := by decide +kernel
theorem dX5_findFar_164 : decode cX5_findFar 164 = .ok (.iload 6, 2) := by decide +kernel
theorem dX5_findFar_166 : decode cX5_findFar 166 = .ok (.iaload, 1) := by decide +kernel
theorem dX5_findFar_167 : decode cX5_findFar 167 = .ok (.iastore, 1) := by decide +kernel
theorem dX5_findFar_168 : decode cX5_findFar 168 = .ok (.iinc 4 1, 3) := by decide +kernel
theorem dX5_findFar_171 : decode cX5_findFar 171 = .ok (.goto (-128), 3) := by decide +kernel
theorem dX5_findFar_174 : decode cX5_findFar 174 = .ok (.iinc 3 1, 3) := by decide +kernel
theorem dX5_findFar_177 : decode cX5_findFar 177 = .ok (.goto (-143), 3) := by decide +kernel
theorem dX5_findFar_180 : decode cX5_findFar 180 = .ok (.return_, 1) := by decide +kernel
theorem dX5_farBy_0 : decode cX5_farBy 0 = .ok (.aload_n 0, 1) := by decide +kernel
theorem dX5_farBy_1 : decode cX5_farBy 1 = .ok (.iload_n 2, 1) := by decide +kernel
theorem dX5_farBy_2 : decode cX5_farBy 2 = .ok (.aload_n 0, 1) := by decide +kernel
theorem dX5_farBy_3 : decode cX5_farBy 3 = .ok (.iload_n 3, 1) := by decide +kernel
theorem dX5_farBy_4 : decode cX5_farBy 4 = .ok (.invokevirtual 257, 3) := by decide +kernel
theorem dX5_farBy_7 : decode cX5_farBy 7 = .ok (.invokevirtual 260, 3) := by decide +kernel
theorem dX5_farBy_10 : decode cX5_farBy 10 = .ok (.aload_n 0, 1) := by decide +kernel
theorem dX5_farBy_11 : decode cX5_farBy 11 = .ok (.getfield 70, 3) := by decide +kernel
theorem dX5_farBy_14 : decode cX5_farBy 14 = .ok (.iload_n 1, 1) := by decide +kernel
theorem dX5_farBy_15 : decode cX5_farBy 15 = .ok (.iaload, 1) := by decide +kernel
theorem dX5_farBy_16 : decode cX5_farBy 16 = .ok (.ireturn, 1) := by decide +kernel
theorem dX5_hasWay_0 : decode cX5_hasWay 0 = .ok (.aload_n 0, 1) := by decide +kernel
theorem dX5_hasWay_1 : decode cX5_hasWay 1 = .ok (.aload_n 0, 1) := by decide +kernel
theorem dX5_hasWay_2 : decode cX5_hasWay 2 = .ok (.getfield 22, 3) := by decide +kernel
theorem dX5_hasWay_5 : decode cX5_hasWay 5 = .ok (.iload_n 1, 1) := by decide +kernel
theorem dX5_hasWay_6 : decode cX5_hasWay 6 = .ok (.iaload, 1) := by decide +kernel
theorem dX5_hasWay_7 : decode cX5_hasWay 7 = .ok (.iload_n 2, 1) := by decide +kernel
theorem dX5_hasWay_8 : decode cX5_hasWay 8 = .ok (.iload_n 3, 1) := by decide +kernel
theorem dX5_hasWay_9 : decode cX5_hasWay 9 = .ok (.invokevirtual 264, 3) := by decide +kernel
theorem dX5_hasWay_12 : decode cX5_hasWay 12 = .ok (.sipush 1000, 3) := by decide +kernel
theorem dX5_hasWay_15 : decode cX5_hasWay 15 = .ok (.if_icmp .ge 7, 3) := by decide +kernel
theorem dX5_hasWay_18 : decode cX5_hasWay 18 = .ok (.iconst 1, 1) := by decide +kernel
theorem dX5_hasWay_19 : decode cX5_hasWay 19 = .ok (.goto 4, 3) := by decide +kernel
theorem dX5_hasWay_22 : decode cX5_hasWay 22 = .ok (.iconst 0, 1) := by decide +kernel
theorem dX5_hasWay_23 : decode cX5_hasWay 23 = .ok (.ireturn, 1) := by decide +kernel
theorem dX5_isAsked_0 : decode cX5_isAsked 0 = .ok (.aload_n 0, 1) := by decide +kernel
theorem dX5_isAsked_1 : decode cX5_isAsked 1 = .ok (.iload_n 1, 1) := by decide +kernel
theorem dX5_isAsked_2 : decode cX5_isAsked 2 = .ok (.invokevirtual 143, 3) := by decide +kernel
theorem dX5_isAsked_5 : decode cX5_isAsked 5 = .ok (.ifCond .eq 15, 3) := by decide +kernel
theorem dX5_isAsked_8 : decode cX5_isAsked 8 = .ok (.aload_n 0, 1) := by decide +kernel
theorem dX5_isAsked_9 : decode cX5_isAsked 9 = .ok (.iload_n 2, 1) := by decide +kernel
theorem dX5_isAsked_10 : decode cX5_isAsked 10 = .ok (.invokevirtual 130, 3) := by decide +kernel
theorem dX5_isAsked_13 : decode cX5_isAsked 13 = .ok (.ifCond .eq 7, 3) := by decide +kernel
theorem dX5_isAsked_16 : decode cX5_isAsked 16 = .ok (.iconst 1, 1) := by decide +kernel
theorem dX5_isAsked_17 : decode cX5_isAsked 17 = .ok (.goto 4, 3) := by decide +kernel
theorem dX5_isAsked_20 : decode cX5_isAsked 20 = .ok (.iconst 0, 1) := by decide +kernel
theorem dX5_isAsked_21 : decode cX5_isAsked 21 = .ok (.ireturn, 1) := by decide +kernel
theorem dX5_way_0 : decode cX5_way 0 = .ok (.aload_n 0, 1) := by decide +kernel
theorem dX5_way_1 : decode cX5_way 1 = .ok (.iload_n 1, 1) := by decide +kernel
theorem dX5_way_2 : decode cX5_way 2 = .ok (.iload_n 2, 1) := by decide +kernel
theorem dX5_way_3 : decode cX5_way 3 = .ok (.invokevirtual 267, 3) := by decide +kernel
theorem dX5_way_6 : decode cX5_way 6 = .ok (.ifCond .ne 5, 3) := by decide +kernel
theorem dX5_way_9 : decode cX5_way 9 = .ok (.iconst (-1), 1) := by decide +kernel
theorem dX5_way_10 : decode cX5_way 10 = .ok (.ireturn, 1) := by decide +kernel
theorem dX5_way_11 : decode cX5_way 11 = .ok (.aload_n 0, 1) := by decide +kernel
theorem dX5_way_12 : decode cX5_way 12 = .ok (.aload_n 0, 1) := by decide +kernel
theorem dX5_way_13 : decode cX5_way 13 = .ok (.iload_n 1, 1) := by decide +kernel
theorem dX5_way_14 : decode cX5_way 14 = .ok (.invokevirtual 206, 3) := by decide +kernel
theorem dX5_way_17 : decode cX5_way 17 = .ok (.invokevirtual 257, 3) := by decide +kernel
theorem dX5_way_20 : decode cX5_way 20 = .ok (.istore 4, 2) := by decide +kernel
theorem dX5_way_22 : decode cX5_way 22 = .ok (.aload_n 0, 1) := by decide +kernel
theorem dX5_way_23 : decode cX5_way 23 = .ok (.iload_n 2, 1) := by decide +kernel
theorem dX5_way_24 : decode cX5_way 24 = .ok (.iload 4, 2) := by decide +kernel
theorem dX5_way_26 : decode cX5_way 26 = .ok (.invokevirtual 260, 3) := by decide +kernel
theorem dX5_way_29 : decode cX5_way 29 = .ok (.aload_n 0, 1) := by decide +kernel
theorem dX5_way_30 : decode cX5_way 30 = .ok (.getfield 22, 3) := by decide +kernel
theorem dX5_way_33 : decode cX5_way 33 = .ok (.iload_n 1, 1) := by decide +kernel
theorem dX5_way_34 : decode cX5_way 34 = .ok (.iaload, 1) := by decide +kernel
theorem dX5_way_35 : decode cX5_way 35 = .ok (.istore 5, 2) := by decide +kernel
theorem dX5_way_37 : decode cX5_way 37 = .ok (.aload_n 0, 1) := by decide +kernel
theorem dX5_way_38 : decode cX5_way 38 = .ok (.getfield 70, 3) := by decide +kernel
theorem dX5_way_41 : decode cX5_way 41 = .ok (.iload 5, 2) := by decide +kernel
theorem dX5_way_43 : decode cX5_way 43 = .ok (.iaload, 1) := by decide +kernel
theorem dX5_way_44 : decode cX5_way 44 = .ok (.istore 6, 2) := by decide +kernel
theorem dX5_way_46 : decode cX5_way 46 = .ok (.iload 6, 2) := by decide +kernel
theorem dX5_way_48 : decode cX5_way 48 = .ok (.sipush 1000, 3) := by decide +kernel
theorem dX5_way_51 : decode cX5_way 51 = .ok (.if_icmp .eq 8, 3) := by decide +kernel
theorem dX5_way_54 : decode cX5_way 54 = .ok (.iload_n 3, 1) := by decide +kernel
theorem dX5_way_55 : decode cX5_way 55 = .ok (.iconst (-1), 1) := by decide +kernel
theorem dX5_way_56 : decode cX5_way 56 = .ok (.if_icmp .ne 19, 3) := by decide +kernel
theorem dX5_way_59 : decode cX5_way 59 = .ok (.iload 6, 2) := by decide +kernel
theorem dX5_way_61 : decode cX5_way 61 = .ok (.sipush 1000, 3) := by decide +kernel
theorem dX5_way_64 : decode cX5_way 64 = .ok (.if_icmp .ne 8, 3) := by decide +kernel
theorem dX5_way_67 : decode cX5_way 67 = .ok (.bipush (-6), 2) := by decide +kernel
theorem dX5_way_69 : decode cX5_way 69 = .ok (.goto 5, 3) := by decide +kernel
theorem dX5_way_72 : decode cX5_way 72 = .ok (.iload 6, 2) := by decide +kernel
theorem dX5_way_74 : decode cX5_way 74 = .ok (.ireturn, 1) := by decide +kernel
theorem dX5_way_75 : decode cX5_way 75 = .ok (.iload_n 3, 1) := by decide +kernel
theorem dX5_way_76 : decode cX5_way 76 = .ok (.i2l, 1) := by decide +kernel
theorem dX5_way_77 : decode cX5_way 77 = .ok (.lconst 0, 1) := by decide +kernel
theorem dX5_way_78 : decode cX5_way 78 = .ok (.iload 6, 2) := by decide +kernel
theorem dX5_way_80 : decode cX5_way 80 = .ok (.iconst 1, 1) := by decide +kernel
theorem dX5_way_81 : decode cX5_way 81 = .ok (.isub, 1) := by decide +kernel
theorem dX5_way_82 : decode cX5_way 82 = .ok (.i2l, 1) := by decide +kernel
theorem dX5_way_83 : decode cX5_way 83 = .ok (.invokestatic 118, 3) := by decide +kernel
theorem dX5_way_86 : decode cX5_way 86 = .ok (.ifCond .ne 6, 3) := by decide +kernel
theorem dX5_way_89 : decode cX5_way 89 = .ok (.bipush (-6), 2) := by decide +kernel
theorem dX5_way_91 : decode cX5_way 91 = .ok (.ireturn, 1) := by decide +kernel
theorem dX5_way_92 : decode cX5_way 92 = .ok (.bipush (-6), 2) := by decide +kernel
theorem dX5_way_94 : decode cX5_way 94 = .ok (.istore 7, 2) := by decide +kernel
theorem dX5_way_96 : decode cX5_way 96 = .ok (.iconst 0, 1) := by decide +kernel
theorem dX5_way_97 : decode cX5_way 97 = .ok (.istore 8, 2) := by decide +kernel
theorem dX5_way_99 : decode cX5_way 99 = .ok (.iload 8, 2) := by decide +kernel
theorem dX5_way_101 : decode cX5_way 101 = .ok (.iload_n 3, 1) := by decide +kernel
theorem dX5_way_102 : decode cX5_way 102 = .ok (.if_icmp .gt 55, 3) := by decide +kernel
theorem dX5_way_105 : decode cX5_way 105 = .ok (.iconst 0, 1) := by decide +kernel
theorem dX5_way_106 : decode cX5_way 106 = .ok (.istore 9, 2) := by decide +kernel
theorem dX5_way_108 : decode cX5_way 108 = .ok (.aload_n 0, 1) := by decide +kernel
theorem dX5_way_109 : decode cX5_way 109 = .ok (.iload 9, 2) := by decide +kernel
theorem dX5_way_111 : decode cX5_way 111 = .ok (.iload 5, 2) := by decide +kernel
theorem dX5_way_113 : decode cX5_way 113 = .ok (.iload 4, 2) := by decide +kernel
theorem dX5_way_115 : decode cX5_way 115 = .ok (.invokevirtual 271, 3) := by decide +kernel
theorem dX5_way_118 : decode cX5_way 118 = .ok (.ifCond .ne 9, 3) := by decide +kernel
theorem dX5_way_121 : decode cX5_way 121 = .ok (.iinc 9 1, 3) := by decide +kernel
theorem dX5_way_124 : decode cX5_way 124 = .ok (.goto (-16), 3) := by decide +kernel
theorem dX5_way_127 : decode cX5_way 127 = .ok (.iload 9, 2) := by decide +kernel
theorem dX5_way_129 : decode cX5_way 129 = .ok (.istore 7, 2) := by decide +kernel
theorem dX5_way_131 : decode cX5_way 131 = .ok (.aload_n 0, 1) := by decide +kernel
theorem dX5_way_132 : decode cX5_way 132 = .ok (.getfield 7, 3) := by decide +kernel
theorem dX5_way_135 : decode cX5_way 135 = .ok (.iload 9, 2) := by decide +kernel
theorem dX5_way_137 : decode cX5_way 137 = .ok (.iaload, 1) := by decide +kernel
theorem dX5_way_138 : decode cX5_way 138 = .ok (.aload_n 0, 1) := by decide +kernel
theorem dX5_way_139 : decode cX5_way 139 = .ok (.getfield 13, 3) := by decide +kernel
theorem dX5_way_142 : decode cX5_way 142 = .ok (.iload 9, 2) := by decide +kernel
theorem dX5_way_144 : decode cX5_way 144 = .ok (.iaload, 1) := by decide +kernel
theorem dX5_way_145 : decode cX5_way 145 = .ok (.iadd, 1) := by decide +kernel
theorem dX5_way_146 : decode cX5_way 146 = .ok (.iload 5, 2) := by decide +kernel
theorem dX5_way_148 : decode cX5_way 148 = .ok (.isub, 1) := by decide +kernel
theorem dX5_way_149 : decode cX5_way 149 = .ok (.istore 5, 2) := by decide +kernel
theorem dX5_way_151 : decode cX5_way 151 = .ok (.iinc 8 1, 3) := by decide +kernel
theorem dX5_way_154 : decode cX5_way 154 = .ok (.goto (-55), 3) := by decide +kernel
theorem dX5_way_157 : decode cX5_way 157 = .ok (.iload 7, 2) := by decide +kernel
theorem dX5_way_159 : decode cX5_way 159 = .ok (.ireturn, 1) := by decide +kernel
theorem dX5_leadsOn_0 : decode cX5_leadsOn 0 = .ok (.iload_n 3, 1) := by decide +kernel
theorem dX5_leadsOn_1 : decode cX5_leadsOn 1 = .ok (.iload_n 1, 1) := by decide +kernel
theorem dX5_leadsOn_2 : decode cX5_leadsOn 2 = .ok (.ishr, 1) := by decide +kernel
theorem dX5_leadsOn_3 : decode cX5_leadsOn 3 = .ok (.iconst 1, 1) := by decide +kernel
theorem dX5_leadsOn_4 : decode cX5_leadsOn 4 = .ok (.iand, 1) := by decide +kernel
theorem dX5_leadsOn_5 : decode cX5_leadsOn 5 = .ok (.iconst 1, 1) := by decide +kernel
theorem dX5_leadsOn_6 : decode cX5_leadsOn 6 = .ok (.if_icmp .ne 27, 3) := by decide +kernel
theorem dX5_leadsOn_9 : decode cX5_leadsOn 9 = .ok (.aload_n 0, 1) := by decide +kernel
theorem dX5_leadsOn_10 : decode cX5_leadsOn 10 = .ok (.getfield 7, 3) := by decide +kernel
theorem dX5_leadsOn_13 : decode cX5_leadsOn 13 = .ok (.iload_n 1, 1) := by decide +kernel
theorem dX5_leadsOn_14 : decode cX5_leadsOn 14 = .ok (.iaload, 1) := by decide +kernel
theorem dX5_leadsOn_15 : decode cX5_leadsOn 15 = .ok (.iload_n 2, 1) := by decide +kernel
theorem dX5_leadsOn_16 : decode cX5_leadsOn 16 = .ok (.if_icmp .eq 13, 3) := by decide +kernel
theorem dX5_leadsOn_19 : decode cX5_leadsOn 19 = .ok (.aload_n 0, 1) := by decide +kernel
theorem dX5_leadsOn_20 : decode cX5_leadsOn 20 = .ok (.getfield 13, 3) := by decide +kernel
theorem dX5_leadsOn_23 : decode cX5_leadsOn 23 = .ok (.iload_n 1, 1) := by decide +kernel
theorem dX5_leadsOn_24 : decode cX5_leadsOn 24 = .ok (.iaload, 1) := by decide +kernel
theorem dX5_leadsOn_25 : decode cX5_leadsOn 25 = .ok (.iload_n 2, 1) := by decide +kernel
theorem dX5_leadsOn_26 : decode cX5_leadsOn 26 = .ok (.if_icmp .ne 7, 3) := by decide +kernel
theorem dX5_leadsOn_29 : decode cX5_leadsOn 29 = .ok (.iconst 1, 1) := by decide +kernel
theorem dX5_leadsOn_30 : decode cX5_leadsOn 30 = .ok (.goto 4, 3) := by decide +kernel
theorem dX5_leadsOn_33 : decode cX5_leadsOn 33 = .ok (.iconst 0, 1) := by decide +kernel
theorem dX5_leadsOn_34 : decode cX5_leadsOn 34 = .ok (.istore 4, 2) := by decide +kernel
theorem dX5_leadsOn_36 : decode cX5_leadsOn 36 = .ok (.iload 4, 2) := by decide +kernel
theorem dX5_leadsOn_38 : decode cX5_leadsOn 38 = .ok (.ifCond .eq 38, 3) := by decide +kernel
theorem dX5_leadsOn_41 : decode cX5_leadsOn 41 = .ok (.aload_n 0, 1) := by decide +kernel
theorem dX5_leadsOn_42 : decode cX5_leadsOn 42 = .ok (.getfield 70, 3) := by decide +kernel
theorem dX5_leadsOn_45 : decode cX5_leadsOn 45 = .ok (.aload_n 0, 1) := by decide +kernel
theorem dX5_leadsOn_46 : decode cX5_leadsOn 46 = .ok (.getfield 7, 3) := by decide +kernel
theorem dX5_leadsOn_49 : decode cX5_leadsOn 49 = .ok (.iload_n 1, 1) := by decide +kernel
theorem dX5_leadsOn_50 : decode cX5_leadsOn 50 = .ok (.iaload, 1) := by decide +kernel
theorem dX5_leadsOn_51 : decode cX5_leadsOn 51 = .ok (.aload_n 0, 1) := by decide +kernel
theorem dX5_leadsOn_52 : decode cX5_leadsOn 52 = .ok (.getfield 13, 3) := by decide +kernel
theorem dX5_leadsOn_55 : decode cX5_leadsOn 55 = .ok (.iload_n 1, 1) := by decide +kernel
theorem dX5_leadsOn_56 : decode cX5_leadsOn 56 = .ok (.iaload, 1) := by decide +kernel
theorem dX5_leadsOn_57 : decode cX5_leadsOn 57 = .ok (.iadd, 1) := by decide +kernel
theorem dX5_leadsOn_58 : decode cX5_leadsOn 58 = .ok (.iload_n 2, 1) := by decide +kernel
theorem dX5_leadsOn_59 : decode cX5_leadsOn 59 = .ok (.isub, 1) := by decide +kernel
theorem dX5_leadsOn_60 : decode cX5_leadsOn 60 = .ok (.iaload, 1) := by decide +kernel
theorem dX5_leadsOn_61 : decode cX5_leadsOn 61 = .ok (.aload_n 0, 1) := by decide +kernel
theorem dX5_leadsOn_62 : decode cX5_leadsOn 62 = .ok (.getfield 70, 3) := by decide +kernel
theorem dX5_leadsOn_65 : decode cX5_leadsOn 65 = .ok (.iload_n 2, 1) := by decide +kernel
theorem dX5_leadsOn_66 : decode cX5_leadsOn 66 = .ok (.iaload, 1) := by decide +kernel
theorem dX5_leadsOn_67 : decode cX5_leadsOn 67 = .ok (.iconst 1, 1) := by decide +kernel
theorem dX5_leadsOn_68 : decode cX5_leadsOn 68 = .ok (.isub, 1) := by decide +kernel
theorem dX5_leadsOn_69 : decode cX5_leadsOn 69 = .ok (.if_icmp .ne 7, 3) := by decide +kernel
theorem dX5_leadsOn_72 : decode cX5_leadsOn 72 = .ok (.iconst 1, 1) := by decide +kernel
theorem dX5_leadsOn_73 : decode cX5_leadsOn 73 = .ok (.goto 4, 3) := by decide +kernel
theorem dX5_leadsOn_76 : decode cX5_leadsOn 76 = .ok (.iconst 0, 1) := by decide +kernel
theorem dX5_leadsOn_77 : decode cX5_leadsOn 77 = .ok (.ireturn, 1) := by decide +kernel
theorem dX5_offerSet_0 : decode cX5_offerSet 0 = .ok (.aload_n 0, 1) := by decide +kernel
theorem dX5_offerSet_1 : decode cX5_offerSet 1 = .ok (.getfield 275, 3) := by decide +kernel
theorem dX5_offerSet_4 : decode cX5_offerSet 4 = .ok (.ifCond .lt 17, 3) := by decide +kernel
theorem dX5_offerSet_7 : decode cX5_offerSet 7 = .ok (.iload_n 1, 1) := by decide +kernel
theorem dX5_offerSet_8 : decode cX5_offerSet 8 = .ok (.invokestatic 136, 3) := by decide +kernel
theorem dX5_offerSet_11 : decode cX5_offerSet 11 = .ok (.aload_n 0, 1) := by decide +kernel
theorem dX5_offerSet_12 : decode cX5_offerSet 12 = .ok (.getfield 275, 3) := by decide +kernel
theorem dX5_offerSet_15 : decode cX5_offerSet 15 = .ok (.invokestatic 136, 3) := by decide +kernel
theorem dX5_offerSet_18 : decode cX5_offerSet 18 = .ok (.if_icmp .ge 7, 3) := by decide +kernel
theorem dX5_offerSet_21 : decode cX5_offerSet 21 = .ok (.iconst 1, 1) := by decide +kernel
theorem dX5_offerSet_22 : decode cX5_offerSet 22 = .ok (.goto 4, 3) := by decide +kernel
theorem dX5_offerSet_25 : decode cX5_offerSet 25 = .ok (.iconst 0, 1) := by decide +kernel
theorem dX5_offerSet_26 : decode cX5_offerSet 26 = .ok (.istore_n 3, 1) := by decide +kernel
theorem dX5_offerSet_27 : decode cX5_offerSet 27 = .ok (.aload_n 0, 1) := by decide +kernel
theorem dX5_offerSet_28 : decode cX5_offerSet 28 = .ok (.iload_n 2, 1) := by decide +kernel
theorem dX5_offerSet_29 : decode cX5_offerSet 29 = .ok (.ifCond .eq 11, 3) := by decide +kernel
theorem dX5_offerSet_32 : decode cX5_offerSet 32 = .ok (.iload_n 3, 1) := by decide +kernel
theorem dX5_offerSet_33 : decode cX5_offerSet 33 = .ok (.ifCond .eq 7, 3) := by decide +kernel
theorem dX5_offerSet_36 : decode cX5_offerSet 36 = .ok (.iload_n 1, 1) := by decide +kernel
theorem dX5_offerSet_37 : decode cX5_offerSet 37 = .ok (.goto 7, 3) := by decide +kernel
theorem dX5_offerSet_40 : decode cX5_offerSet 40 = .ok (.aload_n 0, 1) := by decide +kernel
theorem dX5_offerSet_41 : decode cX5_offerSet 41 = .ok (.getfield 275, 3) := by decide +kernel
theorem dX5_offerSet_44 : decode cX5_offerSet 44 = .ok (.putfield 275, 3) := by decide +kernel
theorem dX5_offerSet_47 : decode cX5_offerSet 47 = .ok (.return_, 1) := by decide +kernel
theorem dX5_tellSet_0 : decode cX5_tellSet 0 = .ok (.aload_n 0, 1) := by decide +kernel
theorem dX5_tellSet_1 : decode cX5_tellSet 1 = .ok (.getfield 275, 3) := by decide +kernel
theorem dX5_tellSet_4 : decode cX5_tellSet 4 = .ok (.ifCond .lt 8, 3) := by decide +kernel
theorem dX5_tellSet_7 : decode cX5_tellSet 7 = .ok (.iload_n 1, 1) := by decide +kernel
theorem dX5_tellSet_8 : decode cX5_tellSet 8 = .ok (.iconst 1, 1) := by decide +kernel
theorem dX5_tellSet_9 : decode cX5_tellSet 9 = .ok (.if_icmp .ne 10, 3) := by decide +kernel
theorem dX5_tellSet_12 : decode cX5_tellSet 12 = .ok (.aload_n 0, 1) := by decide +kernel
theorem dX5_tellSet_13 : decode cX5_tellSet 13 = .ok (.getfield 275, 3) := by decide +kernel
theorem dX5_tellSet_16 : decode cX5_tellSet 16 = .ok (.goto 10, 3) := by decide +kernel
theorem dX5_tellSet_19 : decode cX5_tellSet 19 = .ok (.aload_n 0, 1) := by decide +kernel
theorem dX5_tellSet_20 : decode cX5_tellSet 20 = .ok (.getfield 275, 3) := by decide +kernel
theorem dX5_tellSet_23 : decode cX5_tellSet 23 = .ok (.invokestatic 136, 3) := by decide +kernel
theorem dX5_tellSet_26 : decode cX5_tellSet 26 = .ok (.ireturn, 1) := by decide +kernel
theorem dX5_least0_0 : decode cX5_least0 0 = .ok (.iload_n 0, 1) := by decide +kernel
theorem dX5_least0_1 : decode cX5_least0 1 = .ok (.ifCond .le 7, 3) := by decide +kernel
theorem dX5_least0_4 : decode cX5_least0 4 = .ok (.iload_n 0, 1) := by decide +kernel
theorem dX5_least0_5 : decode cX5_least0 5 = .ok (.goto 4, 3) := by decide +kernel
theorem dX5_least0_8 : decode cX5_least0 8 = .ok (.iconst 0, 1) := by decide +kernel
theorem dX5_least0_9 : decode cX5_least0 9 = .ok (.ireturn, 1) := by decide +kernel
theorem dX5_left_0 : decode cX5_left 0 = .ok (.aload_n 0, 1) := by decide +kernel
theorem dX5_left_1 : decode cX5_left 1 = .ok (.iload_n 1, 1) := by decide +kernel
theorem dX5_left_2 : decode cX5_left 2 = .ok (.iload_n 2, 1) := by decide +kernel
theorem dX5_left_3 : decode cX5_left 3 = .ok (.invokevirtual 267, 3) := by decide +kernel
theorem dX5_left_6 : decode cX5_left 6 = .ok (.ifCond .ne 5, 3) := by decide +kernel
theorem dX5_left_9 : decode cX5_left 9 = .ok (.iconst (-1), 1) := by decide +kernel
theorem dX5_left_10 : decode cX5_left 10 = .ok (.ireturn, 1) := by decide +kernel
theorem dX5_left_11 : decode cX5_left 11 = .ok (.iload_n 3, 1) := by decide +kernel
theorem dX5_left_12 : decode cX5_left 12 = .ok (.i2l, 1) := by decide +kernel
theorem dX5_left_13 : decode cX5_left 13 = .ok (.lconst 0, 1) := by decide +kernel
theorem dX5_left_14 : decode cX5_left 14 = .ok (.lconst 1, 1) := by decide +kernel
theorem dX5_left_15 : decode cX5_left 15 = .ok (.invokestatic 118, 3) := by decide +kernel
theorem dX5_left_18 : decode cX5_left 18 = .ok (.ifCond .ne 6, 3) := by decide +kernel
theorem dX5_left_21 : decode cX5_left 21 = .ok (.bipush (-2), 2) := by decide +kernel
theorem dX5_left_23 : decode cX5_left 23 = .ok (.ireturn, 1) := by decide +kernel
theorem dX5_left_24 : decode cX5_left 24 = .ok (.aload_n 0, 1) := by decide +kernel
theorem dX5_left_25 : decode cX5_left 25 = .ok (.bipush (-6), 2) := by decide +kernel
theorem dX5_left_27 : decode cX5_left 27 = .ok (.putfield 275, 3) := by decide +kernel
theorem dX5_left_30 : decode cX5_left 30 = .ok (.iconst 0, 1) := by decide +kernel
theorem dX5_left_31 : decode cX5_left 31 = .ok (.istore 4, 2) := by decide +kernel
theorem dX5_left_33 : decode cX5_left 33 = .ok (.iload 4, 2) := by decide +kernel
theorem dX5_left_35 : decode cX5_left 35 = .ok (.sipush 256, 3) := by decide +kernel
theorem dX5_left_38 : decode cX5_left 38 = .ok (.if_icmp .ge 54, 3) := by decide +kernel
theorem dX5_left_41 : decode cX5_left 41 = .ok (.iload 4, 2) := by decide +kernel
theorem dX5_left_43 : decode cX5_left 43 = .ok (.aload_n 0, 1) := by decide +kernel
theorem dX5_left_44 : decode cX5_left 44 = .ok (.getfield 28, 3) := by decide +kernel
theorem dX5_left_47 : decode cX5_left 47 = .ok (.iload_n 1, 1) := by decide +kernel
theorem dX5_left_48 : decode cX5_left 48 = .ok (.iaload, 1) := by decide +kernel
theorem dX5_left_49 : decode cX5_left 49 = .ok (.iconst (-1), 1) := by decide +kernel
theorem dX5_left_50 : decode cX5_left 50 = .ok (.ixor, 1) := by decide +kernel
theorem dX5_left_51 : decode cX5_left 51 = .ok (.iand, 1) := by decide +kernel
theorem dX5_left_52 : decode cX5_left 52 = .ok (.ifCond .ne 34, 3) := by decide +kernel
theorem dX5_left_55 : decode cX5_left 55 = .ok (.aload_n 0, 1) := by decide +kernel
theorem dX5_left_56 : decode cX5_left 56 = .ok (.iload 4, 2) := by decide +kernel
theorem dX5_left_58 : decode cX5_left 58 = .ok (.aload_n 0, 1) := by decide +kernel
theorem dX5_left_59 : decode cX5_left 59 = .ok (.iload_n 1, 1) := by decide +kernel
theorem dX5_left_60 : decode cX5_left 60 = .ok (.iload_n 2, 1) := by decide +kernel
theorem dX5_left_61 : decode cX5_left 61 = .ok (.aload_n 0, 1) := by decide +kernel
end
section
theorem dX5_left_62 : decode cX5_left 62 = .ok (.iload_n 1, 1) := by decide +kernel
theorem dX5_left_63 : decode cX5_left 63 = .ok (.aload_n 0, 1) := by decide +kernel
theorem dX5_left_64 : decode cX5_left 64 = .ok (.getfield 28, 3) := by decide +kernel
theorem dX5_left_67 : decode cX5_left 67 = .ok (.iload_n 1, 1) := by decide +kernel
theorem dX5_left_68 : decode cX5_left 68 = .ok (.iaload, 1) := by decide +kernel
theorem dX5_left_69 : decode cX5_left 69 = .ok (.iload 4, 2) := by decide +kernel
theorem dX5_left_71 : decode cX5_left 71 = .ok (.iconst (-1), 1) := by decide +kernel
theorem dX5_left_72 : decode cX5_left 72 = .ok (.ixor, 1) := by decide +kernel
theorem dX5_left_73 : decode cX5_left 73 = .ok (.iand, 1) := by decide +kernel
theorem dX5_left_74 : decode cX5_left 74 = .ok (.invokevirtual 202, 3) := by decide +kernel
theorem dX5_left_77 : decode cX5_left 77 = .ok (.invokestatic 278, 3) := by decide +kernel
theorem dX5_left_80 : decode cX5_left 80 = .ok (.invokevirtual 281, 3) := by decide +kernel
theorem dX5_left_83 : decode cX5_left 83 = .ok (.invokevirtual 284, 3) := by decide +kernel
theorem dX5_left_86 : decode cX5_left 86 = .ok (.iinc 4 1, 3) := by decide +kernel
theorem dX5_left_89 : decode cX5_left 89 = .ok (.goto (-56), 3) := by decide +kernel
theorem dX5_left_92 : decode cX5_left 92 = .ok (.aload_n 0, 1) := by decide +kernel
theorem dX5_left_93 : decode cX5_left 93 = .ok (.iload_n 3, 1) := by decide +kernel
theorem dX5_left_94 : decode cX5_left 94 = .ok (.invokevirtual 288, 3) := by decide +kernel
theorem dX5_left_97 : decode cX5_left 97 = .ok (.ireturn, 1) := by decide +kernel
theorem dX5_cried_0 : decode cX5_cried 0 = .ok (.aload_n 0, 1) := by decide +kernel
theorem dX5_cried_1 : decode cX5_cried 1 = .ok (.iload_n 1, 1) := by decide +kernel
theorem dX5_cried_2 : decode cX5_cried 2 = .ok (.iload_n 2, 1) := by decide +kernel
theorem dX5_cried_3 : decode cX5_cried 3 = .ok (.invokevirtual 267, 3) := by decide +kernel
theorem dX5_cried_6 : decode cX5_cried 6 = .ok (.ifCond .ne 5, 3) := by decide +kernel
theorem dX5_cried_9 : decode cX5_cried 9 = .ok (.iconst (-1), 1) := by decide +kernel
theorem dX5_cried_10 : decode cX5_cried 10 = .ok (.ireturn, 1) := by decide +kernel
theorem dX5_cried_11 : decode cX5_cried 11 = .ok (.iload_n 3, 1) := by decide +kernel
theorem dX5_cried_12 : decode cX5_cried 12 = .ok (.i2l, 1) := by decide +kernel
theorem dX5_cried_13 : decode cX5_cried 13 = .ok (.lconst 0, 1) := by decide +kernel
theorem dX5_cried_14 : decode cX5_cried 14 = .ok (.lconst 1, 1) := by decide +kernel
theorem dX5_cried_15 : decode cX5_cried 15 = .ok (.invokestatic 118, 3) := by decide +kernel
theorem dX5_cried_18 : decode cX5_cried 18 = .ok (.ifCond .ne 6, 3) := by decide +kernel
theorem dX5_cried_21 : decode cX5_cried 21 = .ok (.bipush (-2), 2) := by decide +kernel
theorem dX5_cried_23 : decode cX5_cried 23 = .ok (.ireturn, 1) := by decide +kernel
theorem dX5_cried_24 : decode cX5_cried 24 = .ok (.aload_n 0, 1) := by decide +kernel
theorem dX5_cried_25 : decode cX5_cried 25 = .ok (.getfield 112, 3) := by decide +kernel
theorem dX5_cried_28 : decode cX5_cried 28 = .ok (.istore 4, 2) := by decide +kernel
theorem dX5_cried_30 : decode cX5_cried 30 = .ok (.aload_n 0, 1) := by decide +kernel
theorem dX5_cried_31 : decode cX5_cried 31 = .ok (.bipush (-6), 2) := by decide +kernel
theorem dX5_cried_33 : decode cX5_cried 33 = .ok (.putfield 275, 3) := by decide +kernel
theorem dX5_cried_36 : decode cX5_cried 36 = .ok (.iconst 0, 1) := by decide +kernel
theorem dX5_cried_37 : decode cX5_cried 37 = .ok (.istore 5, 2) := by decide +kernel
theorem dX5_cried_39 : decode cX5_cried 39 = .ok (.iload 5, 2) := by decide +kernel
theorem dX5_cried_41 : decode cX5_cried 41 = .ok (.sipush 256, 3) := by decide +kernel
theorem dX5_cried_44 : decode cX5_cried 44 = .ok (.if_icmp .ge 35, 3) := by decide +kernel
theorem dX5_cried_47 : decode cX5_cried 47 = .ok (.aload_n 0, 1) := by decide +kernel
theorem dX5_cried_48 : decode cX5_cried 48 = .ok (.iload 4, 2) := by decide +kernel
theorem dX5_cried_50 : decode cX5_cried 50 = .ok (.iload 5, 2) := by decide +kernel
theorem dX5_cried_52 : decode cX5_cried 52 = .ok (.ior, 1) := by decide +kernel
theorem dX5_cried_53 : decode cX5_cried 53 = .ok (.putfield 112, 3) := by decide +kernel
theorem dX5_cried_56 : decode cX5_cried 56 = .ok (.aload_n 0, 1) := by decide +kernel
theorem dX5_cried_57 : decode cX5_cried 57 = .ok (.iload 5, 2) := by decide +kernel
theorem dX5_cried_59 : decode cX5_cried 59 = .ok (.aload_n 0, 1) := by decide +kernel
theorem dX5_cried_60 : decode cX5_cried 60 = .ok (.iload_n 1, 1) := by decide +kernel
theorem dX5_cried_61 : decode cX5_cried 61 = .ok (.iload_n 2, 1) := by decide +kernel
theorem dX5_cried_62 : decode cX5_cried 62 = .ok (.aload_n 0, 1) := by decide +kernel
theorem dX5_cried_63 : decode cX5_cried 63 = .ok (.iload_n 1, 1) := by decide +kernel
theorem dX5_cried_64 : decode cX5_cried 64 = .ok (.invokevirtual 206, 3) := by decide +kernel
theorem dX5_cried_67 : decode cX5_cried 67 = .ok (.invokevirtual 281, 3) := by decide +kernel
theorem dX5_cried_70 : decode cX5_cried 70 = .ok (.invokevirtual 284, 3) := by decide +kernel
theorem dX5_cried_73 : decode cX5_cried 73 = .ok (.iinc 5 1, 3) := by decide +kernel
theorem dX5_cried_76 : decode cX5_cried 76 = .ok (.goto (-37), 3) := by decide +kernel
theorem dX5_cried_79 : decode cX5_cried 79 = .ok (.aload_n 0, 1) := by decide +kernel
theorem dX5_cried_80 : decode cX5_cried 80 = .ok (.iload 4, 2) := by decide +kernel
theorem dX5_cried_82 : decode cX5_cried 82 = .ok (.putfield 112, 3) := by decide +kernel
theorem dX5_cried_85 : decode cX5_cried 85 = .ok (.aload_n 0, 1) := by decide +kernel
theorem dX5_cried_86 : decode cX5_cried 86 = .ok (.iload_n 3, 1) := by decide +kernel
theorem dX5_cried_87 : decode cX5_cried 87 = .ok (.invokevirtual 288, 3) := by decide +kernel
theorem dX5_cried_90 : decode cX5_cried 90 = .ok (.ireturn, 1) := by decide +kernel
theorem dX5_lies_0 : decode cX5_lies 0 = .ok (.iconst 0, 1) := by decide +kernel
theorem dX5_lies_1 : decode cX5_lies 1 = .ok (.istore_n 2, 1) := by decide +kernel
theorem dX5_lies_2 : decode cX5_lies 2 = .ok (.iconst 0, 1) := by decide +kernel
theorem dX5_lies_3 : decode cX5_lies 3 = .ok (.istore_n 3, 1) := by decide +kernel
theorem dX5_lies_4 : decode cX5_lies 4 = .ok (.iload_n 3, 1) := by decide +kernel
theorem dX5_lies_5 : decode cX5_lies 5 = .ok (.bipush 8, 2) := by decide +kernel
theorem dX5_lies_7 : decode cX5_lies 7 = .ok (.if_icmp .ge 64, 3) := by decide +kernel
theorem dX5_lies_10 : decode cX5_lies 10 = .ok (.aload_n 0, 1) := by decide +kernel
theorem dX5_lies_11 : decode cX5_lies 11 = .ok (.getfield 31, 3) := by decide +kernel
theorem dX5_lies_14 : decode cX5_lies 14 = .ok (.iload_n 3, 1) := by decide +kernel
theorem dX5_lies_15 : decode cX5_lies 15 = .ok (.iaload, 1) := by decide +kernel
theorem dX5_lies_16 : decode cX5_lies 16 = .ok (.ifCond .ge 31, 3) := by decide +kernel
theorem dX5_lies_19 : decode cX5_lies 19 = .ok (.aload_n 0, 1) := by decide +kernel
theorem dX5_lies_20 : decode cX5_lies 20 = .ok (.getfield 28, 3) := by decide +kernel
theorem dX5_lies_23 : decode cX5_lies 23 = .ok (.iload_n 1, 1) := by decide +kernel
theorem dX5_lies_24 : decode cX5_lies 24 = .ok (.iaload, 1) := by decide +kernel
theorem dX5_lies_25 : decode cX5_lies 25 = .ok (.iload_n 3, 1) := by decide +kernel
theorem dX5_lies_26 : decode cX5_lies 26 = .ok (.ishr, 1) := by decide +kernel
theorem dX5_lies_27 : decode cX5_lies 27 = .ok (.iconst 1, 1) := by decide +kernel
theorem dX5_lies_28 : decode cX5_lies 28 = .ok (.iand, 1) := by decide +kernel
theorem dX5_lies_29 : decode cX5_lies 29 = .ok (.ifCond .ne 18, 3) := by decide +kernel
theorem dX5_lies_32 : decode cX5_lies 32 = .ok (.aload_n 0, 1) := by decide +kernel
theorem dX5_lies_33 : decode cX5_lies 33 = .ok (.getfield 112, 3) := by decide +kernel
theorem dX5_lies_36 : decode cX5_lies 36 = .ok (.iload_n 3, 1) := by decide +kernel
theorem dX5_lies_37 : decode cX5_lies 37 = .ok (.ishr, 1) := by decide +kernel
theorem dX5_lies_38 : decode cX5_lies 38 = .ok (.iconst 1, 1) := by decide +kernel
theorem dX5_lies_39 : decode cX5_lies 39 = .ok (.iand, 1) := by decide +kernel
theorem dX5_lies_40 : decode cX5_lies 40 = .ok (.ifCond .ne 7, 3) := by decide +kernel
theorem dX5_lies_43 : decode cX5_lies 43 = .ok (.iconst 1, 1) := by decide +kernel
theorem dX5_lies_44 : decode cX5_lies 44 = .ok (.goto 4, 3) := by decide +kernel
theorem dX5_lies_47 : decode cX5_lies 47 = .ok (.iconst 0, 1) := by decide +kernel
theorem dX5_lies_48 : decode cX5_lies 48 = .ok (.istore 4, 2) := by decide +kernel
theorem dX5_lies_50 : decode cX5_lies 50 = .ok (.iload_n 2, 1) := by decide +kernel
theorem dX5_lies_51 : decode cX5_lies 51 = .ok (.iload 4, 2) := by decide +kernel
theorem dX5_lies_53 : decode cX5_lies 53 = .ok (.ifCond .eq 9, 3) := by decide +kernel
theorem dX5_lies_56 : decode cX5_lies 56 = .ok (.iconst 1, 1) := by decide +kernel
theorem dX5_lies_57 : decode cX5_lies 57 = .ok (.iload_n 3, 1) := by decide +kernel
theorem dX5_lies_58 : decode cX5_lies 58 = .ok (.ishl, 1) := by decide +kernel
theorem dX5_lies_59 : decode cX5_lies 59 = .ok (.goto 4, 3) := by decide +kernel
theorem dX5_lies_62 : decode cX5_lies 62 = .ok (.iconst 0, 1) := by decide +kernel
theorem dX5_lies_63 : decode cX5_lies 63 = .ok (.ior, 1) := by decide +kernel
theorem dX5_lies_64 : decode cX5_lies 64 = .ok (.istore_n 2, 1) := by decide +kernel
theorem dX5_lies_65 : decode cX5_lies 65 = .ok (.iinc 3 1, 3) := by decide +kernel
theorem dX5_lies_68 : decode cX5_lies 68 = .ok (.goto (-64), 3) := by decide +kernel
theorem dX5_lies_71 : decode cX5_lies 71 = .ok (.iload_n 2, 1) := by decide +kernel
theorem dX5_lies_72 : decode cX5_lies 72 = .ok (.ireturn, 1) := by decide +kernel
theorem dX5_floatedBy_0 : decode cX5_floatedBy 0 = .ok (.aload_n 0, 1) := by decide +kernel
theorem dX5_floatedBy_1 : decode cX5_floatedBy 1 = .ok (.iload_n 1, 1) := by decide +kernel
theorem dX5_floatedBy_2 : decode cX5_floatedBy 2 = .ok (.aload_n 0, 1) := by decide +kernel
theorem dX5_floatedBy_3 : decode cX5_floatedBy 3 = .ok (.getfield 28, 3) := by decide +kernel
theorem dX5_floatedBy_6 : decode cX5_floatedBy 6 = .ok (.iload_n 1, 1) := by decide +kernel
theorem dX5_floatedBy_7 : decode cX5_floatedBy 7 = .ok (.iaload, 1) := by decide +kernel
theorem dX5_floatedBy_8 : decode cX5_floatedBy 8 = .ok (.invokevirtual 202, 3) := by decide +kernel
theorem dX5_floatedBy_11 : decode cX5_floatedBy 11 = .ok (.istore_n 3, 1) := by decide +kernel
theorem dX5_floatedBy_12 : decode cX5_floatedBy 12 = .ok (.iconst 0, 1) := by decide +kernel
theorem dX5_floatedBy_13 : decode cX5_floatedBy 13 = .ok (.istore 4, 2) := by decide +kernel
theorem dX5_floatedBy_15 : decode cX5_floatedBy 15 = .ok (.iload 4, 2) := by decide +kernel
theorem dX5_floatedBy_17 : decode cX5_floatedBy 17 = .ok (.bipush 8, 2) := by decide +kernel
theorem dX5_floatedBy_19 : decode cX5_floatedBy 19 = .ok (.if_icmp .ge 41, 3) := by decide +kernel
theorem dX5_floatedBy_22 : decode cX5_floatedBy 22 = .ok (.iload_n 3, 1) := by decide +kernel
theorem dX5_floatedBy_23 : decode cX5_floatedBy 23 = .ok (.iload_n 2, 1) := by decide +kernel
theorem dX5_floatedBy_24 : decode cX5_floatedBy 24 = .ok (.iload 4, 2) := by decide +kernel
theorem dX5_floatedBy_26 : decode cX5_floatedBy 26 = .ok (.ishr, 1) := by decide +kernel
theorem dX5_floatedBy_27 : decode cX5_floatedBy 27 = .ok (.iconst 1, 1) := by decide +kernel
theorem dX5_floatedBy_28 : decode cX5_floatedBy 28 = .ok (.iand, 1) := by decide +kernel
theorem dX5_floatedBy_29 : decode cX5_floatedBy 29 = .ok (.iconst 1, 1) := by decide +kernel
theorem dX5_floatedBy_30 : decode cX5_floatedBy 30 = .ok (.if_icmp .ne 21, 3) := by decide +kernel
theorem dX5_floatedBy_33 : decode cX5_floatedBy 33 = .ok (.aload_n 0, 1) := by decide +kernel
theorem dX5_floatedBy_34 : decode cX5_floatedBy 34 = .ok (.iload_n 1, 1) := by decide +kernel
theorem dX5_floatedBy_35 : decode cX5_floatedBy 35 = .ok (.iload 4, 2) := by decide +kernel
theorem dX5_floatedBy_37 : decode cX5_floatedBy 37 = .ok (.aload_n 0, 1) := by decide +kernel
theorem dX5_floatedBy_38 : decode cX5_floatedBy 38 = .ok (.iload 4, 2) := by decide +kernel
theorem dX5_floatedBy_40 : decode cX5_floatedBy 40 = .ok (.invokevirtual 195, 3) := by decide +kernel
theorem dX5_floatedBy_43 : decode cX5_floatedBy 43 = .ok (.iconst 1, 1) := by decide +kernel
theorem dX5_floatedBy_44 : decode cX5_floatedBy 44 = .ok (.iadd, 1) := by decide +kernel
theorem dX5_floatedBy_45 : decode cX5_floatedBy 45 = .ok (.invokevirtual 198, 3) := by decide +kernel
theorem dX5_floatedBy_48 : decode cX5_floatedBy 48 = .ok (.goto 4, 3) := by decide +kernel
theorem dX5_floatedBy_51 : decode cX5_floatedBy 51 = .ok (.iconst 0, 1) := by decide +kernel
theorem dX5_floatedBy_52 : decode cX5_floatedBy 52 = .ok (.iadd, 1) := by decide +kernel
theorem dX5_floatedBy_53 : decode cX5_floatedBy 53 = .ok (.istore_n 3, 1) := by decide +kernel
theorem dX5_floatedBy_54 : decode cX5_floatedBy 54 = .ok (.iinc 4 1, 3) := by decide +kernel
theorem dX5_floatedBy_57 : decode cX5_floatedBy 57 = .ok (.goto (-42), 3) := by decide +kernel
theorem dX5_floatedBy_60 : decode cX5_floatedBy 60 = .ok (.iload_n 3, 1) := by decide +kernel
theorem dX5_floatedBy_61 : decode cX5_floatedBy 61 = .ok (.invokestatic 278, 3) := by decide +kernel
theorem dX5_floatedBy_64 : decode cX5_floatedBy 64 = .ok (.ireturn, 1) := by decide +kernel
theorem dX5_floated_0 : decode cX5_floated 0 = .ok (.aload_n 0, 1) := by decide +kernel
theorem dX5_floated_1 : decode cX5_floated 1 = .ok (.iload_n 1, 1) := by decide +kernel
theorem dX5_floated_2 : decode cX5_floated 2 = .ok (.iload_n 2, 1) := by decide +kernel
theorem dX5_floated_3 : decode cX5_floated 3 = .ok (.invokevirtual 267, 3) := by decide +kernel
theorem dX5_floated_6 : decode cX5_floated 6 = .ok (.ifCond .ne 5, 3) := by decide +kernel
theorem dX5_floated_9 : decode cX5_floated 9 = .ok (.iconst (-1), 1) := by decide +kernel
theorem dX5_floated_10 : decode cX5_floated 10 = .ok (.ireturn, 1) := by decide +kernel
theorem dX5_floated_11 : decode cX5_floated 11 = .ok (.iload_n 3, 1) := by decide +kernel
theorem dX5_floated_12 : decode cX5_floated 12 = .ok (.i2l, 1) := by decide +kernel
theorem dX5_floated_13 : decode cX5_floated 13 = .ok (.lconst 0, 1) := by decide +kernel
theorem dX5_floated_14 : decode cX5_floated 14 = .ok (.lconst 1, 1) := by decide +kernel
theorem dX5_floated_15 : decode cX5_floated 15 = .ok (.invokestatic 118, 3) := by decide +kernel
theorem dX5_floated_18 : decode cX5_floated 18 = .ok (.ifCond .ne 6, 3) := by decide +kernel
theorem dX5_floated_21 : decode cX5_floated 21 = .ok (.bipush (-2), 2) := by decide +kernel
theorem dX5_floated_23 : decode cX5_floated 23 = .ok (.ireturn, 1) := by decide +kernel
theorem dX5_floated_24 : decode cX5_floated 24 = .ok (.aload_n 0, 1) := by decide +kernel
theorem dX5_floated_25 : decode cX5_floated 25 = .ok (.iload_n 1, 1) := by decide +kernel
theorem dX5_floated_26 : decode cX5_floated 26 = .ok (.invokevirtual 291, 3) := by decide +kernel
theorem dX5_floated_29 : decode cX5_floated 29 = .ok (.istore 4, 2) := by decide +kernel
theorem dX5_floated_31 : decode cX5_floated 31 = .ok (.aload_n 0, 1) := by decide +kernel
theorem dX5_floated_32 : decode cX5_floated 32 = .ok (.bipush (-6), 2) := by decide +kernel
theorem dX5_floated_34 : decode cX5_floated 34 = .ok (.putfield 275, 3) := by decide +kernel
theorem dX5_floated_37 : decode cX5_floated 37 = .ok (.iconst 0, 1) := by decide +kernel
theorem dX5_floated_38 : decode cX5_floated 38 = .ok (.istore 5, 2) := by decide +kernel
theorem dX5_floated_40 : decode cX5_floated 40 = .ok (.iload 5, 2) := by decide +kernel
theorem dX5_floated_42 : decode cX5_floated 42 = .ok (.sipush 256, 3) := by decide +kernel
theorem dX5_floated_45 : decode cX5_floated 45 = .ok (.if_icmp .ge 38, 3) := by decide +kernel
theorem dX5_floated_48 : decode cX5_floated 48 = .ok (.iload 5, 2) := by decide +kernel
theorem dX5_floated_50 : decode cX5_floated 50 = .ok (.iload 4, 2) := by decide +kernel
theorem dX5_floated_52 : decode cX5_floated 52 = .ok (.iconst (-1), 1) := by decide +kernel
theorem dX5_floated_53 : decode cX5_floated 53 = .ok (.ixor, 1) := by decide +kernel
theorem dX5_floated_54 : decode cX5_floated 54 = .ok (.iand, 1) := by decide +kernel
theorem dX5_floated_55 : decode cX5_floated 55 = .ok (.ifCond .ne 22, 3) := by decide +kernel
theorem dX5_floated_58 : decode cX5_floated 58 = .ok (.aload_n 0, 1) := by decide +kernel
theorem dX5_floated_59 : decode cX5_floated 59 = .ok (.iload 5, 2) := by decide +kernel
theorem dX5_floated_61 : decode cX5_floated 61 = .ok (.aload_n 0, 1) := by decide +kernel
theorem dX5_floated_62 : decode cX5_floated 62 = .ok (.iload_n 1, 1) := by decide +kernel
theorem dX5_floated_63 : decode cX5_floated 63 = .ok (.iload_n 2, 1) := by decide +kernel
theorem dX5_floated_64 : decode cX5_floated 64 = .ok (.aload_n 0, 1) := by decide +kernel
theorem dX5_floated_65 : decode cX5_floated 65 = .ok (.iload_n 1, 1) := by decide +kernel
theorem dX5_floated_66 : decode cX5_floated 66 = .ok (.iload 5, 2) := by decide +kernel
theorem dX5_floated_68 : decode cX5_floated 68 = .ok (.invokevirtual 294, 3) := by decide +kernel
theorem dX5_floated_71 : decode cX5_floated 71 = .ok (.invokevirtual 281, 3) := by decide +kernel
theorem dX5_floated_74 : decode cX5_floated 74 = .ok (.invokevirtual 284, 3) := by decide +kernel
theorem dX5_floated_77 : decode cX5_floated 77 = .ok (.iinc 5 1, 3) := by decide +kernel
theorem dX5_floated_80 : decode cX5_floated 80 = .ok (.goto (-40), 3) := by decide +kernel
theorem dX5_floated_83 : decode cX5_floated 83 = .ok (.aload_n 0, 1) := by decide +kernel
theorem dX5_floated_84 : decode cX5_floated 84 = .ok (.iload_n 3, 1) := by decide +kernel
theorem dX5_floated_85 : decode cX5_floated 85 = .ok (.invokevirtual 288, 3) := by decide +kernel
theorem dX5_floated_88 : decode cX5_floated 88 = .ok (.ireturn, 1) := by decide +kernel
theorem dX5_mended_0 : decode cX5_mended 0 = .ok (.aload_n 0, 1) := by decide +kernel
theorem dX5_mended_1 : decode cX5_mended 1 = .ok (.iload_n 1, 1) := by decide +kernel
theorem dX5_mended_2 : decode cX5_mended 2 = .ok (.iload_n 2, 1) := by decide +kernel
theorem dX5_mended_3 : decode cX5_mended 3 = .ok (.invokevirtual 267, 3) := by decide +kernel
theorem dX5_mended_6 : decode cX5_mended 6 = .ok (.ifCond .ne 5, 3) := by decide +kernel
theorem dX5_mended_9 : decode cX5_mended 9 = .ok (.iconst (-1), 1) := by decide +kernel
theorem dX5_mended_10 : decode cX5_mended 10 = .ok (.ireturn, 1) := by decide +kernel
theorem dX5_mended_11 : decode cX5_mended 11 = .ok (.iload_n 3, 1) := by decide +kernel
theorem dX5_mended_12 : decode cX5_mended 12 = .ok (.i2l, 1) := by decide +kernel
theorem dX5_mended_13 : decode cX5_mended 13 = .ok (.lconst 0, 1) := by decide +kernel
theorem dX5_mended_14 : decode cX5_mended 14 = .ok (.lconst 1, 1) := by decide +kernel
theorem dX5_mended_15 : decode cX5_mended 15 = .ok (.invokestatic 118, 3) := by decide +kernel
theorem dX5_mended_18 : decode cX5_mended 18 = .ok (.ifCond .ne 6, 3) := by decide +kernel
theorem dX5_mended_21 : decode cX5_mended 21 = .ok (.bipush (-2), 2) := by decide +kernel
theorem dX5_mended_23 : decode cX5_mended 23 = .ok (.ireturn, 1) := by decide +kernel
theorem dX5_mended_24 : decode cX5_mended 24 = .ok (.aload_n 0, 1) := by decide +kernel
theorem dX5_mended_25 : decode cX5_mended 25 = .ok (.iload_n 1, 1) := by decide +kernel
theorem dX5_mended_26 : decode cX5_mended 26 = .ok (.invokevirtual 206, 3) := by decide +kernel
theorem dX5_mended_29 : decode cX5_mended 29 = .ok (.istore 4, 2) := by decide +kernel
theorem dX5_mended_31 : decode cX5_mended 31 = .ok (.aload_n 0, 1) := by decide +kernel
theorem dX5_mended_32 : decode cX5_mended 32 = .ok (.iload 4, 2) := by decide +kernel
theorem dX5_mended_34 : decode cX5_mended 34 = .ok (.invokevirtual 257, 3) := by decide +kernel
theorem dX5_mended_37 : decode cX5_mended 37 = .ok (.istore 5, 2) := by decide +kernel
theorem dX5_mended_39 : decode cX5_mended 39 = .ok (.aload_n 0, 1) := by decide +kernel
theorem dX5_mended_40 : decode cX5_mended 40 = .ok (.iload_n 2, 1) := by decide +kernel
theorem dX5_mended_41 : decode cX5_mended 41 = .ok (.iload 5, 2) := by decide +kernel
theorem dX5_mended_43 : decode cX5_mended 43 = .ok (.invokevirtual 260, 3) := by decide +kernel
theorem dX5_mended_46 : decode cX5_mended 46 = .ok (.aload_n 0, 1) := by decide +kernel
theorem dX5_mended_47 : decode cX5_mended 47 = .ok (.getfield 70, 3) := by decide +kernel
theorem dX5_mended_50 : decode cX5_mended 50 = .ok (.aload_n 0, 1) := by decide +kernel
theorem dX5_mended_51 : decode cX5_mended 51 = .ok (.getfield 22, 3) := by decide +kernel
theorem dX5_mended_54 : decode cX5_mended 54 = .ok (.iload_n 1, 1) := by decide +kernel
theorem dX5_mended_55 : decode cX5_mended 55 = .ok (.iaload, 1) := by decide +kernel
theorem dX5_mended_56 : decode cX5_mended 56 = .ok (.iaload, 1) := by decide +kernel
theorem dX5_mended_57 : decode cX5_mended 57 = .ok (.sipush 1000, 3) := by decide +kernel
theorem dX5_mended_60 : decode cX5_mended 60 = .ok (.if_icmp .ge 6, 3) := by decide +kernel
theorem dX5_mended_63 : decode cX5_mended 63 = .ok (.bipush (-6), 2) := by decide +kernel
theorem dX5_mended_65 : decode cX5_mended 65 = .ok (.ireturn, 1) := by decide +kernel
theorem dX5_mended_66 : decode cX5_mended 66 = .ok (.bipush (-6), 2) := by decide +kernel
theorem dX5_mended_68 : decode cX5_mended 68 = .ok (.istore 6, 2) := by decide +kernel
theorem dX5_mended_70 : decode cX5_mended 70 = .ok (.ldc_w 297, 3) := by decide +kernel
theorem dX5_mended_73 : decode cX5_mended 73 = .ok (.istore 7, 2) := by decide +kernel
theorem dX5_mended_75 : decode cX5_mended 75 = .ok (.iconst 0, 1) := by decide +kernel
theorem dX5_mended_76 : decode cX5_mended 76 = .ok (.istore 8, 2) := by decide +kernel
theorem dX5_mended_78 : decode cX5_mended 78 = .ok (.iload 8, 2) := by decide +kernel
theorem dX5_mended_80 : decode cX5_mended 80 = .ok (.bipush 8, 2) := by decide +kernel
theorem dX5_mended_82 : decode cX5_mended 82 = .ok (.if_icmp .ge 115, 3) := by decide +kernel
theorem dX5_mended_85 : decode cX5_mended 85 = .ok (.aload_n 0, 1) := by decide +kernel
theorem dX5_mended_86 : decode cX5_mended 86 = .ok (.iload 8, 2) := by decide +kernel
theorem dX5_mended_88 : decode cX5_mended 88 = .ok (.invokevirtual 140, 3) := by decide +kernel
theorem dX5_mended_91 : decode cX5_mended 91 = .ok (.ifCond .eq 100, 3) := by decide +kernel
theorem dX5_mended_94 : decode cX5_mended 94 = .ok (.iload 5, 2) := by decide +kernel
theorem dX5_mended_96 : decode cX5_mended 96 = .ok (.iload 8, 2) := by decide +kernel
theorem dX5_mended_98 : decode cX5_mended 98 = .ok (.ishr, 1) := by decide +kernel
theorem dX5_mended_99 : decode cX5_mended 99 = .ok (.iconst 1, 1) := by decide +kernel
theorem dX5_mended_100 : decode cX5_mended 100 = .ok (.iand, 1) := by decide +kernel
theorem dX5_mended_101 : decode cX5_mended 101 = .ok (.ifCond .ne 90, 3) := by decide +kernel
theorem dX5_mended_104 : decode cX5_mended 104 = .ok (.aload_n 0, 1) := by decide +kernel
theorem dX5_mended_105 : decode cX5_mended 105 = .ok (.iload_n 2, 1) := by decide +kernel
theorem dX5_mended_106 : decode cX5_mended 106 = .ok (.iload 5, 2) := by decide +kernel
theorem dX5_mended_108 : decode cX5_mended 108 = .ok (.iconst 1, 1) := by decide +kernel
theorem dX5_mended_109 : decode cX5_mended 109 = .ok (.iload 8, 2) := by decide +kernel
theorem dX5_mended_111 : decode cX5_mended 111 = .ok (.ishl, 1) := by decide +kernel
theorem dX5_mended_112 : decode cX5_mended 112 = .ok (.ior, 1) := by decide +kernel
theorem dX5_mended_113 : decode cX5_mended 113 = .ok (.invokevirtual 260, 3) := by decide +kernel
theorem dX5_mended_116 : decode cX5_mended 116 = .ok (.aload_n 0, 1) := by decide +kernel
theorem dX5_mended_117 : decode cX5_mended 117 = .ok (.getfield 70, 3) := by decide +kernel
theorem dX5_mended_120 : decode cX5_mended 120 = .ok (.aload_n 0, 1) := by decide +kernel
theorem dX5_mended_121 : decode cX5_mended 121 = .ok (.getfield 22, 3) := by decide +kernel
theorem dX5_mended_124 : decode cX5_mended 124 = .ok (.iload_n 1, 1) := by decide +kernel
theorem dX5_mended_125 : decode cX5_mended 125 = .ok (.iaload, 1) := by decide +kernel
theorem dX5_mended_126 : decode cX5_mended 126 = .ok (.iaload, 1) := by decide +kernel
theorem dX5_mended_127 : decode cX5_mended 127 = .ok (.sipush 1000, 3) := by decide +kernel
theorem dX5_mended_130 : decode cX5_mended 130 = .ok (.if_icmp .ge 22, 3) := by decide +kernel
theorem dX5_mended_133 : decode cX5_mended 133 = .ok (.iload 4, 2) := by decide +kernel
theorem dX5_mended_135 : decode cX5_mended 135 = .ok (.aload_n 0, 1) := by decide +kernel
theorem dX5_mended_136 : decode cX5_mended 136 = .ok (.getfield 16, 3) := by decide +kernel
theorem dX5_mended_139 : decode cX5_mended 139 = .ok (.iload 8, 2) := by decide +kernel
theorem dX5_mended_141 : decode cX5_mended 141 = .ok (.iaload, 1) := by decide +kernel
theorem dX5_mended_142 : decode cX5_mended 142 = .ok (.isub, 1) := by decide +kernel
theorem dX5_mended_143 : decode cX5_mended 143 = .ok (.iload 7, 2) := by decide +kernel
theorem dX5_mended_145 : decode cX5_mended 145 = .ok (.if_icmp .ge 7, 3) := by decide +kernel
theorem dX5_mended_148 : decode cX5_mended 148 = .ok (.iconst 1, 1) := by decide +kernel
theorem dX5_mended_149 : decode cX5_mended 149 = .ok (.goto 4, 3) := by decide +kernel
theorem dX5_mended_152 : decode cX5_mended 152 = .ok (.iconst 0, 1) := by decide +kernel
theorem dX5_mended_153 : decode cX5_mended 153 = .ok (.istore 9, 2) := by decide +kernel
theorem dX5_mended_155 : decode cX5_mended 155 = .ok (.iload 9, 2) := by decide +kernel
theorem dX5_mended_157 : decode cX5_mended 157 = .ok (.ifCond .eq 8, 3) := by decide +kernel
theorem dX5_mended_160 : decode cX5_mended 160 = .ok (.iload 8, 2) := by decide +kernel
theorem dX5_mended_162 : decode cX5_mended 162 = .ok (.goto 5, 3) := by decide +kernel
theorem dX5_mended_165 : decode cX5_mended 165 = .ok (.iload 6, 2) := by decide +kernel
theorem dX5_mended_167 : decode cX5_mended 167 = .ok (.istore 6, 2) := by decide +kernel
theorem dX5_mended_169 : decode cX5_mended 169 = .ok (.iload 9, 2) := by decide +kernel
theorem dX5_mended_171 : decode cX5_mended 171 = .ok (.ifCond .eq 16, 3) := by decide +kernel
theorem dX5_mended_174 : decode cX5_mended 174 = .ok (.iload 4, 2) := by decide +kernel
theorem dX5_mended_176 : decode cX5_mended 176 = .ok (.aload_n 0, 1) := by decide +kernel
theorem dX5_mended_177 : decode cX5_mended 177 = .ok (.getfield 16, 3) := by decide +kernel
theorem dX5_mended_180 : decode cX5_mended 180 = .ok (.iload 8, 2) := by decide +kernel
theorem dX5_mended_182 : decode cX5_mended 182 = .ok (.iaload, 1) := by decide +kernel
theorem dX5_mended_183 : decode cX5_mended 183 = .ok (.isub, 1) := by decide +kernel
theorem dX5_mended_184 : decode cX5_mended 184 = .ok (.goto 5, 3) := by decide +kernel
theorem dX5_mended_187 : decode cX5_mended 187 = .ok (.iload 7, 2) := by decide +kernel
theorem dX5_mended_189 : decode cX5_mended 189 = .ok (.istore 7, 2) := by decide +kernel
theorem dX5_mended_191 : decode cX5_mended 191 = .ok (.iinc 8 1, 3) := by decide +kernel
theorem dX5_mended_194 : decode cX5_mended 194 = .ok (.goto (-116), 3) := by decide +kernel
theorem dX5_mended_197 : decode cX5_mended 197 = .ok (.iload 6, 2) := by decide +kernel
theorem dX5_mended_199 : decode cX5_mended 199 = .ok (.ifCond .lt 7, 3) := by decide +kernel
theorem dX5_mended_202 : decode cX5_mended 202 = .ok (.iload_n 3, 1) := by decide +kernel
theorem dX5_mended_203 : decode cX5_mended 203 = .ok (.ifCond .ne 8, 3) := by decide +kernel
theorem dX5_mended_206 : decode cX5_mended 206 = .ok (.iload 6, 2) := by decide +kernel
theorem dX5_mended_208 : decode cX5_mended 208 = .ok (.goto 5, 3) := by decide +kernel
theorem dX5_mended_211 : decode cX5_mended 211 = .ok (.iload 7, 2) := by decide +kernel
theorem dX5_mended_213 : decode cX5_mended 213 = .ok (.ireturn, 1) := by decide +kernel
theorem dX5_reachedBy_0 : decode cX5_reachedBy 0 = .ok (.iconst 0, 1) := by decide +kernel
theorem dX5_reachedBy_1 : decode cX5_reachedBy 1 = .ok (.istore_n 2, 1) := by decide +kernel
theorem dX5_reachedBy_2 : decode cX5_reachedBy 2 = .ok (.iconst 0, 1) := by decide +kernel
theorem dX5_reachedBy_3 : decode cX5_reachedBy 3 = .ok (.istore_n 3, 1) := by decide +kernel
theorem dX5_reachedBy_4 : decode cX5_reachedBy 4 = .ok (.iload_n 3, 1) := by decide +kernel
theorem dX5_reachedBy_5 : decode cX5_reachedBy 5 = .ok (.bipush 6, 2) := by decide +kernel
theorem dX5_reachedBy_7 : decode cX5_reachedBy 7 = .ok (.if_icmp .ge 103, 3) := by decide +kernel
theorem dX5_reachedBy_10 : decode cX5_reachedBy 10 = .ok (.aload_n 0, 1) := by decide +kernel
theorem dX5_reachedBy_11 : decode cX5_reachedBy 11 = .ok (.iload_n 3, 1) := by decide +kernel
theorem dX5_reachedBy_12 : decode cX5_reachedBy 12 = .ok (.invokevirtual 143, 3) := by decide +kernel
theorem dX5_reachedBy_15 : decode cX5_reachedBy 15 = .ok (.ifCond .eq 89, 3) := by decide +kernel
theorem dX5_reachedBy_18 : decode cX5_reachedBy 18 = .ok (.aload_n 0, 1) := by decide +kernel
theorem dX5_reachedBy_19 : decode cX5_reachedBy 19 = .ok (.getfield 28, 3) := by decide +kernel
theorem dX5_reachedBy_22 : decode cX5_reachedBy 22 = .ok (.iload_n 3, 1) := by decide +kernel
theorem dX5_reachedBy_23 : decode cX5_reachedBy 23 = .ok (.iaload, 1) := by decide +kernel
theorem dX5_reachedBy_24 : decode cX5_reachedBy 24 = .ok (.iload_n 1, 1) := by decide +kernel
theorem dX5_reachedBy_25 : decode cX5_reachedBy 25 = .ok (.ishr, 1) := by decide +kernel
theorem dX5_reachedBy_26 : decode cX5_reachedBy 26 = .ok (.iconst 1, 1) := by decide +kernel
theorem dX5_reachedBy_27 : decode cX5_reachedBy 27 = .ok (.iand, 1) := by decide +kernel
theorem dX5_reachedBy_28 : decode cX5_reachedBy 28 = .ok (.iconst 1, 1) := by decide +kernel
theorem dX5_reachedBy_29 : decode cX5_reachedBy 29 = .ok (.if_icmp .ne 75, 3) := by decide +kernel
theorem dX5_reachedBy_32 : decode cX5_reachedBy 32 = .ok (.aload_n 0, 1) := by decide +kernel
theorem dX5_reachedBy_33 : decode cX5_reachedBy 33 = .ok (.iload_n 3, 1) := by decide +kernel
theorem dX5_reachedBy_34 : decode cX5_reachedBy 34 = .ok (.invokevirtual 206, 3) := by decide +kernel
theorem dX5_reachedBy_37 : decode cX5_reachedBy 37 = .ok (.istore 4, 2) := by decide +kernel
theorem dX5_reachedBy_39 : decode cX5_reachedBy 39 = .ok (.iconst 0, 1) := by decide +kernel
theorem dX5_reachedBy_40 : decode cX5_reachedBy 40 = .ok (.istore 5, 2) := by decide +kernel
theorem dX5_reachedBy_42 : decode cX5_reachedBy 42 = .ok (.iload 5, 2) := by decide +kernel
theorem dX5_reachedBy_44 : decode cX5_reachedBy 44 = .ok (.bipush 6, 2) := by decide +kernel
theorem dX5_reachedBy_46 : decode cX5_reachedBy 46 = .ok (.if_icmp .ge 58, 3) := by decide +kernel
theorem dX5_reachedBy_49 : decode cX5_reachedBy 49 = .ok (.aload_n 0, 1) := by decide +kernel
theorem dX5_reachedBy_50 : decode cX5_reachedBy 50 = .ok (.iload 5, 2) := by decide +kernel
theorem dX5_reachedBy_52 : decode cX5_reachedBy 52 = .ok (.invokevirtual 143, 3) := by decide +kernel
theorem dX5_reachedBy_55 : decode cX5_reachedBy 55 = .ok (.ifCond .eq 24, 3) := by decide +kernel
theorem dX5_reachedBy_58 : decode cX5_reachedBy 58 = .ok (.aload_n 0, 1) := by decide +kernel
theorem dX5_reachedBy_59 : decode cX5_reachedBy 59 = .ok (.iload_n 3, 1) := by decide +kernel
theorem dX5_reachedBy_60 : decode cX5_reachedBy 60 = .ok (.aload_n 0, 1) := by decide +kernel
theorem dX5_reachedBy_61 : decode cX5_reachedBy 61 = .ok (.getfield 22, 3) := by decide +kernel
theorem dX5_reachedBy_64 : decode cX5_reachedBy 64 = .ok (.iload 5, 2) := by decide +kernel
theorem dX5_reachedBy_66 : decode cX5_reachedBy 66 = .ok (.iaload, 1) := by decide +kernel
theorem dX5_reachedBy_67 : decode cX5_reachedBy 67 = .ok (.iload 4, 2) := by decide +kernel
theorem dX5_reachedBy_69 : decode cX5_reachedBy 69 = .ok (.invokevirtual 281, 3) := by decide +kernel
theorem dX5_reachedBy_72 : decode cX5_reachedBy 72 = .ok (.ifCond .eq 7, 3) := by decide +kernel
theorem dX5_reachedBy_75 : decode cX5_reachedBy 75 = .ok (.iconst 1, 1) := by decide +kernel
theorem dX5_reachedBy_76 : decode cX5_reachedBy 76 = .ok (.goto 4, 3) := by decide +kernel
theorem dX5_reachedBy_79 : decode cX5_reachedBy 79 = .ok (.iconst 0, 1) := by decide +kernel
theorem dX5_reachedBy_80 : decode cX5_reachedBy 80 = .ok (.istore 6, 2) := by decide +kernel
theorem dX5_reachedBy_82 : decode cX5_reachedBy 82 = .ok (.iload_n 2, 1) := by decide +kernel
theorem dX5_reachedBy_83 : decode cX5_reachedBy 83 = .ok (.iload 6, 2) := by decide +kernel
theorem dX5_reachedBy_85 : decode cX5_reachedBy 85 = .ok (.ifCond .eq 10, 3) := by decide +kernel
theorem dX5_reachedBy_88 : decode cX5_reachedBy 88 = .ok (.iconst 1, 1) := by decide +kernel
theorem dX5_reachedBy_89 : decode cX5_reachedBy 89 = .ok (.iload 5, 2) := by decide +kernel
theorem dX5_reachedBy_91 : decode cX5_reachedBy 91 = .ok (.ishl, 1) := by decide +kernel
theorem dX5_reachedBy_92 : decode cX5_reachedBy 92 = .ok (.goto 4, 3) := by decide +kernel
theorem dX5_reachedBy_95 : decode cX5_reachedBy 95 = .ok (.iconst 0, 1) := by decide +kernel
theorem dX5_reachedBy_96 : decode cX5_reachedBy 96 = .ok (.ior, 1) := by decide +kernel
theorem dX5_reachedBy_97 : decode cX5_reachedBy 97 = .ok (.istore_n 2, 1) := by decide +kernel
theorem dX5_reachedBy_98 : decode cX5_reachedBy 98 = .ok (.iinc 5 1, 3) := by decide +kernel
theorem dX5_reachedBy_101 : decode cX5_reachedBy 101 = .ok (.goto (-59), 3) := by decide +kernel
theorem dX5_reachedBy_104 : decode cX5_reachedBy 104 = .ok (.iinc 3 1, 3) := by decide +kernel
theorem dX5_reachedBy_107 : decode cX5_reachedBy 107 = .ok (.goto (-103), 3) := by decide +kernel
theorem dX5_reachedBy_110 : decode cX5_reachedBy 110 = .ok (.iload_n 2, 1) := by decide +kernel
theorem dX5_reachedBy_111 : decode cX5_reachedBy 111 = .ok (.ireturn, 1) := by decide +kernel
theorem dX5_knowersOf_0 : decode cX5_knowersOf 0 = .ok (.iconst 0, 1) := by decide +kernel
theorem dX5_knowersOf_1 : decode cX5_knowersOf 1 = .ok (.istore_n 2, 1) := by decide +kernel
theorem dX5_knowersOf_2 : decode cX5_knowersOf 2 = .ok (.iconst 0, 1) := by decide +kernel
theorem dX5_knowersOf_3 : decode cX5_knowersOf 3 = .ok (.istore_n 3, 1) := by decide +kernel
theorem dX5_knowersOf_4 : decode cX5_knowersOf 4 = .ok (.iload_n 3, 1) := by decide +kernel
theorem dX5_knowersOf_5 : decode cX5_knowersOf 5 = .ok (.bipush 6, 2) := by decide +kernel
theorem dX5_knowersOf_7 : decode cX5_knowersOf 7 = .ok (.if_icmp .ge 41, 3) := by decide +kernel
theorem dX5_knowersOf_10 : decode cX5_knowersOf 10 = .ok (.iload_n 2, 1) := by decide +kernel
theorem dX5_knowersOf_11 : decode cX5_knowersOf 11 = .ok (.aload_n 0, 1) := by decide +kernel
theorem dX5_knowersOf_12 : decode cX5_knowersOf 12 = .ok (.iload_n 3, 1) := by decide +kernel
theorem dX5_knowersOf_13 : decode cX5_knowersOf 13 = .ok (.invokevirtual 143, 3) := by decide +kernel
theorem dX5_knowersOf_16 : decode cX5_knowersOf 16 = .ok (.ifCond .eq 23, 3) := by decide +kernel
theorem dX5_knowersOf_19 : decode cX5_knowersOf 19 = .ok (.aload_n 0, 1) := by decide +kernel
theorem dX5_knowersOf_20 : decode cX5_knowersOf 20 = .ok (.getfield 28, 3) := by decide +kernel
theorem dX5_knowersOf_23 : decode cX5_knowersOf 23 = .ok (.iload_n 3, 1) := by decide +kernel
theorem dX5_knowersOf_24 : decode cX5_knowersOf 24 = .ok (.iaload, 1) := by decide +kernel
theorem dX5_knowersOf_25 : decode cX5_knowersOf 25 = .ok (.iload_n 1, 1) := by decide +kernel
theorem dX5_knowersOf_26 : decode cX5_knowersOf 26 = .ok (.ishr, 1) := by decide +kernel
theorem dX5_knowersOf_27 : decode cX5_knowersOf 27 = .ok (.iconst 1, 1) := by decide +kernel
theorem dX5_knowersOf_28 : decode cX5_knowersOf 28 = .ok (.iand, 1) := by decide +kernel
theorem dX5_knowersOf_29 : decode cX5_knowersOf 29 = .ok (.iconst 1, 1) := by decide +kernel
theorem dX5_knowersOf_30 : decode cX5_knowersOf 30 = .ok (.if_icmp .ne 9, 3) := by decide +kernel
theorem dX5_knowersOf_33 : decode cX5_knowersOf 33 = .ok (.iconst 1, 1) := by decide +kernel
theorem dX5_knowersOf_34 : decode cX5_knowersOf 34 = .ok (.iload_n 3, 1) := by decide +kernel
theorem dX5_knowersOf_35 : decode cX5_knowersOf 35 = .ok (.ishl, 1) := by decide +kernel
theorem dX5_knowersOf_36 : decode cX5_knowersOf 36 = .ok (.goto 4, 3) := by decide +kernel
theorem dX5_knowersOf_39 : decode cX5_knowersOf 39 = .ok (.iconst 0, 1) := by decide +kernel
theorem dX5_knowersOf_40 : decode cX5_knowersOf 40 = .ok (.ior, 1) := by decide +kernel
theorem dX5_knowersOf_41 : decode cX5_knowersOf 41 = .ok (.istore_n 2, 1) := by decide +kernel
theorem dX5_knowersOf_42 : decode cX5_knowersOf 42 = .ok (.iinc 3 1, 3) := by decide +kernel
theorem dX5_knowersOf_45 : decode cX5_knowersOf 45 = .ok (.goto (-41), 3) := by decide +kernel
theorem dX5_knowersOf_48 : decode cX5_knowersOf 48 = .ok (.iload_n 2, 1) := by decide +kernel
theorem dX5_knowersOf_49 : decode cX5_knowersOf 49 = .ok (.ireturn, 1) := by decide +kernel
theorem dX5_rumour_0 : decode cX5_rumour 0 = .ok (.iload_n 1, 1) := by decide +kernel
theorem dX5_rumour_1 : decode cX5_rumour 1 = .ok (.invokestatic 146, 3) := by decide +kernel
theorem dX5_rumour_4 : decode cX5_rumour 4 = .ok (.ifCond .ne 5, 3) := by decide +kernel
theorem dX5_rumour_7 : decode cX5_rumour 7 = .ok (.iconst (-1), 1) := by decide +kernel
theorem dX5_rumour_8 : decode cX5_rumour 8 = .ok (.ireturn, 1) := by decide +kernel
theorem dX5_rumour_9 : decode cX5_rumour 9 = .ok (.aload_n 0, 1) := by decide +kernel
theorem dX5_rumour_10 : decode cX5_rumour 10 = .ok (.invokevirtual 248, 3) := by decide +kernel
theorem dX5_rumour_13 : decode cX5_rumour 13 = .ok (.iconst 1, 1) := by decide +kernel
theorem dX5_rumour_14 : decode cX5_rumour 14 = .ok (.istore_n 2, 1) := by decide +kernel
theorem dX5_rumour_15 : decode cX5_rumour 15 = .ok (.iload_n 2, 1) := by decide +kernel
theorem dX5_rumour_16 : decode cX5_rumour 16 = .ok (.ifCond .eq 77, 3) := by decide +kernel
theorem dX5_rumour_19 : decode cX5_rumour 19 = .ok (.aload_n 0, 1) := by decide +kernel
theorem dX5_rumour_20 : decode cX5_rumour 20 = .ok (.iload_n 1, 1) := by decide +kernel
theorem dX5_rumour_21 : decode cX5_rumour 21 = .ok (.invokevirtual 298, 3) := by decide +kernel
theorem dX5_rumour_24 : decode cX5_rumour 24 = .ok (.istore_n 3, 1) := by decide +kernel
theorem dX5_rumour_25 : decode cX5_rumour 25 = .ok (.iload_n 3, 1) := by decide +kernel
theorem dX5_rumour_26 : decode cX5_rumour 26 = .ok (.aload_n 0, 1) := by decide +kernel
theorem dX5_rumour_27 : decode cX5_rumour 27 = .ok (.iload_n 1, 1) := by decide +kernel
theorem dX5_rumour_28 : decode cX5_rumour 28 = .ok (.invokevirtual 301, 3) := by decide +kernel
theorem dX5_rumour_31 : decode cX5_rumour 31 = .ok (.ior, 1) := by decide +kernel
theorem dX5_rumour_32 : decode cX5_rumour 32 = .ok (.istore 4, 2) := by decide +kernel
theorem dX5_rumour_34 : decode cX5_rumour 34 = .ok (.iconst 0, 1) := by decide +kernel
theorem dX5_rumour_35 : decode cX5_rumour 35 = .ok (.istore 5, 2) := by decide +kernel
theorem dX5_rumour_37 : decode cX5_rumour 37 = .ok (.iload 5, 2) := by decide +kernel
theorem dX5_rumour_39 : decode cX5_rumour 39 = .ok (.bipush 6, 2) := by decide +kernel
theorem dX5_rumour_41 : decode cX5_rumour 41 = .ok (.if_icmp .ge 37, 3) := by decide +kernel
theorem dX5_rumour_44 : decode cX5_rumour 44 = .ok (.aload_n 0, 1) := by decide +kernel
theorem dX5_rumour_45 : decode cX5_rumour 45 = .ok (.getfield 28, 3) := by decide +kernel
theorem dX5_rumour_48 : decode cX5_rumour 48 = .ok (.iload 5, 2) := by decide +kernel
theorem dX5_rumour_50 : decode cX5_rumour 50 = .ok (.dup2, 1) := by decide +kernel
theorem dX5_rumour_51 : decode cX5_rumour 51 = .ok (.iaload, 1) := by decide +kernel
theorem dX5_rumour_52 : decode cX5_rumour 52 = .ok (.iload 4, 2) := by decide +kernel
theorem dX5_rumour_54 : decode cX5_rumour 54 = .ok (.iload 5, 2) := by decide +kernel
theorem dX5_rumour_56 : decode cX5_rumour 56 = .ok (.ishr, 1) := by decide +kernel
theorem dX5_rumour_57 : decode cX5_rumour 57 = .ok (.iconst 1, 1) := by decide +kernel
theorem dX5_rumour_58 : decode cX5_rumour 58 = .ok (.iand, 1) := by decide +kernel
theorem dX5_rumour_59 : decode cX5_rumour 59 = .ok (.iconst 1, 1) := by decide +kernel
theorem dX5_rumour_60 : decode cX5_rumour 60 = .ok (.if_icmp .ne 9, 3) := by decide +kernel
theorem dX5_rumour_63 : decode cX5_rumour 63 = .ok (.iconst 1, 1) := by decide +kernel
theorem dX5_rumour_64 : decode cX5_rumour 64 = .ok (.iload_n 1, 1) := by decide +kernel
theorem dX5_rumour_65 : decode cX5_rumour 65 = .ok (.ishl, 1) := by decide +kernel
theorem dX5_rumour_66 : decode cX5_rumour 66 = .ok (.goto 4, 3) := by decide +kernel
theorem dX5_rumour_69 : decode cX5_rumour 69 = .ok (.iconst 0, 1) := by decide +kernel
theorem dX5_rumour_70 : decode cX5_rumour 70 = .ok (.ior, 1) := by decide +kernel
theorem dX5_rumour_71 : decode cX5_rumour 71 = .ok (.iastore, 1) := by decide +kernel
theorem dX5_rumour_72 : decode cX5_rumour 72 = .ok (.iinc 5 1, 3) := by decide +kernel
theorem dX5_rumour_75 : decode cX5_rumour 75 = .ok (.goto (-38), 3) := by decide +kernel
theorem dX5_rumour_78 : decode cX5_rumour 78 = .ok (.iload 4, 2) := by decide +kernel
theorem dX5_rumour_80 : decode cX5_rumour 80 = .ok (.iload_n 3, 1) := by decide +kernel
theorem dX5_rumour_81 : decode cX5_rumour 81 = .ok (.if_icmp .eq 7, 3) := by decide +kernel
theorem dX5_rumour_84 : decode cX5_rumour 84 = .ok (.iconst 1, 1) := by decide +kernel
theorem dX5_rumour_85 : decode cX5_rumour 85 = .ok (.goto 4, 3) := by decide +kernel
theorem dX5_rumour_88 : decode cX5_rumour 88 = .ok (.iconst 0, 1) := by decide +kernel
theorem dX5_rumour_89 : decode cX5_rumour 89 = .ok (.istore_n 2, 1) := by decide +kernel
theorem dX5_rumour_90 : decode cX5_rumour 90 = .ok (.goto (-75), 3) := by decide +kernel
theorem dX5_rumour_93 : decode cX5_rumour 93 = .ok (.aload_n 0, 1) := by decide +kernel
theorem dX5_rumour_94 : decode cX5_rumour 94 = .ok (.iload_n 1, 1) := by decide +kernel
theorem dX5_rumour_95 : decode cX5_rumour 95 = .ok (.invokevirtual 298, 3) := by decide +kernel
theorem dX5_rumour_98 : decode cX5_rumour 98 = .ok (.istore_n 3, 1) := by decide +kernel
theorem dX5_rumour_99 : decode cX5_rumour 99 = .ok (.aload_n 0, 1) := by decide +kernel
theorem dX5_rumour_100 : decode cX5_rumour 100 = .ok (.invokevirtual 254, 3) := by decide +kernel
theorem dX5_rumour_103 : decode cX5_rumour 103 = .ok (.iload_n 3, 1) := by decide +kernel
theorem dX5_rumour_104 : decode cX5_rumour 104 = .ok (.ireturn, 1) := by decide +kernel
theorem dX5_tens_0 : decode cX5_tens 0 = .ok (.iconst 1, 1) := by decide +kernel
theorem dX5_tens_1 : decode cX5_tens 1 = .ok (.istore_n 1, 1) := by decide +kernel
theorem dX5_tens_2 : decode cX5_tens 2 = .ok (.iconst 0, 1) := by decide +kernel
theorem dX5_tens_3 : decode cX5_tens 3 = .ok (.istore_n 2, 1) := by decide +kernel
theorem dX5_tens_4 : decode cX5_tens 4 = .ok (.iload_n 2, 1) := by decide +kernel
theorem dX5_tens_5 : decode cX5_tens 5 = .ok (.iload_n 0, 1) := by decide +kernel
theorem dX5_tens_6 : decode cX5_tens 6 = .ok (.if_icmp .ge 14, 3) := by decide +kernel
theorem dX5_tens_9 : decode cX5_tens 9 = .ok (.iload_n 1, 1) := by decide +kernel
theorem dX5_tens_10 : decode cX5_tens 10 = .ok (.bipush 10, 2) := by decide +kernel
theorem dX5_tens_12 : decode cX5_tens 12 = .ok (.imul, 1) := by decide +kernel
theorem dX5_tens_13 : decode cX5_tens 13 = .ok (.istore_n 1, 1) := by decide +kernel
theorem dX5_tens_14 : decode cX5_tens 14 = .ok (.iinc 2 1, 3) := by decide +kernel
theorem dX5_tens_17 : decode cX5_tens 17 = .ok (.goto (-13), 3) := by decide +kernel
theorem dX5_tens_20 : decode cX5_tens 20 = .ok (.iload_n 1, 1) := by decide +kernel
theorem dX5_tens_21 : decode cX5_tens 21 = .ok (.ireturn, 1) := by decide +kernel
theorem dX5_layErrands_0 : decode cX5_layErrands 0 = .ok (.aload_n 0, 1) := by decide +kernel
theorem dX5_layErrands_1 : decode cX5_layErrands 1 = .ok (.iload_n 1, 1) := by decide +kernel
theorem dX5_layErrands_2 : decode cX5_layErrands 2 = .ok (.invokestatic 136, 3) := by decide +kernel
theorem dX5_layErrands_5 : decode cX5_layErrands 5 = .ok (.putfield 304, 3) := by decide +kernel
theorem dX5_layErrands_8 : decode cX5_layErrands 8 = .ok (.iload_n 2, 1) := by decide +kernel
theorem dX5_layErrands_9 : decode cX5_layErrands 9 = .ok (.i2l, 1) := by decide +kernel
theorem dX5_layErrands_10 : decode cX5_layErrands 10 = .ok (.lconst 0, 1) := by decide +kernel
theorem dX5_layErrands_11 : decode cX5_layErrands 11 = .ok (.aload_n 0, 1) := by decide +kernel
theorem dX5_layErrands_12 : decode cX5_layErrands 12 = .ok (.getfield 304, 3) := by decide +kernel
theorem dX5_layErrands_15 : decode cX5_layErrands 15 = .ok (.invokestatic 307, 3) := by decide +kernel
theorem dX5_layErrands_18 : decode cX5_layErrands 18 = .ok (.iconst 1, 1) := by decide +kernel
theorem dX5_layErrands_19 : decode cX5_layErrands 19 = .ok (.isub, 1) := by decide +kernel
theorem dX5_layErrands_20 : decode cX5_layErrands 20 = .ok (.i2l, 1) := by decide +kernel
theorem dX5_layErrands_21 : decode cX5_layErrands 21 = .ok (.invokestatic 118, 3) := by decide +kernel
theorem dX5_layErrands_24 : decode cX5_layErrands 24 = .ok (.ifCond .ne 5, 3) := by decide +kernel
theorem dX5_layErrands_27 : decode cX5_layErrands 27 = .ok (.iconst 0, 1) := by decide +kernel
theorem dX5_layErrands_28 : decode cX5_layErrands 28 = .ok (.ireturn, 1) := by decide +kernel
theorem dX5_layErrands_29 : decode cX5_layErrands 29 = .ok (.iload_n 2, 1) := by decide +kernel
theorem dX5_layErrands_30 : decode cX5_layErrands 30 = .ok (.istore_n 3, 1) := by decide +kernel
theorem dX5_layErrands_31 : decode cX5_layErrands 31 = .ok (.aload_n 0, 1) := by decide +kernel
theorem dX5_layErrands_32 : decode cX5_layErrands 32 = .ok (.getfield 304, 3) := by decide +kernel
theorem dX5_layErrands_35 : decode cX5_layErrands 35 = .ok (.iconst 1, 1) := by decide +kernel
theorem dX5_layErrands_36 : decode cX5_layErrands 36 = .ok (.isub, 1) := by decide +kernel
theorem dX5_layErrands_37 : decode cX5_layErrands 37 = .ok (.istore 4, 2) := by decide +kernel
theorem dX5_layErrands_39 : decode cX5_layErrands 39 = .ok (.iconst 1, 1) := by decide +kernel
theorem dX5_layErrands_40 : decode cX5_layErrands 40 = .ok (.istore 5, 2) := by decide +kernel
theorem dX5_layErrands_42 : decode cX5_layErrands 42 = .ok (.iconst 5, 1) := by decide +kernel
theorem dX5_layErrands_43 : decode cX5_layErrands 43 = .ok (.istore 6, 2) := by decide +kernel
theorem dX5_layErrands_45 : decode cX5_layErrands 45 = .ok (.iload 6, 2) := by decide +kernel
theorem dX5_layErrands_47 : decode cX5_layErrands 47 = .ok (.ifCond .lt 70, 3) := by decide +kernel
theorem dX5_layErrands_50 : decode cX5_layErrands 50 = .ok (.iload_n 1, 1) := by decide +kernel
theorem dX5_layErrands_51 : decode cX5_layErrands 51 = .ok (.iload 6, 2) := by decide +kernel
theorem dX5_layErrands_53 : decode cX5_layErrands 53 = .ok (.ishr, 1) := by decide +kernel
theorem dX5_layErrands_54 : decode cX5_layErrands 54 = .ok (.iconst 1, 1) := by decide +kernel
theorem dX5_layErrands_55 : decode cX5_layErrands 55 = .ok (.iand, 1) := by decide +kernel
theorem dX5_layErrands_56 : decode cX5_layErrands 56 = .ok (.iconst 1, 1) := by decide +kernel
theorem dX5_layErrands_57 : decode cX5_layErrands 57 = .ok (.if_icmp .ne 54, 3) := by decide +kernel
theorem dX5_layErrands_60 : decode cX5_layErrands 60 = .ok (.aload_n 0, 1) := by decide +kernel
theorem dX5_layErrands_61 : decode cX5_layErrands 61 = .ok (.getfield 73, 3) := by decide +kernel
theorem dX5_layErrands_64 : decode cX5_layErrands 64 = .ok (.iload 4, 2) := by decide +kernel
theorem dX5_layErrands_66 : decode cX5_layErrands 66 = .ok (.iload 6, 2) := by decide +kernel
theorem dX5_layErrands_68 : decode cX5_layErrands 68 = .ok (.iastore, 1) := by decide +kernel
theorem dX5_layErrands_69 : decode cX5_layErrands 69 = .ok (.aload_n 0, 1) := by decide +kernel
theorem dX5_layErrands_70 : decode cX5_layErrands 70 = .ok (.getfield 76, 3) := by decide +kernel
theorem dX5_layErrands_73 : decode cX5_layErrands 73 = .ok (.iload 4, 2) := by decide +kernel
theorem dX5_layErrands_75 : decode cX5_layErrands 75 = .ok (.iload_n 3, 1) := by decide +kernel
theorem dX5_layErrands_76 : decode cX5_layErrands 76 = .ok (.bipush 10, 2) := by decide +kernel
theorem dX5_layErrands_78 : decode cX5_layErrands 78 = .ok (.irem, 1) := by decide +kernel
theorem dX5_layErrands_79 : decode cX5_layErrands 79 = .ok (.iastore, 1) := by decide +kernel
theorem dX5_layErrands_80 : decode cX5_layErrands 80 = .ok (.iload 5, 2) := by decide +kernel
theorem dX5_layErrands_82 : decode cX5_layErrands 82 = .ok (.ifCond .eq 18, 3) := by decide +kernel
theorem dX5_layErrands_85 : decode cX5_layErrands 85 = .ok (.aload_n 0, 1) := by decide +kernel
theorem dX5_layErrands_86 : decode cX5_layErrands 86 = .ok (.iload_n 3, 1) := by decide +kernel
theorem dX5_layErrands_87 : decode cX5_layErrands 87 = .ok (.bipush 10, 2) := by decide +kernel
theorem dX5_layErrands_89 : decode cX5_layErrands 89 = .ok (.irem, 1) := by decide +kernel
theorem dX5_layErrands_90 : decode cX5_layErrands 90 = .ok (.invokevirtual 130, 3) := by decide +kernel
theorem dX5_layErrands_93 : decode cX5_layErrands 93 = .ok (.ifCond .eq 7, 3) := by decide +kernel
theorem dX5_layErrands_96 : decode cX5_layErrands 96 = .ok (.iconst 1, 1) := by decide +kernel
theorem dX5_layErrands_97 : decode cX5_layErrands 97 = .ok (.goto 4, 3) := by decide +kernel
theorem dX5_layErrands_100 : decode cX5_layErrands 100 = .ok (.iconst 0, 1) := by decide +kernel
theorem dX5_layErrands_101 : decode cX5_layErrands 101 = .ok (.istore 5, 2) := by decide +kernel
theorem dX5_layErrands_103 : decode cX5_layErrands 103 = .ok (.iload_n 3, 1) := by decide +kernel
theorem dX5_layErrands_104 : decode cX5_layErrands 104 = .ok (.bipush 10, 2) := by decide +kernel
theorem dX5_layErrands_106 : decode cX5_layErrands 106 = .ok (.idiv, 1) := by decide +kernel
theorem dX5_layErrands_107 : decode cX5_layErrands 107 = .ok (.istore_n 3, 1) := by decide +kernel
theorem dX5_layErrands_108 : decode cX5_layErrands 108 = .ok (.iinc 4 (-1), 3) := by decide +kernel
theorem dX5_layErrands_111 : decode cX5_layErrands 111 = .ok (.iinc 6 (-1), 3) := by decide +kernel
theorem dX5_layErrands_114 : decode cX5_layErrands 114 = .ok (.goto (-69), 3) := by decide +kernel
theorem dX5_layErrands_117 : decode cX5_layErrands 117 = .ok (.iload 5, 2) := by decide +kernel
theorem dX5_layErrands_119 : decode cX5_layErrands 119 = .ok (.ireturn, 1) := by decide +kernel
theorem dX5_goesErrand_0 : decode cX5_goesErrand 0 = .ok (.aload_n 0, 1) := by decide +kernel
theorem dX5_goesErrand_1 : decode cX5_goesErrand 1 = .ok (.iload_n 1, 1) := by decide +kernel
theorem dX5_goesErrand_2 : decode cX5_goesErrand 2 = .ok (.iload_n 2, 1) := by decide +kernel
theorem dX5_goesErrand_3 : decode cX5_goesErrand 3 = .ok (.aload_n 0, 1) := by decide +kernel
theorem dX5_goesErrand_4 : decode cX5_goesErrand 4 = .ok (.iload_n 1, 1) := by decide +kernel
theorem dX5_goesErrand_5 : decode cX5_goesErrand 5 = .ok (.invokevirtual 206, 3) := by decide +kernel
theorem dX5_goesErrand_8 : decode cX5_goesErrand 8 = .ok (.invokevirtual 281, 3) := by decide +kernel
theorem dX5_goesErrand_11 : decode cX5_goesErrand 11 = .ok (.ifCond .ne 5, 3) := by decide +kernel
theorem dX5_goesErrand_14 : decode cX5_goesErrand 14 = .ok (.iconst 0, 1) := by decide +kernel
theorem dX5_goesErrand_15 : decode cX5_goesErrand 15 = .ok (.ireturn, 1) := by decide +kernel
theorem dX5_goesErrand_16 : decode cX5_goesErrand 16 = .ok (.aload_n 0, 1) := by decide +kernel
theorem dX5_goesErrand_17 : decode cX5_goesErrand 17 = .ok (.getfield 22, 3) := by decide +kernel
theorem dX5_goesErrand_20 : decode cX5_goesErrand 20 = .ok (.iload_n 1, 1) := by decide +kernel
theorem dX5_goesErrand_21 : decode cX5_goesErrand 21 = .ok (.iload_n 2, 1) := by decide +kernel
theorem dX5_goesErrand_22 : decode cX5_goesErrand 22 = .ok (.iastore, 1) := by decide +kernel
theorem dX5_goesErrand_23 : decode cX5_goesErrand 23 = .ok (.iconst 0, 1) := by decide +kernel
theorem dX5_goesErrand_24 : decode cX5_goesErrand 24 = .ok (.istore_n 3, 1) := by decide +kernel
theorem dX5_goesErrand_25 : decode cX5_goesErrand 25 = .ok (.iload_n 3, 1) := by decide +kernel
theorem dX5_goesErrand_26 : decode cX5_goesErrand 26 = .ok (.bipush 6, 2) := by decide +kernel
theorem dX5_goesErrand_28 : decode cX5_goesErrand 28 = .ok (.if_icmp .ge 46, 3) := by decide +kernel
theorem dX5_goesErrand_31 : decode cX5_goesErrand 31 = .ok (.aload_n 0, 1) := by decide +kernel
theorem dX5_goesErrand_32 : decode cX5_goesErrand 32 = .ok (.getfield 28, 3) := by decide +kernel
theorem dX5_goesErrand_35 : decode cX5_goesErrand 35 = .ok (.iload_n 3, 1) := by decide +kernel
theorem dX5_goesErrand_36 : decode cX5_goesErrand 36 = .ok (.dup2, 1) := by decide +kernel
theorem dX5_goesErrand_37 : decode cX5_goesErrand 37 = .ok (.iaload, 1) := by decide +kernel
theorem dX5_goesErrand_38 : decode cX5_goesErrand 38 = .ok (.aload_n 0, 1) := by decide +kernel
theorem dX5_goesErrand_39 : decode cX5_goesErrand 39 = .ok (.iload_n 3, 1) := by decide +kernel
theorem dX5_goesErrand_40 : decode cX5_goesErrand 40 = .ok (.invokevirtual 143, 3) := by decide +kernel
theorem dX5_goesErrand_43 : decode cX5_goesErrand 43 = .ok (.ifCond .eq 22, 3) := by decide +kernel
theorem dX5_goesErrand_46 : decode cX5_goesErrand 46 = .ok (.aload_n 0, 1) := by decide +kernel
theorem dX5_goesErrand_47 : decode cX5_goesErrand 47 = .ok (.getfield 22, 3) := by decide +kernel
theorem dX5_goesErrand_50 : decode cX5_goesErrand 50 = .ok (.iload_n 3, 1) := by decide +kernel
theorem dX5_goesErrand_51 : decode cX5_goesErrand 51 = .ok (.iaload, 1) := by decide +kernel
theorem dX5_goesErrand_52 : decode cX5_goesErrand 52 = .ok (.iload_n 2, 1) := by decide +kernel
theorem dX5_goesErrand_53 : decode cX5_goesErrand 53 = .ok (.if_icmp .ne 12, 3) := by decide +kernel
theorem dX5_goesErrand_56 : decode cX5_goesErrand 56 = .ok (.aload_n 0, 1) := by decide +kernel
theorem dX5_goesErrand_57 : decode cX5_goesErrand 57 = .ok (.getfield 28, 3) := by decide +kernel
theorem dX5_goesErrand_60 : decode cX5_goesErrand 60 = .ok (.iload_n 1, 1) := by decide +kernel
theorem dX5_goesErrand_61 : decode cX5_goesErrand 61 = .ok (.iaload, 1) := by decide +kernel
theorem dX5_goesErrand_62 : decode cX5_goesErrand 62 = .ok (.goto 4, 3) := by decide +kernel
theorem dX5_goesErrand_65 : decode cX5_goesErrand 65 = .ok (.iconst 0, 1) := by decide +kernel
theorem dX5_goesErrand_66 : decode cX5_goesErrand 66 = .ok (.ior, 1) := by decide +kernel
theorem dX5_goesErrand_67 : decode cX5_goesErrand 67 = .ok (.iastore, 1) := by decide +kernel
theorem dX5_goesErrand_68 : decode cX5_goesErrand 68 = .ok (.iinc 3 1, 3) := by decide +kernel
theorem dX5_goesErrand_71 : decode cX5_goesErrand 71 = .ok (.goto (-46), 3) := by decide +kernel
theorem dX5_goesErrand_74 : decode cX5_goesErrand 74 = .ok (.iconst 1, 1) := by decide +kernel
theorem dX5_goesErrand_75 : decode cX5_goesErrand 75 = .ok (.ireturn, 1) := by decide +kernel
theorem dX5_layRow_0 : decode cX5_layRow 0 = .ok (.iload_n 1, 1) := by decide +kernel
theorem dX5_layRow_1 : decode cX5_layRow 1 = .ok (.istore_n 2, 1) := by decide +kernel
theorem dX5_layRow_2 : decode cX5_layRow 2 = .ok (.iconst 0, 1) := by decide +kernel
theorem dX5_layRow_3 : decode cX5_layRow 3 = .ok (.istore_n 3, 1) := by decide +kernel
theorem dX5_layRow_4 : decode cX5_layRow 4 = .ok (.aload_n 0, 1) := by decide +kernel
theorem dX5_layRow_5 : decode cX5_layRow 5 = .ok (.getfield 304, 3) := by decide +kernel
theorem dX5_layRow_8 : decode cX5_layRow 8 = .ok (.iconst 1, 1) := by decide +kernel
theorem dX5_layRow_9 : decode cX5_layRow 9 = .ok (.isub, 1) := by decide +kernel
theorem dX5_layRow_10 : decode cX5_layRow 10 = .ok (.istore 4, 2) := by decide +kernel
theorem dX5_layRow_12 : decode cX5_layRow 12 = .ok (.iload 4, 2) := by decide +kernel
theorem dX5_layRow_14 : decode cX5_layRow 14 = .ok (.ifCond .lt 41, 3) := by decide +kernel
theorem dX5_layRow_17 : decode cX5_layRow 17 = .ok (.aload_n 0, 1) := by decide +kernel
theorem dX5_layRow_18 : decode cX5_layRow 18 = .ok (.getfield 79, 3) := by decide +kernel
theorem dX5_layRow_21 : decode cX5_layRow 21 = .ok (.iload 4, 2) := by decide +kernel
theorem dX5_layRow_23 : decode cX5_layRow 23 = .ok (.iload_n 2, 1) := by decide +kernel
theorem dX5_layRow_24 : decode cX5_layRow 24 = .ok (.aload_n 0, 1) := by decide +kernel
theorem dX5_layRow_25 : decode cX5_layRow 25 = .ok (.getfield 304, 3) := by decide +kernel
theorem dX5_layRow_28 : decode cX5_layRow 28 = .ok (.irem, 1) := by decide +kernel
theorem dX5_layRow_29 : decode cX5_layRow 29 = .ok (.iastore, 1) := by decide +kernel
theorem dX5_layRow_30 : decode cX5_layRow 30 = .ok (.iload_n 3, 1) := by decide +kernel
theorem dX5_layRow_31 : decode cX5_layRow 31 = .ok (.iconst 1, 1) := by decide +kernel
theorem dX5_layRow_32 : decode cX5_layRow 32 = .ok (.aload_n 0, 1) := by decide +kernel
theorem dX5_layRow_33 : decode cX5_layRow 33 = .ok (.getfield 79, 3) := by decide +kernel
theorem dX5_layRow_36 : decode cX5_layRow 36 = .ok (.iload 4, 2) := by decide +kernel
theorem dX5_layRow_38 : decode cX5_layRow 38 = .ok (.iaload, 1) := by decide +kernel
theorem dX5_layRow_39 : decode cX5_layRow 39 = .ok (.ishl, 1) := by decide +kernel
theorem dX5_layRow_40 : decode cX5_layRow 40 = .ok (.ior, 1) := by decide +kernel
theorem dX5_layRow_41 : decode cX5_layRow 41 = .ok (.istore_n 3, 1) := by decide +kernel
theorem dX5_layRow_42 : decode cX5_layRow 42 = .ok (.iload_n 2, 1) := by decide +kernel
theorem dX5_layRow_43 : decode cX5_layRow 43 = .ok (.aload_n 0, 1) := by decide +kernel
theorem dX5_layRow_44 : decode cX5_layRow 44 = .ok (.getfield 304, 3) := by decide +kernel
theorem dX5_layRow_47 : decode cX5_layRow 47 = .ok (.idiv, 1) := by decide +kernel
theorem dX5_layRow_48 : decode cX5_layRow 48 = .ok (.istore_n 2, 1) := by decide +kernel
theorem dX5_layRow_49 : decode cX5_layRow 49 = .ok (.iinc 4 (-1), 3) := by decide +kernel
theorem dX5_layRow_52 : decode cX5_layRow 52 = .ok (.goto (-40), 3) := by decide +kernel
theorem dX5_layRow_55 : decode cX5_layRow 55 = .ok (.iload_n 3, 1) := by decide +kernel
theorem dX5_layRow_56 : decode cX5_layRow 56 = .ok (.iconst 1, 1) := by decide +kernel
theorem dX5_layRow_57 : decode cX5_layRow 57 = .ok (.aload_n 0, 1) := by decide +kernel
theorem dX5_layRow_58 : decode cX5_layRow 58 = .ok (.getfield 304, 3) := by decide +kernel
theorem dX5_layRow_61 : decode cX5_layRow 61 = .ok (.ishl, 1) := by decide +kernel
theorem dX5_layRow_62 : decode cX5_layRow 62 = .ok (.iconst 1, 1) := by decide +kernel
theorem dX5_layRow_63 : decode cX5_layRow 63 = .ok (.isub, 1) := by decide +kernel
theorem dX5_layRow_64 : decode cX5_layRow 64 = .ok (.if_icmp .ne 7, 3) := by decide +kernel
theorem dX5_layRow_67 : decode cX5_layRow 67 = .ok (.iconst 1, 1) := by decide +kernel
theorem dX5_layRow_68 : decode cX5_layRow 68 = .ok (.goto 4, 3) := by decide +kernel
theorem dX5_layRow_71 : decode cX5_layRow 71 = .ok (.iconst 0, 1) := by decide +kernel
theorem dX5_layRow_72 : decode cX5_layRow 72 = .ok (.ireturn, 1) := by decide +kernel
theorem dX5_canAll_0 : decode cX5_canAll 0 = .ok (.aload_n 0, 1) := by decide +kernel
theorem dX5_canAll_1 : decode cX5_canAll 1 = .ok (.invokevirtual 248, 3) := by decide +kernel
theorem dX5_canAll_4 : decode cX5_canAll 4 = .ok (.iconst 1, 1) := by decide +kernel
theorem dX5_canAll_5 : decode cX5_canAll 5 = .ok (.istore_n 1, 1) := by decide +kernel
theorem dX5_canAll_6 : decode cX5_canAll 6 = .ok (.iconst 0, 1) := by decide +kernel
theorem dX5_canAll_7 : decode cX5_canAll 7 = .ok (.istore_n 2, 1) := by decide +kernel
theorem dX5_canAll_8 : decode cX5_canAll 8 = .ok (.iload_n 2, 1) := by decide +kernel
theorem dX5_canAll_9 : decode cX5_canAll 9 = .ok (.aload_n 0, 1) := by decide +kernel
theorem dX5_canAll_10 : decode cX5_canAll 10 = .ok (.getfield 304, 3) := by decide +kernel
theorem dX5_canAll_13 : decode cX5_canAll 13 = .ok (.if_icmp .ge 40, 3) := by decide +kernel
theorem dX5_canAll_16 : decode cX5_canAll 16 = .ok (.iload_n 1, 1) := by decide +kernel
theorem dX5_canAll_17 : decode cX5_canAll 17 = .ok (.ifCond .eq 36, 3) := by decide +kernel
theorem dX5_canAll_20 : decode cX5_canAll 20 = .ok (.aload_n 0, 1) := by decide +kernel
theorem dX5_canAll_21 : decode cX5_canAll 21 = .ok (.aload_n 0, 1) := by decide +kernel
theorem dX5_canAll_22 : decode cX5_canAll 22 = .ok (.getfield 73, 3) := by decide +kernel
theorem dX5_canAll_25 : decode cX5_canAll 25 = .ok (.aload_n 0, 1) := by decide +kernel
theorem dX5_canAll_26 : decode cX5_canAll 26 = .ok (.getfield 79, 3) := by decide +kernel
theorem dX5_canAll_29 : decode cX5_canAll 29 = .ok (.iload_n 2, 1) := by decide +kernel
theorem dX5_canAll_30 : decode cX5_canAll 30 = .ok (.iaload, 1) := by decide +kernel
theorem dX5_canAll_31 : decode cX5_canAll 31 = .ok (.iaload, 1) := by decide +kernel
theorem dX5_canAll_32 : decode cX5_canAll 32 = .ok (.aload_n 0, 1) := by decide +kernel
theorem dX5_canAll_33 : decode cX5_canAll 33 = .ok (.getfield 76, 3) := by decide +kernel
theorem dX5_canAll_36 : decode cX5_canAll 36 = .ok (.aload_n 0, 1) := by decide +kernel
theorem dX5_canAll_37 : decode cX5_canAll 37 = .ok (.getfield 79, 3) := by decide +kernel
theorem dX5_canAll_40 : decode cX5_canAll 40 = .ok (.iload_n 2, 1) := by decide +kernel
theorem dX5_canAll_41 : decode cX5_canAll 41 = .ok (.iaload, 1) := by decide +kernel
theorem dX5_canAll_42 : decode cX5_canAll 42 = .ok (.iaload, 1) := by decide +kernel
theorem dX5_canAll_43 : decode cX5_canAll 43 = .ok (.invokevirtual 310, 3) := by decide +kernel
theorem dX5_canAll_46 : decode cX5_canAll 46 = .ok (.istore_n 1, 1) := by decide +kernel
theorem dX5_canAll_47 : decode cX5_canAll 47 = .ok (.iinc 2 1, 3) := by decide +kernel
theorem dX5_canAll_50 : decode cX5_canAll 50 = .ok (.goto (-42), 3) := by decide +kernel
theorem dX5_canAll_53 : decode cX5_canAll 53 = .ok (.aload_n 0, 1) := by decide +kernel
theorem dX5_canAll_54 : decode cX5_canAll 54 = .ok (.invokevirtual 254, 3) := by decide +kernel
theorem dX5_canAll_57 : decode cX5_canAll 57 = .ok (.iload_n 1, 1) := by decide +kernel
theorem dX5_canAll_58 : decode cX5_canAll 58 = .ok (.ireturn, 1) := by decide +kernel
theorem dX5_errands_0 : decode cX5_errands 0 = .ok (.iload_n 1, 1) := by decide +kernel
theorem dX5_errands_1 : decode cX5_errands 1 = .ok (.i2l, 1) := by decide +kernel
theorem dX5_errands_2 : decode cX5_errands 2 = .ok (.lconst 0, 1) := by decide +kernel
theorem dX5_errands_3 : decode cX5_errands 3 = .ok (.ldc2_w 313, 3) := by decide +kernel
theorem dX5_errands_6 : decode cX5_errands 6 = .ok (.invokestatic 118, 3) := by decide +kernel
theorem dX5_errands_9 : decode cX5_errands 9 = .ok (.ifCond .eq 23, 3) := by decide +kernel
theorem dX5_errands_12 : decode cX5_errands 12 = .ok (.iload_n 1, 1) := by decide +kernel
theorem dX5_errands_13 : decode cX5_errands 13 = .ok (.aload_n 0, 1) := by decide +kernel
theorem dX5_errands_14 : decode cX5_errands 14 = .ok (.getfield 109, 3) := by decide +kernel
theorem dX5_errands_17 : decode cX5_errands 17 = .ok (.iconst (-1), 1) := by decide +kernel
theorem dX5_errands_18 : decode cX5_errands 18 = .ok (.ixor, 1) := by decide +kernel
theorem dX5_errands_19 : decode cX5_errands 19 = .ok (.iand, 1) := by decide +kernel
theorem dX5_errands_20 : decode cX5_errands 20 = .ok (.ifCond .ne 12, 3) := by decide +kernel
theorem dX5_errands_23 : decode cX5_errands 23 = .ok (.aload_n 0, 1) := by decide +kernel
theorem dX5_errands_24 : decode cX5_errands 24 = .ok (.iload_n 1, 1) := by decide +kernel
theorem dX5_errands_25 : decode cX5_errands 25 = .ok (.iload_n 2, 1) := by decide +kernel
theorem dX5_errands_26 : decode cX5_errands 26 = .ok (.invokevirtual 315, 3) := by decide +kernel
theorem dX5_errands_29 : decode cX5_errands 29 = .ok (.ifCond .ne 6, 3) := by decide +kernel
theorem dX5_errands_32 : decode cX5_errands 32 = .ok (.bipush (-2), 2) := by decide +kernel
theorem dX5_errands_34 : decode cX5_errands 34 = .ok (.ireturn, 1) := by decide +kernel
theorem dX5_errands_35 : decode cX5_errands 35 = .ok (.iconst 1, 1) := by decide +kernel
theorem dX5_errands_36 : decode cX5_errands 36 = .ok (.istore 4, 2) := by decide +kernel
theorem dX5_errands_38 : decode cX5_errands 38 = .ok (.iconst 0, 1) := by decide +kernel
theorem dX5_errands_39 : decode cX5_errands 39 = .ok (.istore 5, 2) := by decide +kernel
theorem dX5_errands_41 : decode cX5_errands 41 = .ok (.iload 5, 2) := by decide +kernel
theorem dX5_errands_43 : decode cX5_errands 43 = .ok (.aload_n 0, 1) := by decide +kernel
theorem dX5_errands_44 : decode cX5_errands 44 = .ok (.getfield 304, 3) := by decide +kernel
theorem dX5_errands_47 : decode cX5_errands 47 = .ok (.if_icmp .ge 18, 3) := by decide +kernel
theorem dX5_errands_50 : decode cX5_errands 50 = .ok (.iload 4, 2) := by decide +kernel
theorem dX5_errands_52 : decode cX5_errands 52 = .ok (.aload_n 0, 1) := by decide +kernel
theorem dX5_errands_53 : decode cX5_errands 53 = .ok (.getfield 304, 3) := by decide +kernel
theorem dX5_errands_56 : decode cX5_errands 56 = .ok (.imul, 1) := by decide +kernel
theorem dX5_errands_57 : decode cX5_errands 57 = .ok (.istore 4, 2) := by decide +kernel
theorem dX5_errands_59 : decode cX5_errands 59 = .ok (.iinc 5 1, 3) := by decide +kernel
theorem dX5_errands_62 : decode cX5_errands 62 = .ok (.goto (-21), 3) := by decide +kernel
theorem dX5_errands_65 : decode cX5_errands 65 = .ok (.iconst 0, 1) := by decide +kernel
theorem dX5_errands_66 : decode cX5_errands 66 = .ok (.istore 5, 2) := by decide +kernel
theorem dX5_errands_68 : decode cX5_errands 68 = .ok (.iload 5, 2) := by decide +kernel
theorem dX5_errands_70 : decode cX5_errands 70 = .ok (.iload 4, 2) := by decide +kernel
theorem dX5_errands_72 : decode cX5_errands 72 = .ok (.if_icmp .ge 58, 3) := by decide +kernel
theorem dX5_errands_75 : decode cX5_errands 75 = .ok (.aload_n 0, 1) := by decide +kernel
theorem dX5_errands_76 : decode cX5_errands 76 = .ok (.iload 5, 2) := by decide +kernel
theorem dX5_errands_78 : decode cX5_errands 78 = .ok (.invokevirtual 318, 3) := by decide +kernel
theorem dX5_errands_81 : decode cX5_errands 81 = .ok (.ifCond .eq 43, 3) := by decide +kernel
theorem dX5_errands_84 : decode cX5_errands 84 = .ok (.aload_n 0, 1) := by decide +kernel
theorem dX5_errands_85 : decode cX5_errands 85 = .ok (.invokevirtual 321, 3) := by decide +kernel
theorem dX5_errands_88 : decode cX5_errands 88 = .ok (.ifCond .eq 36, 3) := by decide +kernel
theorem dX5_errands_91 : decode cX5_errands 91 = .ok (.iload_n 3, 1) := by decide +kernel
theorem dX5_errands_92 : decode cX5_errands 92 = .ok (.i2l, 1) := by decide +kernel
theorem dX5_errands_93 : decode cX5_errands 93 = .ok (.lconst 0, 1) := by decide +kernel
theorem dX5_errands_94 : decode cX5_errands 94 = .ok (.aload_n 0, 1) := by decide +kernel
theorem dX5_errands_95 : decode cX5_errands 95 = .ok (.getfield 304, 3) := by decide +kernel
theorem dX5_errands_98 : decode cX5_errands 98 = .ok (.iconst 1, 1) := by decide +kernel
theorem dX5_errands_99 : decode cX5_errands 99 = .ok (.isub, 1) := by decide +kernel
theorem dX5_errands_100 : decode cX5_errands 100 = .ok (.i2l, 1) := by decide +kernel
theorem dX5_errands_101 : decode cX5_errands 101 = .ok (.invokestatic 118, 3) := by decide +kernel
theorem dX5_errands_104 : decode cX5_errands 104 = .ok (.ifCond .eq 17, 3) := by decide +kernel
theorem dX5_errands_107 : decode cX5_errands 107 = .ok (.aload_n 0, 1) := by decide +kernel
theorem dX5_errands_108 : decode cX5_errands 108 = .ok (.getfield 73, 3) := by decide +kernel
theorem dX5_errands_111 : decode cX5_errands 111 = .ok (.aload_n 0, 1) := by decide +kernel
theorem dX5_errands_112 : decode cX5_errands 112 = .ok (.getfield 79, 3) := by decide +kernel
theorem dX5_errands_115 : decode cX5_errands 115 = .ok (.iload_n 3, 1) := by decide +kernel
theorem dX5_errands_116 : decode cX5_errands 116 = .ok (.iaload, 1) := by decide +kernel
theorem dX5_errands_117 : decode cX5_errands 117 = .ok (.iaload, 1) := by decide +kernel
theorem dX5_errands_118 : decode cX5_errands 118 = .ok (.goto 5, 3) := by decide +kernel
theorem dX5_errands_121 : decode cX5_errands 121 = .ok (.bipush (-6), 2) := by decide +kernel
theorem dX5_errands_123 : decode cX5_errands 123 = .ok (.ireturn, 1) := by decide +kernel
theorem dX5_errands_124 : decode cX5_errands 124 = .ok (.iinc 5 1, 3) := by decide +kernel
theorem dX5_errands_127 : decode cX5_errands 127 = .ok (.goto (-59), 3) := by decide +kernel
theorem dX5_errands_130 : decode cX5_errands 130 = .ok (.bipush (-6), 2) := by decide +kernel
theorem dX5_errands_132 : decode cX5_errands 132 = .ok (.ireturn, 1) := by decide +kernel
theorem dX5_half_0 : decode cX5_half 0 = .ok (.iload_n 0, 1) := by decide +kernel
theorem dX5_half_1 : decode cX5_half 1 = .ok (.ifCond .ge 11, 3) := by decide +kernel
theorem dX5_half_4 : decode cX5_half 4 = .ok (.iload_n 0, 1) := by decide +kernel
theorem dX5_half_5 : decode cX5_half 5 = .ok (.iconst 1, 1) := by decide +kernel
theorem dX5_half_6 : decode cX5_half 6 = .ok (.isub, 1) := by decide +kernel
theorem dX5_half_7 : decode cX5_half 7 = .ok (.iconst 2, 1) := by decide +kernel
theorem dX5_half_8 : decode cX5_half 8 = .ok (.idiv, 1) := by decide +kernel
theorem dX5_half_9 : decode cX5_half 9 = .ok (.goto 6, 3) := by decide +kernel
theorem dX5_half_12 : decode cX5_half 12 = .ok (.iload_n 0, 1) := by decide +kernel
theorem dX5_half_13 : decode cX5_half 13 = .ok (.iconst 2, 1) := by decide +kernel
theorem dX5_half_14 : decode cX5_half 14 = .ok (.idiv, 1) := by decide +kernel
theorem dX5_half_15 : decode cX5_half 15 = .ok (.ireturn, 1) := by decide +kernel
theorem dX5_canBear_0 : decode cX5_canBear 0 = .ok (.aload_n 0, 1) := by decide +kernel
theorem dX5_canBear_1 : decode cX5_canBear 1 = .ok (.iload_n 1, 1) := by decide +kernel
theorem dX5_canBear_2 : decode cX5_canBear 2 = .ok (.iload_n 2, 1) := by decide +kernel
theorem dX5_canBear_3 : decode cX5_canBear 3 = .ok (.aload_n 0, 1) := by decide +kernel
theorem dX5_canBear_4 : decode cX5_canBear 4 = .ok (.iload_n 1, 1) := by decide +kernel
theorem dX5_canBear_5 : decode cX5_canBear 5 = .ok (.invokevirtual 206, 3) := by decide +kernel
theorem dX5_canBear_8 : decode cX5_canBear 8 = .ok (.iload_n 3, 1) := by decide +kernel
theorem dX5_canBear_9 : decode cX5_canBear 9 = .ok (.iadd, 1) := by decide +kernel
theorem dX5_canBear_10 : decode cX5_canBear 10 = .ok (.invokestatic 278, 3) := by decide +kernel
theorem dX5_canBear_13 : decode cX5_canBear 13 = .ok (.invokevirtual 281, 3) := by decide +kernel
theorem dX5_canBear_16 : decode cX5_canBear 16 = .ok (.ireturn, 1) := by decide +kernel
theorem dX5_two_0 : decode cX5_two 0 = .ok (.iload_n 1, 1) := by decide +kernel
theorem dX5_two_1 : decode cX5_two 1 = .ok (.invokestatic 146, 3) := by decide +kernel
theorem dX5_two_4 : decode cX5_two 4 = .ok (.ifCond .eq 11, 3) := by decide +kernel
theorem dX5_two_7 : decode cX5_two 7 = .ok (.aload_n 0, 1) := by decide +kernel
theorem dX5_two_8 : decode cX5_two 8 = .ok (.iload_n 2, 1) := by decide +kernel
theorem dX5_two_9 : decode cX5_two 9 = .ok (.invokevirtual 130, 3) := by decide +kernel
theorem dX5_two_12 : decode cX5_two 12 = .ok (.ifCond .ne 5, 3) := by decide +kernel
theorem dX5_two_15 : decode cX5_two 15 = .ok (.iconst (-1), 1) := by decide +kernel
theorem dX5_two_16 : decode cX5_two 16 = .ok (.ireturn, 1) := by decide +kernel
theorem dX5_two_17 : decode cX5_two 17 = .ok (.aload_n 0, 1) := by decide +kernel
theorem dX5_two_18 : decode cX5_two 18 = .ok (.getfield 31, 3) := by decide +kernel
theorem dX5_two_21 : decode cX5_two 21 = .ok (.iload_n 1, 1) := by decide +kernel
theorem dX5_two_22 : decode cX5_two 22 = .ok (.iaload, 1) := by decide +kernel
theorem dX5_two_23 : decode cX5_two 23 = .ok (.invokestatic 325, 3) := by decide +kernel
theorem dX5_two_26 : decode cX5_two 26 = .ok (.istore 4, 2) := by decide +kernel
theorem dX5_two_28 : decode cX5_two 28 = .ok (.iconst 0, 1) := by decide +kernel
theorem dX5_two_29 : decode cX5_two 29 = .ok (.istore 5, 2) := by decide +kernel
theorem dX5_two_31 : decode cX5_two 31 = .ok (.iconst 0, 1) := by decide +kernel
theorem dX5_two_32 : decode cX5_two 32 = .ok (.istore 6, 2) := by decide +kernel
theorem dX5_two_34 : decode cX5_two 34 = .ok (.iload 6, 2) := by decide +kernel
theorem dX5_two_36 : decode cX5_two 36 = .ok (.bipush 6, 2) := by decide +kernel
theorem dX5_two_38 : decode cX5_two 38 = .ok (.if_icmp .ge 95, 3) := by decide +kernel
theorem dX5_two_41 : decode cX5_two 41 = .ok (.iload 6, 2) := by decide +kernel
theorem dX5_two_43 : decode cX5_two 43 = .ok (.iconst 1, 1) := by decide +kernel
theorem dX5_two_44 : decode cX5_two 44 = .ok (.iadd, 1) := by decide +kernel
theorem dX5_two_45 : decode cX5_two 45 = .ok (.istore 7, 2) := by decide +kernel
theorem dX5_two_47 : decode cX5_two 47 = .ok (.iload 7, 2) := by decide +kernel
theorem dX5_two_49 : decode cX5_two 49 = .ok (.bipush 6, 2) := by decide +kernel
theorem dX5_two_51 : decode cX5_two 51 = .ok (.if_icmp .ge 76, 3) := by decide +kernel
theorem dX5_two_54 : decode cX5_two 54 = .ok (.aload_n 0, 1) := by decide +kernel
theorem dX5_two_55 : decode cX5_two 55 = .ok (.iload 6, 2) := by decide +kernel
theorem dX5_two_57 : decode cX5_two 57 = .ok (.invokevirtual 143, 3) := by decide +kernel
theorem dX5_two_60 : decode cX5_two 60 = .ok (.ifCond .eq 61, 3) := by decide +kernel
theorem dX5_two_63 : decode cX5_two 63 = .ok (.aload_n 0, 1) := by decide +kernel
theorem dX5_two_64 : decode cX5_two 64 = .ok (.iload 7, 2) := by decide +kernel
theorem dX5_two_66 : decode cX5_two 66 = .ok (.invokevirtual 143, 3) := by decide +kernel
theorem dX5_two_69 : decode cX5_two 69 = .ok (.ifCond .eq 52, 3) := by decide +kernel
theorem dX5_two_72 : decode cX5_two 72 = .ok (.aload_n 0, 1) := by decide +kernel
theorem dX5_two_73 : decode cX5_two 73 = .ok (.iload 6, 2) := by decide +kernel
theorem dX5_two_75 : decode cX5_two 75 = .ok (.iload_n 2, 1) := by decide +kernel
theorem dX5_two_76 : decode cX5_two 76 = .ok (.iload 4, 2) := by decide +kernel
theorem dX5_two_78 : decode cX5_two 78 = .ok (.invokevirtual 328, 3) := by decide +kernel
theorem dX5_two_81 : decode cX5_two 81 = .ok (.ifCond .eq 40, 3) := by decide +kernel
theorem dX5_two_84 : decode cX5_two 84 = .ok (.aload_n 0, 1) := by decide +kernel
theorem dX5_two_85 : decode cX5_two 85 = .ok (.iload 7, 2) := by decide +kernel
theorem dX5_two_87 : decode cX5_two 87 = .ok (.iload_n 2, 1) := by decide +kernel
theorem dX5_two_88 : decode cX5_two 88 = .ok (.aload_n 0, 1) := by decide +kernel
theorem dX5_two_89 : decode cX5_two 89 = .ok (.getfield 31, 3) := by decide +kernel
theorem dX5_two_92 : decode cX5_two 92 = .ok (.iload_n 1, 1) := by decide +kernel
theorem dX5_two_93 : decode cX5_two 93 = .ok (.iaload, 1) := by decide +kernel
theorem dX5_two_94 : decode cX5_two 94 = .ok (.iload 4, 2) := by decide +kernel
theorem dX5_two_96 : decode cX5_two 96 = .ok (.isub, 1) := by decide +kernel
theorem dX5_two_97 : decode cX5_two 97 = .ok (.invokevirtual 328, 3) := by decide +kernel
theorem dX5_two_100 : decode cX5_two 100 = .ok (.ifCond .eq 21, 3) := by decide +kernel
theorem dX5_two_103 : decode cX5_two 103 = .ok (.iload 5, 2) := by decide +kernel
theorem dX5_two_105 : decode cX5_two 105 = .ok (.iload_n 3, 1) := by decide +kernel
theorem dX5_two_106 : decode cX5_two 106 = .ok (.if_icmp .ne 12, 3) := by decide +kernel
theorem dX5_two_109 : decode cX5_two 109 = .ok (.bipush 10, 2) := by decide +kernel
theorem dX5_two_111 : decode cX5_two 111 = .ok (.iload 6, 2) := by decide +kernel
theorem dX5_two_113 : decode cX5_two 113 = .ok (.imul, 1) := by decide +kernel
theorem dX5_two_114 : decode cX5_two 114 = .ok (.iload 7, 2) := by decide +kernel
theorem dX5_two_116 : decode cX5_two 116 = .ok (.iadd, 1) := by decide +kernel
theorem dX5_two_117 : decode cX5_two 117 = .ok (.ireturn, 1) := by decide +kernel
theorem dX5_two_118 : decode cX5_two 118 = .ok (.iinc 5 1, 3) := by decide +kernel
theorem dX5_two_121 : decode cX5_two 121 = .ok (.iinc 7 1, 3) := by decide +kernel
theorem dX5_two_124 : decode cX5_two 124 = .ok (.goto (-77), 3) := by decide +kernel
theorem dX5_two_127 : decode cX5_two 127 = .ok (.iinc 6 1, 3) := by decide +kernel
theorem dX5_two_130 : decode cX5_two 130 = .ok (.goto (-96), 3) := by decide +kernel
theorem dX5_two_133 : decode cX5_two 133 = .ok (.iload_n 3, 1) := by decide +kernel
theorem dX5_two_134 : decode cX5_two 134 = .ok (.iconst (-1), 1) := by decide +kernel
theorem dX5_two_135 : decode cX5_two 135 = .ok (.if_icmp .ne 8, 3) := by decide +kernel
theorem dX5_two_138 : decode cX5_two 138 = .ok (.iload 5, 2) := by decide +kernel
theorem dX5_two_140 : decode cX5_two 140 = .ok (.goto 5, 3) := by decide +kernel
theorem dX5_two_143 : decode cX5_two 143 = .ok (.bipush (-6), 2) := by decide +kernel
theorem dX5_two_145 : decode cX5_two 145 = .ok (.ireturn, 1) := by decide +kernel
theorem dX5_feeOf_0 : decode cX5_feeOf 0 = .ok (.aload_n 0, 1) := by decide +kernel
theorem dX5_feeOf_1 : decode cX5_feeOf 1 = .ok (.iload_n 1, 1) := by decide +kernel
theorem dX5_feeOf_2 : decode cX5_feeOf 2 = .ok (.invokevirtual 206, 3) := by decide +kernel
theorem dX5_feeOf_5 : decode cX5_feeOf 5 = .ok (.istore_n 3, 1) := by decide +kernel
theorem dX5_feeOf_6 : decode cX5_feeOf 6 = .ok (.aload_n 0, 1) := by decide +kernel
theorem dX5_feeOf_7 : decode cX5_feeOf 7 = .ok (.aload_n 0, 1) := by decide +kernel
theorem dX5_feeOf_8 : decode cX5_feeOf 8 = .ok (.getfield 22, 3) := by decide +kernel
theorem dX5_feeOf_11 : decode cX5_feeOf 11 = .ok (.iload_n 1, 1) := by decide +kernel
theorem dX5_feeOf_12 : decode cX5_feeOf 12 = .ok (.iaload, 1) := by decide +kernel
theorem dX5_feeOf_13 : decode cX5_feeOf 13 = .ok (.iload_n 2, 1) := by decide +kernel
theorem dX5_feeOf_14 : decode cX5_feeOf 14 = .ok (.iload_n 3, 1) := by decide +kernel
theorem dX5_feeOf_15 : decode cX5_feeOf 15 = .ok (.invokevirtual 264, 3) := by decide +kernel
theorem dX5_feeOf_18 : decode cX5_feeOf 18 = .ok (.istore 4, 2) := by decide +kernel
theorem dX5_feeOf_20 : decode cX5_feeOf 20 = .ok (.iload 4, 2) := by decide +kernel
theorem dX5_feeOf_22 : decode cX5_feeOf 22 = .ok (.sipush 1000, 3) := by decide +kernel
theorem dX5_feeOf_25 : decode cX5_feeOf 25 = .ok (.if_icmp .ne 8, 3) := by decide +kernel
theorem dX5_feeOf_28 : decode cX5_feeOf 28 = .ok (.bipush (-6), 2) := by decide +kernel
theorem dX5_feeOf_30 : decode cX5_feeOf 30 = .ok (.goto 7, 3) := by decide +kernel
theorem dX5_feeOf_33 : decode cX5_feeOf 33 = .ok (.iload_n 3, 1) := by decide +kernel
theorem dX5_feeOf_34 : decode cX5_feeOf 34 = .ok (.iload 4, 2) := by decide +kernel
theorem dX5_feeOf_36 : decode cX5_feeOf 36 = .ok (.imul, 1) := by decide +kernel
theorem dX5_feeOf_37 : decode cX5_feeOf 37 = .ok (.ireturn, 1) := by decide +kernel
theorem dX5_fee_0 : decode cX5_fee 0 = .ok (.aload_n 0, 1) := by decide +kernel
theorem dX5_fee_1 : decode cX5_fee 1 = .ok (.iload_n 1, 1) := by decide +kernel
theorem dX5_fee_2 : decode cX5_fee 2 = .ok (.iload_n 2, 1) := by decide +kernel
theorem dX5_fee_3 : decode cX5_fee 3 = .ok (.invokevirtual 267, 3) := by decide +kernel
theorem dX5_fee_6 : decode cX5_fee 6 = .ok (.ifCond .eq 12, 3) := by decide +kernel
theorem dX5_fee_9 : decode cX5_fee 9 = .ok (.aload_n 0, 1) := by decide +kernel
theorem dX5_fee_10 : decode cX5_fee 10 = .ok (.iload_n 1, 1) := by decide +kernel
theorem dX5_fee_11 : decode cX5_fee 11 = .ok (.iload_n 2, 1) := by decide +kernel
theorem dX5_fee_12 : decode cX5_fee 12 = .ok (.invokevirtual 331, 3) := by decide +kernel
theorem dX5_fee_15 : decode cX5_fee 15 = .ok (.goto 4, 3) := by decide +kernel
theorem dX5_fee_18 : decode cX5_fee 18 = .ok (.iconst (-1), 1) := by decide +kernel
theorem dX5_fee_19 : decode cX5_fee 19 = .ok (.ireturn, 1) := by decide +kernel
theorem dX5_fees_0 : decode cX5_fees 0 = .ok (.aload_n 0, 1) := by decide +kernel
theorem dX5_fees_1 : decode cX5_fees 1 = .ok (.iload_n 1, 1) := by decide +kernel
theorem dX5_fees_2 : decode cX5_fees 2 = .ok (.invokevirtual 130, 3) := by decide +kernel
theorem dX5_fees_5 : decode cX5_fees 5 = .ok (.ifCond .ne 5, 3) := by decide +kernel
theorem dX5_fees_8 : decode cX5_fees 8 = .ok (.iconst (-1), 1) := by decide +kernel
theorem dX5_fees_9 : decode cX5_fees 9 = .ok (.ireturn, 1) := by decide +kernel
theorem dX5_fees_10 : decode cX5_fees 10 = .ok (.iload_n 2, 1) := by decide +kernel
theorem dX5_fees_11 : decode cX5_fees 11 = .ok (.i2l, 1) := by decide +kernel
theorem dX5_fees_12 : decode cX5_fees 12 = .ok (.lconst 0, 1) := by decide +kernel
theorem dX5_fees_13 : decode cX5_fees 13 = .ok (.lconst 1, 1) := by decide +kernel
theorem dX5_fees_14 : decode cX5_fees 14 = .ok (.invokestatic 118, 3) := by decide +kernel
theorem dX5_fees_17 : decode cX5_fees 17 = .ok (.ifCond .ne 6, 3) := by decide +kernel
theorem dX5_fees_20 : decode cX5_fees 20 = .ok (.bipush (-2), 2) := by decide +kernel
theorem dX5_fees_22 : decode cX5_fees 22 = .ok (.ireturn, 1) := by decide +kernel
theorem dX5_fees_23 : decode cX5_fees 23 = .ok (.iconst 0, 1) := by decide +kernel
theorem dX5_fees_24 : decode cX5_fees 24 = .ok (.istore_n 3, 1) := by decide +kernel
theorem dX5_fees_25 : decode cX5_fees 25 = .ok (.iconst 0, 1) := by decide +kernel
theorem dX5_fees_26 : decode cX5_fees 26 = .ok (.istore 4, 2) := by decide +kernel
theorem dX5_fees_28 : decode cX5_fees 28 = .ok (.iconst 0, 1) := by decide +kernel
theorem dX5_fees_29 : decode cX5_fees 29 = .ok (.istore 5, 2) := by decide +kernel
theorem dX5_fees_31 : decode cX5_fees 31 = .ok (.iload 5, 2) := by decide +kernel
theorem dX5_fees_33 : decode cX5_fees 33 = .ok (.bipush 6, 2) := by decide +kernel
theorem dX5_fees_35 : decode cX5_fees 35 = .ok (.if_icmp .ge 61, 3) := by decide +kernel
theorem dX5_fees_38 : decode cX5_fees 38 = .ok (.aload_n 0, 1) := by decide +kernel
theorem dX5_fees_39 : decode cX5_fees 39 = .ok (.iload 5, 2) := by decide +kernel
theorem dX5_fees_41 : decode cX5_fees 41 = .ok (.invokevirtual 143, 3) := by decide +kernel
theorem dX5_fees_44 : decode cX5_fees 44 = .ok (.ifCond .eq 13, 3) := by decide +kernel
theorem dX5_fees_47 : decode cX5_fees 47 = .ok (.aload_n 0, 1) := by decide +kernel
theorem dX5_fees_48 : decode cX5_fees 48 = .ok (.iload 5, 2) := by decide +kernel
theorem dX5_fees_50 : decode cX5_fees 50 = .ok (.iload_n 1, 1) := by decide +kernel
theorem dX5_fees_51 : decode cX5_fees 51 = .ok (.invokevirtual 331, 3) := by decide +kernel
theorem dX5_fees_54 : decode cX5_fees 54 = .ok (.goto 5, 3) := by decide +kernel
theorem dX5_fees_57 : decode cX5_fees 57 = .ok (.bipush (-6), 2) := by decide +kernel
theorem dX5_fees_59 : decode cX5_fees 59 = .ok (.istore 6, 2) := by decide +kernel
theorem dX5_fees_61 : decode cX5_fees 61 = .ok (.iload_n 3, 1) := by decide +kernel
theorem dX5_fees_62 : decode cX5_fees 62 = .ok (.iload 6, 2) := by decide +kernel
theorem dX5_fees_64 : decode cX5_fees 64 = .ok (.ifCond .lt 8, 3) := by decide +kernel
theorem dX5_fees_67 : decode cX5_fees 67 = .ok (.iload 6, 2) := by decide +kernel
theorem dX5_fees_69 : decode cX5_fees 69 = .ok (.goto 4, 3) := by decide +kernel
theorem dX5_fees_72 : decode cX5_fees 72 = .ok (.iconst 0, 1) := by decide +kernel
theorem dX5_fees_73 : decode cX5_fees 73 = .ok (.iadd, 1) := by decide +kernel
theorem dX5_fees_74 : decode cX5_fees 74 = .ok (.istore_n 3, 1) := by decide +kernel
theorem dX5_fees_75 : decode cX5_fees 75 = .ok (.iload 4, 2) := by decide +kernel
theorem dX5_fees_77 : decode cX5_fees 77 = .ok (.iload 6, 2) := by decide +kernel
theorem dX5_fees_79 : decode cX5_fees 79 = .ok (.ifCond .lt 7, 3) := by decide +kernel
theorem dX5_fees_82 : decode cX5_fees 82 = .ok (.iconst 1, 1) := by decide +kernel
theorem dX5_fees_83 : decode cX5_fees 83 = .ok (.goto 4, 3) := by decide +kernel
theorem dX5_fees_86 : decode cX5_fees 86 = .ok (.iconst 0, 1) := by decide +kernel
theorem dX5_fees_87 : decode cX5_fees 87 = .ok (.iadd, 1) := by decide +kernel
theorem dX5_fees_88 : decode cX5_fees 88 = .ok (.istore 4, 2) := by decide +kernel
theorem dX5_fees_90 : decode cX5_fees 90 = .ok (.iinc 5 1, 3) := by decide +kernel
theorem dX5_fees_93 : decode cX5_fees 93 = .ok (.goto (-62), 3) := by decide +kernel
theorem dX5_fees_96 : decode cX5_fees 96 = .ok (.iload_n 2, 1) := by decide +kernel
theorem dX5_fees_97 : decode cX5_fees 97 = .ok (.ifCond .ne 7, 3) := by decide +kernel
theorem dX5_fees_100 : decode cX5_fees 100 = .ok (.iload_n 3, 1) := by decide +kernel
theorem dX5_fees_101 : decode cX5_fees 101 = .ok (.goto 5, 3) := by decide +kernel
theorem dX5_fees_104 : decode cX5_fees 104 = .ok (.iload 4, 2) := by decide +kernel
theorem dX5_fees_106 : decode cX5_fees 106 = .ok (.ireturn, 1) := by decide +kernel
theorem dX5_seen_0 : decode cX5_seen 0 = .ok (.iload_n 1, 1) := by decide +kernel
theorem dX5_seen_1 : decode cX5_seen 1 = .ok (.i2l, 1) := by decide +kernel
theorem dX5_seen_2 : decode cX5_seen 2 = .ok (.lconst 0, 1) := by decide +kernel
theorem dX5_seen_3 : decode cX5_seen 3 = .ok (.ldc2_w 122, 3) := by decide +kernel
theorem dX5_seen_6 : decode cX5_seen 6 = .ok (.invokestatic 118, 3) := by decide +kernel
theorem dX5_seen_9 : decode cX5_seen 9 = .ok (.ifCond .ne 5, 3) := by decide +kernel
theorem dX5_seen_12 : decode cX5_seen 12 = .ok (.iconst (-1), 1) := by decide +kernel
theorem dX5_seen_13 : decode cX5_seen 13 = .ok (.ireturn, 1) := by decide +kernel
theorem dX5_seen_14 : decode cX5_seen 14 = .ok (.iload_n 2, 1) := by decide +kernel
theorem dX5_seen_15 : decode cX5_seen 15 = .ok (.i2l, 1) := by decide +kernel
theorem dX5_seen_16 : decode cX5_seen 16 = .ok (.lconst 0, 1) := by decide +kernel
theorem dX5_seen_17 : decode cX5_seen 17 = .ok (.ldc2_w 334, 3) := by decide +kernel
theorem dX5_seen_20 : decode cX5_seen 20 = .ok (.invokestatic 118, 3) := by decide +kernel
theorem dX5_seen_23 : decode cX5_seen 23 = .ok (.ifCond .ne 6, 3) := by decide +kernel
theorem dX5_seen_26 : decode cX5_seen 26 = .ok (.bipush (-2), 2) := by decide +kernel
theorem dX5_seen_28 : decode cX5_seen 28 = .ok (.ireturn, 1) := by decide +kernel
theorem dX5_seen_29 : decode cX5_seen 29 = .ok (.aload_n 0, 1) := by decide +kernel
theorem dX5_seen_30 : decode cX5_seen 30 = .ok (.getfield 115, 3) := by decide +kernel
theorem dX5_seen_33 : decode cX5_seen 33 = .ok (.bipush 6, 2) := by decide +kernel
theorem dX5_seen_35 : decode cX5_seen 35 = .ok (.if_icmp .ne 6, 3) := by decide +kernel
theorem dX5_seen_38 : decode cX5_seen 38 = .ok (.bipush (-4), 2) := by decide +kernel
theorem dX5_seen_40 : decode cX5_seen 40 = .ok (.ireturn, 1) := by decide +kernel
theorem dX5_seen_41 : decode cX5_seen 41 = .ok (.aload_n 0, 1) := by decide +kernel
theorem dX5_seen_42 : decode cX5_seen 42 = .ok (.getfield 37, 3) := by decide +kernel
theorem dX5_seen_45 : decode cX5_seen 45 = .ok (.aload_n 0, 1) := by decide +kernel
theorem dX5_seen_46 : decode cX5_seen 46 = .ok (.getfield 115, 3) := by decide +kernel
theorem dX5_seen_49 : decode cX5_seen 49 = .ok (.iload_n 1, 1) := by decide +kernel
theorem dX5_seen_50 : decode cX5_seen 50 = .ok (.iastore, 1) := by decide +kernel
theorem dX5_seen_51 : decode cX5_seen 51 = .ok (.aload_n 0, 1) := by decide +kernel
theorem dX5_seen_52 : decode cX5_seen 52 = .ok (.getfield 40, 3) := by decide +kernel
theorem dX5_seen_55 : decode cX5_seen 55 = .ok (.aload_n 0, 1) := by decide +kernel
theorem dX5_seen_56 : decode cX5_seen 56 = .ok (.getfield 115, 3) := by decide +kernel
theorem dX5_seen_59 : decode cX5_seen 59 = .ok (.iload_n 2, 1) := by decide +kernel
theorem dX5_seen_60 : decode cX5_seen 60 = .ok (.iastore, 1) := by decide +kernel
theorem dX5_seen_61 : decode cX5_seen 61 = .ok (.aload_n 0, 1) := by decide +kernel
theorem dX5_seen_62 : decode cX5_seen 62 = .ok (.dup, 1) := by decide +kernel
theorem dX5_seen_63 : decode cX5_seen 63 = .ok (.getfield 115, 3) := by decide +kernel
theorem dX5_seen_66 : decode cX5_seen 66 = .ok (.iconst 1, 1) := by decide +kernel
theorem dX5_seen_67 : decode cX5_seen 67 = .ok (.iadd, 1) := by decide +kernel
theorem dX5_seen_68 : decode cX5_seen 68 = .ok (.putfield 115, 3) := by decide +kernel
theorem dX5_seen_71 : decode cX5_seen 71 = .ok (.aload_n 0, 1) := by decide +kernel
theorem dX5_seen_72 : decode cX5_seen 72 = .ok (.getfield 115, 3) := by decide +kernel
theorem dX5_seen_75 : decode cX5_seen 75 = .ok (.ireturn, 1) := by decide +kernel
theorem dX5_forget_0 : decode cX5_forget 0 = .ok (.aload_n 0, 1) := by decide +kernel
theorem dX5_forget_1 : decode cX5_forget 1 = .ok (.getfield 115, 3) := by decide +kernel
theorem dX5_forget_4 : decode cX5_forget 4 = .ok (.istore_n 1, 1) := by decide +kernel
theorem dX5_forget_5 : decode cX5_forget 5 = .ok (.aload_n 0, 1) := by decide +kernel
theorem dX5_forget_6 : decode cX5_forget 6 = .ok (.iconst 0, 1) := by decide +kernel
theorem dX5_forget_7 : decode cX5_forget 7 = .ok (.putfield 115, 3) := by decide +kernel
theorem dX5_forget_10 : decode cX5_forget 10 = .ok (.iload_n 1, 1) := by decide +kernel
theorem dX5_forget_11 : decode cX5_forget 11 = .ok (.ireturn, 1) := by decide +kernel
theorem dX5_whoBent_0 : decode cX5_whoBent 0 = .ok (.iconst 0, 1) := by decide +kernel
theorem dX5_whoBent_1 : decode cX5_whoBent 1 = .ok (.istore_n 2, 1) := by decide +kernel
theorem dX5_whoBent_2 : decode cX5_whoBent 2 = .ok (.iconst 0, 1) := by decide +kernel
theorem dX5_whoBent_3 : decode cX5_whoBent 3 = .ok (.istore_n 3, 1) := by decide +kernel
theorem dX5_whoBent_4 : decode cX5_whoBent 4 = .ok (.iload_n 3, 1) := by decide +kernel
theorem dX5_whoBent_5 : decode cX5_whoBent 5 = .ok (.bipush 6, 2) := by decide +kernel
theorem dX5_whoBent_7 : decode cX5_whoBent 7 = .ok (.if_icmp .ge 41, 3) := by decide +kernel
theorem dX5_whoBent_10 : decode cX5_whoBent 10 = .ok (.iload_n 2, 1) := by decide +kernel
theorem dX5_whoBent_11 : decode cX5_whoBent 11 = .ok (.aload_n 0, 1) := by decide +kernel
theorem dX5_whoBent_12 : decode cX5_whoBent 12 = .ok (.iload_n 3, 1) := by decide +kernel
theorem dX5_whoBent_13 : decode cX5_whoBent 13 = .ok (.invokevirtual 143, 3) := by decide +kernel
theorem dX5_whoBent_16 : decode cX5_whoBent 16 = .ok (.ifCond .eq 23, 3) := by decide +kernel
theorem dX5_whoBent_19 : decode cX5_whoBent 19 = .ok (.aload_n 0, 1) := by decide +kernel
theorem dX5_whoBent_20 : decode cX5_whoBent 20 = .ok (.iload_n 3, 1) := by decide +kernel
theorem dX5_whoBent_21 : decode cX5_whoBent 21 = .ok (.invokevirtual 206, 3) := by decide +kernel
theorem dX5_whoBent_24 : decode cX5_whoBent 24 = .ok (.aload_n 0, 1) := by decide +kernel
theorem dX5_whoBent_25 : decode cX5_whoBent 25 = .ok (.getfield 40, 3) := by decide +kernel
theorem dX5_whoBent_28 : decode cX5_whoBent 28 = .ok (.iload_n 1, 1) := by decide +kernel
theorem dX5_whoBent_29 : decode cX5_whoBent 29 = .ok (.iaload, 1) := by decide +kernel
theorem dX5_whoBent_30 : decode cX5_whoBent 30 = .ok (.if_icmp .ne 9, 3) := by decide +kernel
theorem dX5_whoBent_33 : decode cX5_whoBent 33 = .ok (.iconst 1, 1) := by decide +kernel
theorem dX5_whoBent_34 : decode cX5_whoBent 34 = .ok (.iload_n 3, 1) := by decide +kernel
theorem dX5_whoBent_35 : decode cX5_whoBent 35 = .ok (.ishl, 1) := by decide +kernel
theorem dX5_whoBent_36 : decode cX5_whoBent 36 = .ok (.goto 4, 3) := by decide +kernel
theorem dX5_whoBent_39 : decode cX5_whoBent 39 = .ok (.iconst 0, 1) := by decide +kernel
theorem dX5_whoBent_40 : decode cX5_whoBent 40 = .ok (.ior, 1) := by decide +kernel
theorem dX5_whoBent_41 : decode cX5_whoBent 41 = .ok (.istore_n 2, 1) := by decide +kernel
theorem dX5_whoBent_42 : decode cX5_whoBent 42 = .ok (.iinc 3 1, 3) := by decide +kernel
theorem dX5_whoBent_45 : decode cX5_whoBent 45 = .ok (.goto (-41), 3) := by decide +kernel
theorem dX5_whoBent_48 : decode cX5_whoBent 48 = .ok (.iload_n 2, 1) := by decide +kernel
theorem dX5_whoBent_49 : decode cX5_whoBent 49 = .ok (.ireturn, 1) := by decide +kernel
theorem dX5_who_0 : decode cX5_who 0 = .ok (.iload_n 1, 1) := by decide +kernel
theorem dX5_who_1 : decode cX5_who 1 = .ok (.i2l, 1) := by decide +kernel
theorem dX5_who_2 : decode cX5_who 2 = .ok (.lconst 0, 1) := by decide +kernel
theorem dX5_who_3 : decode cX5_who 3 = .ok (.aload_n 0, 1) := by decide +kernel
theorem dX5_who_4 : decode cX5_who 4 = .ok (.getfield 115, 3) := by decide +kernel
theorem dX5_who_7 : decode cX5_who 7 = .ok (.iconst 1, 1) := by decide +kernel
theorem dX5_who_8 : decode cX5_who 8 = .ok (.isub, 1) := by decide +kernel
theorem dX5_who_9 : decode cX5_who 9 = .ok (.i2l, 1) := by decide +kernel
theorem dX5_who_10 : decode cX5_who 10 = .ok (.invokestatic 118, 3) := by decide +kernel
theorem dX5_who_13 : decode cX5_who 13 = .ok (.ifCond .eq 11, 3) := by decide +kernel
theorem dX5_who_16 : decode cX5_who 16 = .ok (.aload_n 0, 1) := by decide +kernel
theorem dX5_who_17 : decode cX5_who 17 = .ok (.iload_n 1, 1) := by decide +kernel
theorem dX5_who_18 : decode cX5_who 18 = .ok (.invokevirtual 336, 3) := by decide +kernel
theorem dX5_who_21 : decode cX5_who 21 = .ok (.goto 5, 3) := by decide +kernel
theorem dX5_who_24 : decode cX5_who 24 = .ok (.bipush (-2), 2) := by decide +kernel
theorem dX5_who_26 : decode cX5_who 26 = .ok (.ireturn, 1) := by decide +kernel
theorem dX5_fits_0 : decode cX5_fits 0 = .ok (.iload_n 1, 1) := by decide +kernel
theorem dX5_fits_1 : decode cX5_fits 1 = .ok (.istore_n 2, 1) := by decide +kernel
theorem dX5_fits_2 : decode cX5_fits 2 = .ok (.iconst 1, 1) := by decide +kernel
theorem dX5_fits_3 : decode cX5_fits 3 = .ok (.istore_n 3, 1) := by decide +kernel
theorem dX5_fits_4 : decode cX5_fits 4 = .ok (.iconst 0, 1) := by decide +kernel
theorem dX5_fits_5 : decode cX5_fits 5 = .ok (.istore 4, 2) := by decide +kernel
theorem dX5_fits_7 : decode cX5_fits 7 = .ok (.iload 4, 2) := by decide +kernel
theorem dX5_fits_9 : decode cX5_fits 9 = .ok (.aload_n 0, 1) := by decide +kernel
theorem dX5_fits_10 : decode cX5_fits 10 = .ok (.getfield 115, 3) := by decide +kernel
theorem dX5_fits_13 : decode cX5_fits 13 = .ok (.if_icmp .ge 116, 3) := by decide +kernel
theorem dX5_fits_16 : decode cX5_fits 16 = .ok (.aload_n 0, 1) := by decide +kernel
theorem dX5_fits_17 : decode cX5_fits 17 = .ok (.getfield 82, 3) := by decide +kernel
theorem dX5_fits_20 : decode cX5_fits 20 = .ok (.iload 4, 2) := by decide +kernel
theorem dX5_fits_22 : decode cX5_fits 22 = .ok (.iload_n 2, 1) := by decide +kernel
theorem dX5_fits_23 : decode cX5_fits 23 = .ok (.bipush 6, 2) := by decide +kernel
theorem dX5_fits_25 : decode cX5_fits 25 = .ok (.irem, 1) := by decide +kernel
theorem dX5_fits_26 : decode cX5_fits 26 = .ok (.iastore, 1) := by decide +kernel
theorem dX5_fits_27 : decode cX5_fits 27 = .ok (.iload_n 2, 1) := by decide +kernel
theorem dX5_fits_28 : decode cX5_fits 28 = .ok (.bipush 6, 2) := by decide +kernel
theorem dX5_fits_30 : decode cX5_fits 30 = .ok (.idiv, 1) := by decide +kernel
theorem dX5_fits_31 : decode cX5_fits 31 = .ok (.istore_n 2, 1) := by decide +kernel
theorem dX5_fits_32 : decode cX5_fits 32 = .ok (.iload_n 3, 1) := by decide +kernel
theorem dX5_fits_33 : decode cX5_fits 33 = .ok (.ifCond .eq 28, 3) := by decide +kernel
theorem dX5_fits_36 : decode cX5_fits 36 = .ok (.aload_n 0, 1) := by decide +kernel
theorem dX5_fits_37 : decode cX5_fits 37 = .ok (.getfield 85, 3) := by decide +kernel
theorem dX5_fits_40 : decode cX5_fits 40 = .ok (.iload 4, 2) := by decide +kernel
theorem dX5_fits_42 : decode cX5_fits 42 = .ok (.iaload, 1) := by decide +kernel
theorem dX5_fits_43 : decode cX5_fits 43 = .ok (.aload_n 0, 1) := by decide +kernel
theorem dX5_fits_44 : decode cX5_fits 44 = .ok (.getfield 82, 3) := by decide +kernel
theorem dX5_fits_47 : decode cX5_fits 47 = .ok (.iload 4, 2) := by decide +kernel
theorem dX5_fits_49 : decode cX5_fits 49 = .ok (.iaload, 1) := by decide +kernel
theorem dX5_fits_50 : decode cX5_fits 50 = .ok (.ishr, 1) := by decide +kernel
theorem dX5_fits_51 : decode cX5_fits 51 = .ok (.iconst 1, 1) := by decide +kernel
theorem dX5_fits_52 : decode cX5_fits 52 = .ok (.iand, 1) := by decide +kernel
theorem dX5_fits_53 : decode cX5_fits 53 = .ok (.iconst 1, 1) := by decide +kernel
theorem dX5_fits_54 : decode cX5_fits 54 = .ok (.if_icmp .ne 7, 3) := by decide +kernel
theorem dX5_fits_57 : decode cX5_fits 57 = .ok (.iconst 1, 1) := by decide +kernel
theorem dX5_fits_58 : decode cX5_fits 58 = .ok (.goto 4, 3) := by decide +kernel
theorem dX5_fits_61 : decode cX5_fits 61 = .ok (.iconst 0, 1) := by decide +kernel
theorem dX5_fits_62 : decode cX5_fits 62 = .ok (.istore_n 3, 1) := by decide +kernel
theorem dX5_fits_63 : decode cX5_fits 63 = .ok (.iconst 0, 1) := by decide +kernel
theorem dX5_fits_64 : decode cX5_fits 64 = .ok (.istore 5, 2) := by decide +kernel
theorem dX5_fits_66 : decode cX5_fits 66 = .ok (.iload 5, 2) := by decide +kernel
theorem dX5_fits_68 : decode cX5_fits 68 = .ok (.iload 4, 2) := by decide +kernel
theorem dX5_fits_70 : decode cX5_fits 70 = .ok (.if_icmp .ge 53, 3) := by decide +kernel
theorem dX5_fits_73 : decode cX5_fits 73 = .ok (.iload_n 3, 1) := by decide +kernel
theorem dX5_fits_74 : decode cX5_fits 74 = .ok (.ifCond .eq 41, 3) := by decide +kernel
theorem dX5_fits_77 : decode cX5_fits 77 = .ok (.aload_n 0, 1) := by decide +kernel
theorem dX5_fits_78 : decode cX5_fits 78 = .ok (.getfield 82, 3) := by decide +kernel
theorem dX5_fits_81 : decode cX5_fits 81 = .ok (.iload 5, 2) := by decide +kernel
theorem dX5_fits_83 : decode cX5_fits 83 = .ok (.iaload, 1) := by decide +kernel
theorem dX5_fits_84 : decode cX5_fits 84 = .ok (.aload_n 0, 1) := by decide +kernel
theorem dX5_fits_85 : decode cX5_fits 85 = .ok (.getfield 82, 3) := by decide +kernel
theorem dX5_fits_88 : decode cX5_fits 88 = .ok (.iload 4, 2) := by decide +kernel
theorem dX5_fits_90 : decode cX5_fits 90 = .ok (.iaload, 1) := by decide +kernel
theorem dX5_fits_91 : decode cX5_fits 91 = .ok (.if_icmp .ne 20, 3) := by decide +kernel
theorem dX5_fits_94 : decode cX5_fits 94 = .ok (.aload_n 0, 1) := by decide +kernel
theorem dX5_fits_95 : decode cX5_fits 95 = .ok (.getfield 37, 3) := by decide +kernel
theorem dX5_fits_98 : decode cX5_fits 98 = .ok (.iload 5, 2) := by decide +kernel
theorem dX5_fits_100 : decode cX5_fits 100 = .ok (.iaload, 1) := by decide +kernel
theorem dX5_fits_101 : decode cX5_fits 101 = .ok (.aload_n 0, 1) := by decide +kernel
theorem dX5_fits_102 : decode cX5_fits 102 = .ok (.getfield 37, 3) := by decide +kernel
theorem dX5_fits_105 : decode cX5_fits 105 = .ok (.iload 4, 2) := by decide +kernel
theorem dX5_fits_107 : decode cX5_fits 107 = .ok (.iaload, 1) := by decide +kernel
theorem dX5_fits_108 : decode cX5_fits 108 = .ok (.if_icmp .eq 7, 3) := by decide +kernel
theorem dX5_fits_111 : decode cX5_fits 111 = .ok (.iconst 1, 1) := by decide +kernel
theorem dX5_fits_112 : decode cX5_fits 112 = .ok (.goto 4, 3) := by decide +kernel
theorem dX5_fits_115 : decode cX5_fits 115 = .ok (.iconst 0, 1) := by decide +kernel
theorem dX5_fits_116 : decode cX5_fits 116 = .ok (.istore_n 3, 1) := by decide +kernel
theorem dX5_fits_117 : decode cX5_fits 117 = .ok (.iinc 5 1, 3) := by decide +kernel
theorem dX5_fits_120 : decode cX5_fits 120 = .ok (.goto (-54), 3) := by decide +kernel
theorem dX5_fits_123 : decode cX5_fits 123 = .ok (.iinc 4 1, 3) := by decide +kernel
theorem dX5_fits_126 : decode cX5_fits 126 = .ok (.goto (-119), 3) := by decide +kernel
theorem dX5_fits_129 : decode cX5_fits 129 = .ok (.iload_n 3, 1) := by decide +kernel
theorem dX5_fits_130 : decode cX5_fits 130 = .ok (.ireturn, 1) := by decide +kernel
theorem dX5_fit_0 : decode cX5_fit 0 = .ok (.iconst 1, 1) := by decide +kernel
theorem dX5_fit_1 : decode cX5_fit 1 = .ok (.istore_n 1, 1) := by decide +kernel
theorem dX5_fit_2 : decode cX5_fit 2 = .ok (.iconst 0, 1) := by decide +kernel
theorem dX5_fit_3 : decode cX5_fit 3 = .ok (.istore_n 2, 1) := by decide +kernel
theorem dX5_fit_4 : decode cX5_fit 4 = .ok (.iload_n 2, 1) := by decide +kernel
theorem dX5_fit_5 : decode cX5_fit 5 = .ok (.aload_n 0, 1) := by decide +kernel
theorem dX5_fit_6 : decode cX5_fit 6 = .ok (.getfield 115, 3) := by decide +kernel
theorem dX5_fit_9 : decode cX5_fit 9 = .ok (.if_icmp .ge 25, 3) := by decide +kernel
theorem dX5_fit_12 : decode cX5_fit 12 = .ok (.aload_n 0, 1) := by decide +kernel
theorem dX5_fit_13 : decode cX5_fit 13 = .ok (.getfield 85, 3) := by decide +kernel
theorem dX5_fit_16 : decode cX5_fit 16 = .ok (.iload_n 2, 1) := by decide +kernel
theorem dX5_fit_17 : decode cX5_fit 17 = .ok (.aload_n 0, 1) := by decide +kernel
theorem dX5_fit_18 : decode cX5_fit 18 = .ok (.iload_n 2, 1) := by decide +kernel
theorem dX5_fit_19 : decode cX5_fit 19 = .ok (.invokevirtual 336, 3) := by decide +kernel
theorem dX5_fit_22 : decode cX5_fit 22 = .ok (.iastore, 1) := by decide +kernel
theorem dX5_fit_23 : decode cX5_fit 23 = .ok (.iload_n 1, 1) := by decide +kernel
theorem dX5_fit_24 : decode cX5_fit 24 = .ok (.bipush 6, 2) := by decide +kernel
theorem dX5_fit_26 : decode cX5_fit 26 = .ok (.imul, 1) := by decide +kernel
theorem dX5_fit_27 : decode cX5_fit 27 = .ok (.istore_n 1, 1) := by decide +kernel
theorem dX5_fit_28 : decode cX5_fit 28 = .ok (.iinc 2 1, 3) := by decide +kernel
theorem dX5_fit_31 : decode cX5_fit 31 = .ok (.goto (-27), 3) := by decide +kernel
theorem dX5_fit_34 : decode cX5_fit 34 = .ok (.iconst 0, 1) := by decide +kernel
theorem dX5_fit_35 : decode cX5_fit 35 = .ok (.istore_n 2, 1) := by decide +kernel
theorem dX5_fit_36 : decode cX5_fit 36 = .ok (.iconst 0, 1) := by decide +kernel
theorem dX5_fit_37 : decode cX5_fit 37 = .ok (.istore_n 3, 1) := by decide +kernel
theorem dX5_fit_38 : decode cX5_fit 38 = .ok (.iload_n 3, 1) := by decide +kernel
theorem dX5_fit_39 : decode cX5_fit 39 = .ok (.iload_n 1, 1) := by decide +kernel
theorem dX5_fit_40 : decode cX5_fit 40 = .ok (.if_icmp .ge 25, 3) := by decide +kernel
theorem dX5_fit_43 : decode cX5_fit 43 = .ok (.iload_n 2, 1) := by decide +kernel
theorem dX5_fit_44 : decode cX5_fit 44 = .ok (.aload_n 0, 1) := by decide +kernel
theorem dX5_fit_45 : decode cX5_fit 45 = .ok (.iload_n 3, 1) := by decide +kernel
theorem dX5_fit_46 : decode cX5_fit 46 = .ok (.invokevirtual 339, 3) := by decide +kernel
theorem dX5_fit_49 : decode cX5_fit 49 = .ok (.ifCond .eq 7, 3) := by decide +kernel
theorem dX5_fit_52 : decode cX5_fit 52 = .ok (.iconst 1, 1) := by decide +kernel
theorem dX5_fit_53 : decode cX5_fit 53 = .ok (.goto 4, 3) := by decide +kernel
theorem dX5_fit_56 : decode cX5_fit 56 = .ok (.iconst 0, 1) := by decide +kernel
theorem dX5_fit_57 : decode cX5_fit 57 = .ok (.iadd, 1) := by decide +kernel
theorem dX5_fit_58 : decode cX5_fit 58 = .ok (.istore_n 2, 1) := by decide +kernel
theorem dX5_fit_59 : decode cX5_fit 59 = .ok (.iinc 3 1, 3) := by decide +kernel
theorem dX5_fit_62 : decode cX5_fit 62 = .ok (.goto (-24), 3) := by decide +kernel
theorem dX5_fit_65 : decode cX5_fit 65 = .ok (.iload_n 2, 1) := by decide +kernel
theorem dX5_fit_66 : decode cX5_fit 66 = .ok (.ireturn, 1) := by decide +kernel
theorem dX5_lowest_0 : decode cX5_lowest 0 = .ok (.lload_n 2, 1) := by decide +kernel
theorem dX5_lowest_1 : decode cX5_lowest 1 = .ok (.lstore 5, 2) := by decide +kernel
theorem dX5_lowest_3 : decode cX5_lowest 3 = .ok (.lload_n 0, 1) := by decide +kernel
theorem dX5_lowest_4 : decode cX5_lowest 4 = .ok (.lstore 7, 2) := by decide +kernel
theorem dX5_lowest_6 : decode cX5_lowest 6 = .ok (.lload 7, 2) := by decide +kernel
theorem dX5_lowest_8 : decode cX5_lowest 8 = .ok (.lconst 0, 1) := by decide +kernel
theorem dX5_lowest_9 : decode cX5_lowest 9 = .ok (.lcmp, 1) := by decide +kernel
theorem dX5_lowest_10 : decode cX5_lowest 10 = .ok (.ifCond .eq 21, 3) := by decide +kernel
theorem dX5_lowest_13 : decode cX5_lowest 13 = .ok (.lload 5, 2) := by decide +kernel
theorem dX5_lowest_15 : decode cX5_lowest 15 = .ok (.lload 7, 2) := by decide +kernel
theorem dX5_lowest_17 : decode cX5_lowest 17 = .ok (.lrem, 1) := by decide +kernel
theorem dX5_lowest_18 : decode cX5_lowest 18 = .ok (.lstore 9, 2) := by decide +kernel
theorem dX5_lowest_20 : decode cX5_lowest 20 = .ok (.lload 7, 2) := by decide +kernel
theorem dX5_lowest_22 : decode cX5_lowest 22 = .ok (.lstore 5, 2) := by decide +kernel
theorem dX5_lowest_24 : decode cX5_lowest 24 = .ok (.lload 9, 2) := by decide +kernel
theorem dX5_lowest_26 : decode cX5_lowest 26 = .ok (.lstore 7, 2) := by decide +kernel
theorem dX5_lowest_28 : decode cX5_lowest 28 = .ok (.goto (-22), 3) := by decide +kernel
theorem dX5_lowest_31 : decode cX5_lowest 31 = .ok (.iload 4, 2) := by decide +kernel
theorem dX5_lowest_33 : decode cX5_lowest 33 = .ok (.ifCond .ne 10, 3) := by decide +kernel
theorem dX5_lowest_36 : decode cX5_lowest 36 = .ok (.lload_n 0, 1) := by decide +kernel
theorem dX5_lowest_37 : decode cX5_lowest 37 = .ok (.lload 5, 2) := by decide +kernel
theorem dX5_lowest_39 : decode cX5_lowest 39 = .ok (.ldiv, 1) := by decide +kernel
theorem dX5_lowest_40 : decode cX5_lowest 40 = .ok (.goto 7, 3) := by decide +kernel
theorem dX5_lowest_43 : decode cX5_lowest 43 = .ok (.lload_n 2, 1) := by decide +kernel
theorem dX5_lowest_44 : decode cX5_lowest 44 = .ok (.lload 5, 2) := by decide +kernel
theorem dX5_lowest_46 : decode cX5_lowest 46 = .ok (.ldiv, 1) := by decide +kernel
theorem dX5_lowest_47 : decode cX5_lowest 47 = .ok (.lreturn, 1) := by decide +kernel
theorem dX5_chance_0 : decode cX5_chance 0 = .ok (.aload_n 0, 1) := by decide +kernel
theorem dX5_chance_1 : decode cX5_chance 1 = .ok (.iload_n 1, 1) := by decide +kernel
theorem dX5_chance_2 : decode cX5_chance 2 = .ok (.iload_n 2, 1) := by decide +kernel
theorem dX5_chance_3 : decode cX5_chance 3 = .ok (.invokevirtual 267, 3) := by decide +kernel
theorem dX5_chance_6 : decode cX5_chance 6 = .ok (.ifCond .ne 7, 3) := by decide +kernel
theorem dX5_chance_9 : decode cX5_chance 9 = .ok (.ldc2_w 342, 3) := by decide +kernel
theorem dX5_chance_12 : decode cX5_chance 12 = .ok (.lreturn, 1) := by decide +kernel
theorem dX5_chance_13 : decode cX5_chance 13 = .ok (.iload_n 3, 1) := by decide +kernel
theorem dX5_chance_14 : decode cX5_chance 14 = .ok (.i2l, 1) := by decide +kernel
theorem dX5_chance_15 : decode cX5_chance 15 = .ok (.lconst 0, 1) := by decide +kernel
theorem dX5_chance_16 : decode cX5_chance 16 = .ok (.ldc2_w 344, 3) := by decide +kernel
theorem dX5_chance_19 : decode cX5_chance 19 = .ok (.invokestatic 118, 3) := by decide +kernel
theorem dX5_chance_22 : decode cX5_chance 22 = .ok (.ifCond .eq 14, 3) := by decide +kernel
theorem dX5_chance_25 : decode cX5_chance 25 = .ok (.iload 4, 2) := by decide +kernel
theorem dX5_chance_27 : decode cX5_chance 27 = .ok (.i2l, 1) := by decide +kernel
theorem dX5_chance_28 : decode cX5_chance 28 = .ok (.lconst 0, 1) := by decide +kernel
theorem dX5_chance_29 : decode cX5_chance 29 = .ok (.lconst 1, 1) := by decide +kernel
theorem dX5_chance_30 : decode cX5_chance 30 = .ok (.invokestatic 118, 3) := by decide +kernel
theorem dX5_chance_33 : decode cX5_chance 33 = .ok (.ifCond .ne 7, 3) := by decide +kernel
theorem dX5_chance_36 : decode cX5_chance 36 = .ok (.ldc2_w 346, 3) := by decide +kernel
theorem dX5_chance_39 : decode cX5_chance 39 = .ok (.lreturn, 1) := by decide +kernel
theorem dX5_chance_40 : decode cX5_chance 40 = .ok (.aload_n 0, 1) := by decide +kernel
theorem dX5_chance_41 : decode cX5_chance 41 = .ok (.aload_n 0, 1) := by decide +kernel
theorem dX5_chance_42 : decode cX5_chance 42 = .ok (.iload_n 1, 1) := by decide +kernel
theorem dX5_chance_43 : decode cX5_chance 43 = .ok (.invokevirtual 206, 3) := by decide +kernel
theorem dX5_chance_46 : decode cX5_chance 46 = .ok (.invokevirtual 257, 3) := by decide +kernel
theorem dX5_chance_49 : decode cX5_chance 49 = .ok (.istore 5, 2) := by decide +kernel
theorem dX5_chance_51 : decode cX5_chance 51 = .ok (.lconst 0, 1) := by decide +kernel
theorem dX5_chance_52 : decode cX5_chance 52 = .ok (.lstore 6, 2) := by decide +kernel
theorem dX5_chance_54 : decode cX5_chance 54 = .ok (.lconst 0, 1) := by decide +kernel
theorem dX5_chance_55 : decode cX5_chance 55 = .ok (.lstore 8, 2) := by decide +kernel
theorem dX5_chance_57 : decode cX5_chance 57 = .ok (.iconst 0, 1) := by decide +kernel
theorem dX5_chance_58 : decode cX5_chance 58 = .ok (.istore 10, 2) := by decide +kernel
theorem dX5_chance_60 : decode cX5_chance 60 = .ok (.iload 10, 2) := by decide +kernel
theorem dX5_chance_62 : decode cX5_chance 62 = .ok (.sipush 256, 3) := by decide +kernel
theorem dX5_chance_65 : decode cX5_chance 65 = .ok (.if_icmp .ge 124, 3) := by decide +kernel
theorem dX5_chance_68 : decode cX5_chance 68 = .ok (.iload 10, 2) := by decide +kernel
theorem dX5_chance_70 : decode cX5_chance 70 = .ok (.aload_n 0, 1) := by decide +kernel
theorem dX5_chance_71 : decode cX5_chance 71 = .ok (.getfield 106, 3) := by decide +kernel
theorem dX5_chance_74 : decode cX5_chance 74 = .ok (.iconst (-1), 1) := by decide +kernel
theorem dX5_chance_75 : decode cX5_chance 75 = .ok (.ixor, 1) := by decide +kernel
theorem dX5_chance_76 : decode cX5_chance 76 = .ok (.iand, 1) := by decide +kernel
theorem dX5_chance_77 : decode cX5_chance 77 = .ok (.ifCond .ne 106, 3) := by decide +kernel
theorem dX5_chance_80 : decode cX5_chance 80 = .ok (.lconst 1, 1) := by decide +kernel
theorem dX5_chance_81 : decode cX5_chance 81 = .ok (.lstore 11, 2) := by decide +kernel
theorem dX5_chance_83 : decode cX5_chance 83 = .ok (.iconst 0, 1) := by decide +kernel
theorem dX5_chance_84 : decode cX5_chance 84 = .ok (.istore 13, 2) := by decide +kernel
theorem dX5_chance_86 : decode cX5_chance 86 = .ok (.iload 13, 2) := by decide +kernel
theorem dX5_chance_88 : decode cX5_chance 88 = .ok (.bipush 8, 2) := by decide +kernel
theorem dX5_chance_90 : decode cX5_chance 90 = .ok (.if_icmp .ge 48, 3) := by decide +kernel
theorem dX5_chance_93 : decode cX5_chance 93 = .ok (.lload 11, 2) := by decide +kernel
theorem dX5_chance_95 : decode cX5_chance 95 = .ok (.aload_n 0, 1) := by decide +kernel
theorem dX5_chance_96 : decode cX5_chance 96 = .ok (.iload 13, 2) := by decide +kernel
theorem dX5_chance_98 : decode cX5_chance 98 = .ok (.invokevirtual 140, 3) := by decide +kernel
theorem dX5_chance_101 : decode cX5_chance 101 = .ok (.ifCond .ne 7, 3) := by decide +kernel
theorem dX5_chance_104 : decode cX5_chance 104 = .ok (.lconst 1, 1) := by decide +kernel
theorem dX5_chance_105 : decode cX5_chance 105 = .ok (.goto 24, 3) := by decide +kernel
theorem dX5_chance_108 : decode cX5_chance 108 = .ok (.iload 10, 2) := by decide +kernel
theorem dX5_chance_110 : decode cX5_chance 110 = .ok (.iload 13, 2) := by decide +kernel
theorem dX5_chance_112 : decode cX5_chance 112 = .ok (.ishr, 1) := by decide +kernel
theorem dX5_chance_113 : decode cX5_chance 113 = .ok (.iconst 1, 1) := by decide +kernel
theorem dX5_chance_114 : decode cX5_chance 114 = .ok (.iand, 1) := by decide +kernel
theorem dX5_chance_115 : decode cX5_chance 115 = .ok (.iconst 1, 1) := by decide +kernel
theorem dX5_chance_116 : decode cX5_chance 116 = .ok (.if_icmp .ne 8, 3) := by decide +kernel
theorem dX5_chance_119 : decode cX5_chance 119 = .ok (.iload_n 3, 1) := by decide +kernel
theorem dX5_chance_120 : decode cX5_chance 120 = .ok (.i2l, 1) := by decide +kernel
theorem dX5_chance_121 : decode cX5_chance 121 = .ok (.goto 8, 3) := by decide +kernel
theorem dX5_chance_124 : decode cX5_chance 124 = .ok (.bipush 10, 2) := by decide +kernel
theorem dX5_chance_126 : decode cX5_chance 126 = .ok (.iload_n 3, 1) := by decide +kernel
theorem dX5_chance_127 : decode cX5_chance 127 = .ok (.isub, 1) := by decide +kernel
theorem dX5_chance_128 : decode cX5_chance 128 = .ok (.i2l, 1) := by decide +kernel
theorem dX5_chance_129 : decode cX5_chance 129 = .ok (.lmul, 1) := by decide +kernel
theorem dX5_chance_130 : decode cX5_chance 130 = .ok (.lstore 11, 2) := by decide +kernel
theorem dX5_chance_132 : decode cX5_chance 132 = .ok (.iinc 13 1, 3) := by decide +kernel
theorem dX5_chance_135 : decode cX5_chance 135 = .ok (.goto (-49), 3) := by decide +kernel
theorem dX5_chance_138 : decode cX5_chance 138 = .ok (.aload_n 0, 1) := by decide +kernel
theorem dX5_chance_139 : decode cX5_chance 139 = .ok (.iload_n 2, 1) := by decide +kernel
theorem dX5_chance_140 : decode cX5_chance 140 = .ok (.iload 5, 2) := by decide +kernel
theorem dX5_chance_142 : decode cX5_chance 142 = .ok (.iload 10, 2) := by decide +kernel
theorem dX5_chance_144 : decode cX5_chance 144 = .ok (.iand, 1) := by decide +kernel
theorem dX5_chance_145 : decode cX5_chance 145 = .ok (.invokevirtual 260, 3) := by decide +kernel
theorem dX5_chance_148 : decode cX5_chance 148 = .ok (.lload 8, 2) := by decide +kernel
theorem dX5_chance_150 : decode cX5_chance 150 = .ok (.lload 11, 2) := by decide +kernel
theorem dX5_chance_152 : decode cX5_chance 152 = .ok (.ladd, 1) := by decide +kernel
theorem dX5_chance_153 : decode cX5_chance 153 = .ok (.lstore 8, 2) := by decide +kernel
theorem dX5_chance_155 : decode cX5_chance 155 = .ok (.lload 6, 2) := by decide +kernel
theorem dX5_chance_157 : decode cX5_chance 157 = .ok (.aload_n 0, 1) := by decide +kernel
theorem dX5_chance_158 : decode cX5_chance 158 = .ok (.getfield 70, 3) := by decide +kernel
theorem dX5_chance_161 : decode cX5_chance 161 = .ok (.aload_n 0, 1) := by decide +kernel
theorem dX5_chance_162 : decode cX5_chance 162 = .ok (.getfield 22, 3) := by decide +kernel
theorem dX5_chance_165 : decode cX5_chance 165 = .ok (.iload_n 1, 1) := by decide +kernel
theorem dX5_chance_166 : decode cX5_chance 166 = .ok (.iaload, 1) := by decide +kernel
theorem dX5_chance_167 : decode cX5_chance 167 = .ok (.iaload, 1) := by decide +kernel
theorem dX5_chance_168 : decode cX5_chance 168 = .ok (.sipush 1000, 3) := by decide +kernel
theorem dX5_chance_171 : decode cX5_chance 171 = .ok (.if_icmp .ge 8, 3) := by decide +kernel
theorem dX5_chance_174 : decode cX5_chance 174 = .ok (.lload 11, 2) := by decide +kernel
theorem dX5_chance_176 : decode cX5_chance 176 = .ok (.goto 4, 3) := by decide +kernel
theorem dX5_chance_179 : decode cX5_chance 179 = .ok (.lconst 0, 1) := by decide +kernel
theorem dX5_chance_180 : decode cX5_chance 180 = .ok (.ladd, 1) := by decide +kernel
theorem dX5_chance_181 : decode cX5_chance 181 = .ok (.lstore 6, 2) := by decide +kernel
theorem dX5_chance_183 : decode cX5_chance 183 = .ok (.iinc 10 1, 3) := by decide +kernel
theorem dX5_chance_186 : decode cX5_chance 186 = .ok (.goto (-126), 3) := by decide +kernel
theorem dX5_chance_189 : decode cX5_chance 189 = .ok (.lload 6, 2) := by decide +kernel
theorem dX5_chance_191 : decode cX5_chance 191 = .ok (.lload 8, 2) := by decide +kernel
theorem dX5_chance_193 : decode cX5_chance 193 = .ok (.iload 4, 2) := by decide +kernel
theorem dX5_chance_195 : decode cX5_chance 195 = .ok (.invokestatic 348, 3) := by decide +kernel
theorem dX5_chance_198 : decode cX5_chance 198 = .ok (.lreturn, 1) := by decide +kernel
theorem dX5_year_0 : decode cX5_year 0 = .ok (.iload_n 1, 1) := by decide +kernel
theorem dX5_year_1 : decode cX5_year 1 = .ok (.i2l, 1) := by decide +kernel
theorem dX5_year_2 : decode cX5_year 2 = .ok (.lconst 0, 1) := by decide +kernel
theorem dX5_year_3 : decode cX5_year 3 = .ok (.ldc2_w 352, 3) := by decide +kernel
theorem dX5_year_6 : decode cX5_year 6 = .ok (.invokestatic 118, 3) := by decide +kernel
theorem dX5_year_9 : decode cX5_year 9 = .ok (.ifCond .eq 27, 3) := by decide +kernel
theorem dX5_year_12 : decode cX5_year 12 = .ok (.iload_n 2, 1) := by decide +kernel
theorem dX5_year_13 : decode cX5_year 13 = .ok (.i2l, 1) := by decide +kernel
theorem dX5_year_14 : decode cX5_year 14 = .ok (.lconst 1, 1) := by decide +kernel
theorem dX5_year_15 : decode cX5_year 15 = .ok (.ldc2_w 134, 3) := by decide +kernel
theorem dX5_year_18 : decode cX5_year 18 = .ok (.invokestatic 118, 3) := by decide +kernel
theorem dX5_year_21 : decode cX5_year 21 = .ok (.ifCond .eq 15, 3) := by decide +kernel
theorem dX5_year_24 : decode cX5_year 24 = .ok (.iload_n 3, 1) := by decide +kernel
theorem dX5_year_25 : decode cX5_year 25 = .ok (.i2l, 1) := by decide +kernel
theorem dX5_year_26 : decode cX5_year 26 = .ok (.lconst 0, 1) := by decide +kernel
theorem dX5_year_27 : decode cX5_year 27 = .ok (.ldc2_w 126, 3) := by decide +kernel
theorem dX5_year_30 : decode cX5_year 30 = .ok (.invokestatic 118, 3) := by decide +kernel
theorem dX5_year_33 : decode cX5_year 33 = .ok (.ifCond .ne 6, 3) := by decide +kernel
theorem dX5_year_36 : decode cX5_year 36 = .ok (.bipush (-2), 2) := by decide +kernel
theorem dX5_year_38 : decode cX5_year 38 = .ok (.ireturn, 1) := by decide +kernel
theorem dX5_year_39 : decode cX5_year 39 = .ok (.aload_n 0, 1) := by decide +kernel
theorem dX5_year_40 : decode cX5_year 40 = .ok (.invokevirtual 248, 3) := by decide +kernel
theorem dX5_year_43 : decode cX5_year 43 = .ok (.aload_n 0, 1) := by decide +kernel
theorem dX5_year_44 : decode cX5_year 44 = .ok (.iconst 0, 1) := by decide +kernel
theorem dX5_year_45 : decode cX5_year 45 = .ok (.putfield 209, 3) := by decide +kernel
theorem dX5_year_48 : decode cX5_year 48 = .ok (.iload_n 1, 1) := by decide +kernel
theorem dX5_year_49 : decode cX5_year 49 = .ok (.istore 4, 2) := by decide +kernel
theorem dX5_year_51 : decode cX5_year 51 = .ok (.iconst 1, 1) := by decide +kernel
theorem dX5_year_52 : decode cX5_year 52 = .ok (.istore 5, 2) := by decide +kernel
theorem dX5_year_54 : decode cX5_year 54 = .ok (.iload 5, 2) := by decide +kernel
theorem dX5_year_56 : decode cX5_year 56 = .ok (.iload_n 2, 1) := by decide +kernel
theorem dX5_year_57 : decode cX5_year 57 = .ok (.if_icmp .gt 65, 3) := by decide +kernel
theorem dX5_year_60 : decode cX5_year 60 = .ok (.ldc2_w 354, 3) := by decide +kernel
theorem dX5_year_63 : decode cX5_year 63 = .ok (.iload 4, 2) := by decide +kernel
theorem dX5_year_65 : decode cX5_year 65 = .ok (.i2l, 1) := by decide +kernel
theorem dX5_year_66 : decode cX5_year 66 = .ok (.lmul, 1) := by decide +kernel
theorem dX5_year_67 : decode cX5_year 67 = .ok (.ldc2_w 356, 3) := by decide +kernel
theorem dX5_year_70 : decode cX5_year 70 = .ok (.ladd, 1) := by decide +kernel
theorem dX5_year_71 : decode cX5_year 71 = .ok (.ldc2_w 358, 3) := by decide +kernel
theorem dX5_year_74 : decode cX5_year 74 = .ok (.lrem, 1) := by decide +kernel
theorem dX5_year_75 : decode cX5_year 75 = .ok (.l2i, 1) := by decide +kernel
theorem dX5_year_76 : decode cX5_year 76 = .ok (.istore 4, 2) := by decide +kernel
theorem dX5_year_78 : decode cX5_year 78 = .ok (.aload_n 0, 1) := by decide +kernel
theorem dX5_year_79 : decode cX5_year 79 = .ok (.iload 4, 2) := by decide +kernel
theorem dX5_year_81 : decode cX5_year 81 = .ok (.bipush 6, 2) := by decide +kernel
theorem dX5_year_83 : decode cX5_year 83 = .ok (.irem, 1) := by decide +kernel
theorem dX5_year_84 : decode cX5_year 84 = .ok (.iload 4, 2) := by decide +kernel
theorem dX5_year_86 : decode cX5_year 86 = .ok (.bipush 6, 2) := by decide +kernel
theorem dX5_year_88 : decode cX5_year 88 = .ok (.idiv, 1) := by decide +kernel
theorem dX5_year_89 : decode cX5_year 89 = .ok (.bipush 6, 2) := by decide +kernel
theorem dX5_year_91 : decode cX5_year 91 = .ok (.irem, 1) := by decide +kernel
theorem dX5_year_92 : decode cX5_year 92 = .ok (.iload 4, 2) := by decide +kernel
theorem dX5_year_94 : decode cX5_year 94 = .ok (.bipush 36, 2) := by decide +kernel
theorem dX5_year_96 : decode cX5_year 96 = .ok (.idiv, 1) := by decide +kernel
theorem dX5_year_97 : decode cX5_year 97 = .ok (.bipush 8, 2) := by decide +kernel
theorem dX5_year_99 : decode cX5_year 99 = .ok (.irem, 1) := by decide +kernel
theorem dX5_year_100 : decode cX5_year 100 = .ok (.invokevirtual 215, 3) := by decide +kernel
theorem dX5_year_103 : decode cX5_year 103 = .ok (.pop, 1) := by decide +kernel
theorem dX5_year_104 : decode cX5_year 104 = .ok (.iload 5, 2) := by decide +kernel
theorem dX5_year_106 : decode cX5_year 106 = .ok (.bipush 7, 2) := by decide +kernel
theorem dX5_year_108 : decode cX5_year 108 = .ok (.irem, 1) := by decide +kernel
theorem dX5_year_109 : decode cX5_year 109 = .ok (.ifCond .ne 7, 3) := by decide +kernel
theorem dX5_year_112 : decode cX5_year 112 = .ok (.aload_n 0, 1) := by decide +kernel
theorem dX5_year_113 : decode cX5_year 113 = .ok (.invokevirtual 224, 3) := by decide +kernel
theorem dX5_year_116 : decode cX5_year 116 = .ok (.iinc 5 1, 3) := by decide +kernel
theorem dX5_year_119 : decode cX5_year 119 = .ok (.goto (-65), 3) := by decide +kernel
theorem dX5_year_122 : decode cX5_year 122 = .ok (.iconst 0, 1) := by decide +kernel
theorem dX5_year_123 : decode cX5_year 123 = .ok (.istore 5, 2) := by decide +kernel
theorem dX5_year_125 : decode cX5_year 125 = .ok (.iconst 0, 1) := by decide +kernel
theorem dX5_year_126 : decode cX5_year 126 = .ok (.istore 6, 2) := by decide +kernel
theorem dX5_year_128 : decode cX5_year 128 = .ok (.iconst 0, 1) := by decide +kernel
theorem dX5_year_129 : decode cX5_year 129 = .ok (.istore 7, 2) := by decide +kernel
theorem dX5_year_131 : decode cX5_year 131 = .ok (.iload 7, 2) := by decide +kernel
theorem dX5_year_133 : decode cX5_year 133 = .ok (.bipush 6, 2) := by decide +kernel
theorem dX5_year_135 : decode cX5_year 135 = .ok (.if_icmp .ge 46, 3) := by decide +kernel
theorem dX5_year_138 : decode cX5_year 138 = .ok (.aload_n 0, 1) := by decide +kernel
theorem dX5_year_139 : decode cX5_year 139 = .ok (.iload 7, 2) := by decide +kernel
theorem dX5_year_141 : decode cX5_year 141 = .ok (.invokevirtual 143, 3) := by decide +kernel
theorem dX5_year_144 : decode cX5_year 144 = .ok (.ifCond .eq 12, 3) := by decide +kernel
theorem dX5_year_147 : decode cX5_year 147 = .ok (.aload_n 0, 1) := by decide +kernel
theorem dX5_year_148 : decode cX5_year 148 = .ok (.iload 7, 2) := by decide +kernel
theorem dX5_year_150 : decode cX5_year 150 = .ok (.invokevirtual 206, 3) := by decide +kernel
theorem dX5_year_153 : decode cX5_year 153 = .ok (.goto 4, 3) := by decide +kernel
theorem dX5_year_156 : decode cX5_year 156 = .ok (.iconst 0, 1) := by decide +kernel
theorem dX5_year_157 : decode cX5_year 157 = .ok (.istore 8, 2) := by decide +kernel
theorem dX5_year_159 : decode cX5_year 159 = .ok (.iload 8, 2) := by decide +kernel
theorem dX5_year_161 : decode cX5_year 161 = .ok (.iload 5, 2) := by decide +kernel
theorem dX5_year_163 : decode cX5_year 163 = .ok (.if_icmp .le 8, 3) := by decide +kernel
theorem dX5_year_166 : decode cX5_year 166 = .ok (.iload 8, 2) := by decide +kernel
theorem dX5_year_168 : decode cX5_year 168 = .ok (.goto 5, 3) := by decide +kernel
theorem dX5_year_171 : decode cX5_year 171 = .ok (.iload 5, 2) := by decide +kernel
theorem dX5_year_173 : decode cX5_year 173 = .ok (.istore 5, 2) := by decide +kernel
theorem dX5_year_175 : decode cX5_year 175 = .ok (.iinc 7 1, 3) := by decide +kernel
theorem dX5_year_178 : decode cX5_year 178 = .ok (.goto (-47), 3) := by decide +kernel
theorem dX5_year_181 : decode cX5_year 181 = .ok (.iconst 0, 1) := by decide +kernel
theorem dX5_year_182 : decode cX5_year 182 = .ok (.istore 7, 2) := by decide +kernel
theorem dX5_year_184 : decode cX5_year 184 = .ok (.iload 7, 2) := by decide +kernel
theorem dX5_year_186 : decode cX5_year 186 = .ok (.bipush 8, 2) := by decide +kernel
theorem dX5_year_188 : decode cX5_year 188 = .ok (.if_icmp .ge 33, 3) := by decide +kernel
theorem dX5_year_191 : decode cX5_year 191 = .ok (.aload_n 0, 1) := by decide +kernel
theorem dX5_year_192 : decode cX5_year 192 = .ok (.iload 7, 2) := by decide +kernel
theorem dX5_year_194 : decode cX5_year 194 = .ok (.invokevirtual 195, 3) := by decide +kernel
theorem dX5_year_197 : decode cX5_year 197 = .ok (.iload 6, 2) := by decide +kernel
theorem dX5_year_199 : decode cX5_year 199 = .ok (.if_icmp .le 12, 3) := by decide +kernel
theorem dX5_year_202 : decode cX5_year 202 = .ok (.aload_n 0, 1) := by decide +kernel
theorem dX5_year_203 : decode cX5_year 203 = .ok (.iload 7, 2) := by decide +kernel
theorem dX5_year_205 : decode cX5_year 205 = .ok (.invokevirtual 195, 3) := by decide +kernel
theorem dX5_year_208 : decode cX5_year 208 = .ok (.goto 5, 3) := by decide +kernel
theorem dX5_year_211 : decode cX5_year 211 = .ok (.iload 6, 2) := by decide +kernel
theorem dX5_year_213 : decode cX5_year 213 = .ok (.istore 6, 2) := by decide +kernel
theorem dX5_year_215 : decode cX5_year 215 = .ok (.iinc 7 1, 3) := by decide +kernel
theorem dX5_year_218 : decode cX5_year 218 = .ok (.goto (-34), 3) := by decide +kernel
theorem dX5_year_221 : decode cX5_year 221 = .ok (.aload_n 0, 1) := by decide +kernel
theorem dX5_year_222 : decode cX5_year 222 = .ok (.invokevirtual 254, 3) := by decide +kernel
theorem dX5_year_225 : decode cX5_year 225 = .ok (.iload_n 3, 1) := by decide +kernel
theorem dX5_year_226 : decode cX5_year 226 = .ok (.ifCond .ne 10, 3) := by decide +kernel
theorem dX5_year_229 : decode cX5_year 229 = .ok (.aload_n 0, 1) := by decide +kernel
theorem dX5_year_230 : decode cX5_year 230 = .ok (.getfield 209, 3) := by decide +kernel
theorem dX5_year_233 : decode cX5_year 233 = .ok (.goto 15, 3) := by decide +kernel
theorem dX5_year_236 : decode cX5_year 236 = .ok (.iload_n 3, 1) := by decide +kernel
theorem dX5_year_237 : decode cX5_year 237 = .ok (.iconst 1, 1) := by decide +kernel
theorem dX5_year_238 : decode cX5_year 238 = .ok (.if_icmp .ne 8, 3) := by decide +kernel
theorem dX5_year_241 : decode cX5_year 241 = .ok (.iload 5, 2) := by decide +kernel
theorem dX5_year_243 : decode cX5_year 243 = .ok (.goto 5, 3) := by decide +kernel
theorem dX5_year_246 : decode cX5_year 246 = .ok (.iload 6, 2) := by decide +kernel
theorem dX5_year_248 : decode cX5_year 248 = .ok (.ireturn, 1) := by decide +kernel
theorem dX5_pass_0 : decode cX5_pass 0 = .ok (.aload_n 0, 1) := by decide +kernel
theorem dX5_pass_1 : decode cX5_pass 1 = .ok (.getfield 360, 3) := by decide +kernel
theorem dX5_pass_4 : decode cX5_pass 4 = .ok (.ifCond .eq 7, 3) := by decide +kernel
theorem dX5_pass_7 : decode cX5_pass 7 = .ok (.iload_n 1, 1) := by decide +kernel
theorem dX5_pass_8 : decode cX5_pass 8 = .ok (.goto 12, 3) := by decide +kernel
theorem dX5_pass_11 : decode cX5_pass 11 = .ok (.aload_n 0, 1) := by decide +kernel
theorem dX5_pass_12 : decode cX5_pass 12 = .ok (.getfield 88, 3) := by decide +kernel
theorem dX5_pass_15 : decode cX5_pass 15 = .ok (.aload_n 0, 1) := by decide +kernel
theorem dX5_pass_16 : decode cX5_pass 16 = .ok (.getfield 364, 3) := by decide +kernel
theorem dX5_pass_19 : decode cX5_pass 19 = .ok (.iaload, 1) := by decide +kernel
theorem dX5_pass_20 : decode cX5_pass 20 = .ok (.istore_n 2, 1) := by decide +kernel
theorem dX5_pass_21 : decode cX5_pass 21 = .ok (.aload_n 0, 1) := by decide +kernel
theorem dX5_pass_22 : decode cX5_pass 22 = .ok (.getfield 88, 3) := by decide +kernel
theorem dX5_pass_25 : decode cX5_pass 25 = .ok (.aload_n 0, 1) := by decide +kernel
theorem dX5_pass_26 : decode cX5_pass 26 = .ok (.getfield 364, 3) := by decide +kernel
theorem dX5_pass_29 : decode cX5_pass 29 = .ok (.iload_n 2, 1) := by decide +kernel
theorem dX5_pass_30 : decode cX5_pass 30 = .ok (.iastore, 1) := by decide +kernel
theorem dX5_pass_31 : decode cX5_pass 31 = .ok (.aload_n 0, 1) := by decide +kernel
theorem dX5_pass_32 : decode cX5_pass 32 = .ok (.dup, 1) := by decide +kernel
theorem dX5_pass_33 : decode cX5_pass 33 = .ok (.getfield 364, 3) := by decide +kernel
theorem dX5_pass_36 : decode cX5_pass 36 = .ok (.iconst 1, 1) := by decide +kernel
theorem dX5_pass_37 : decode cX5_pass 37 = .ok (.iadd, 1) := by decide +kernel
theorem dX5_pass_38 : decode cX5_pass 38 = .ok (.putfield 364, 3) := by decide +kernel
theorem dX5_pass_41 : decode cX5_pass 41 = .ok (.iload_n 2, 1) := by decide +kernel
theorem dX5_pass_42 : decode cX5_pass 42 = .ok (.ireturn, 1) := by decide +kernel
theorem dX5_passAll_0 : decode cX5_passAll 0 = .ok (.aload_n 0, 1) := by decide +kernel
theorem dX5_passAll_1 : decode cX5_passAll 1 = .ok (.aload_n 0, 1) := by decide +kernel
theorem dX5_passAll_2 : decode cX5_passAll 2 = .ok (.aload_n 0, 1) := by decide +kernel
theorem dX5_passAll_3 : decode cX5_passAll 3 = .ok (.getfield 103, 3) := by decide +kernel
theorem dX5_passAll_6 : decode cX5_passAll 6 = .ok (.invokevirtual 367, 3) := by decide +kernel
theorem dX5_passAll_9 : decode cX5_passAll 9 = .ok (.putfield 103, 3) := by decide +kernel
theorem dX5_passAll_12 : decode cX5_passAll 12 = .ok (.aload_n 0, 1) := by decide +kernel
theorem dX5_passAll_13 : decode cX5_passAll 13 = .ok (.aload_n 0, 1) := by decide +kernel
theorem dX5_passAll_14 : decode cX5_passAll 14 = .ok (.aload_n 0, 1) := by decide +kernel
theorem dX5_passAll_15 : decode cX5_passAll 15 = .ok (.getfield 106, 3) := by decide +kernel
theorem dX5_passAll_18 : decode cX5_passAll 18 = .ok (.invokevirtual 367, 3) := by decide +kernel
theorem dX5_passAll_21 : decode cX5_passAll 21 = .ok (.putfield 106, 3) := by decide +kernel
theorem dX5_passAll_24 : decode cX5_passAll 24 = .ok (.aload_n 0, 1) := by decide +kernel
theorem dX5_passAll_25 : decode cX5_passAll 25 = .ok (.aload_n 0, 1) := by decide +kernel
theorem dX5_passAll_26 : decode cX5_passAll 26 = .ok (.aload_n 0, 1) := by decide +kernel
theorem dX5_passAll_27 : decode cX5_passAll 27 = .ok (.getfield 109, 3) := by decide +kernel
theorem dX5_passAll_30 : decode cX5_passAll 30 = .ok (.invokevirtual 367, 3) := by decide +kernel
theorem dX5_passAll_33 : decode cX5_passAll 33 = .ok (.putfield 109, 3) := by decide +kernel
theorem dX5_passAll_36 : decode cX5_passAll 36 = .ok (.aload_n 0, 1) := by decide +kernel
theorem dX5_passAll_37 : decode cX5_passAll 37 = .ok (.aload_n 0, 1) := by decide +kernel
theorem dX5_passAll_38 : decode cX5_passAll 38 = .ok (.aload_n 0, 1) := by decide +kernel
theorem dX5_passAll_39 : decode cX5_passAll 39 = .ok (.getfield 112, 3) := by decide +kernel
theorem dX5_passAll_42 : decode cX5_passAll 42 = .ok (.invokevirtual 367, 3) := by decide +kernel
theorem dX5_passAll_45 : decode cX5_passAll 45 = .ok (.putfield 112, 3) := by decide +kernel
theorem dX5_passAll_48 : decode cX5_passAll 48 = .ok (.aload_n 0, 1) := by decide +kernel
theorem dX5_passAll_49 : decode cX5_passAll 49 = .ok (.aload_n 0, 1) := by decide +kernel
theorem dX5_passAll_50 : decode cX5_passAll 50 = .ok (.aload_n 0, 1) := by decide +kernel
theorem dX5_passAll_51 : decode cX5_passAll 51 = .ok (.getfield 95, 3) := by decide +kernel
theorem dX5_passAll_54 : decode cX5_passAll 54 = .ok (.invokevirtual 367, 3) := by decide +kernel
theorem dX5_passAll_57 : decode cX5_passAll 57 = .ok (.putfield 95, 3) := by decide +kernel
theorem dX5_passAll_60 : decode cX5_passAll 60 = .ok (.aload_n 0, 1) := by decide +kernel
theorem dX5_passAll_61 : decode cX5_passAll 61 = .ok (.aload_n 0, 1) := by decide +kernel
theorem dX5_passAll_62 : decode cX5_passAll 62 = .ok (.aload_n 0, 1) := by decide +kernel
theorem dX5_passAll_63 : decode cX5_passAll 63 = .ok (.getfield 115, 3) := by decide +kernel
theorem dX5_passAll_66 : decode cX5_passAll 66 = .ok (.invokevirtual 367, 3) := by decide +kernel
theorem dX5_passAll_69 : decode cX5_passAll 69 = .ok (.putfield 115, 3) := by decide +kernel
theorem dX5_passAll_72 : decode cX5_passAll 72 = .ok (.iconst 0, 1) := by decide +kernel
theorem dX5_passAll_73 : decode cX5_passAll 73 = .ok (.istore_n 1, 1) := by decide +kernel
theorem dX5_passAll_74 : decode cX5_passAll 74 = .ok (.iload_n 1, 1) := by decide +kernel
theorem dX5_passAll_75 : decode cX5_passAll 75 = .ok (.bipush 8, 2) := by decide +kernel
theorem dX5_passAll_77 : decode cX5_passAll 77 = .ok (.if_icmp .ge 105, 3) := by decide +kernel
theorem dX5_passAll_80 : decode cX5_passAll 80 = .ok (.aload_n 0, 1) := by decide +kernel
theorem dX5_passAll_81 : decode cX5_passAll 81 = .ok (.getfield 7, 3) := by decide +kernel
theorem dX5_passAll_84 : decode cX5_passAll 84 = .ok (.iload_n 1, 1) := by decide +kernel
theorem dX5_passAll_85 : decode cX5_passAll 85 = .ok (.aload_n 0, 1) := by decide +kernel
theorem dX5_passAll_86 : decode cX5_passAll 86 = .ok (.aload_n 0, 1) := by decide +kernel
theorem dX5_passAll_87 : decode cX5_passAll 87 = .ok (.getfield 7, 3) := by decide +kernel
theorem dX5_passAll_90 : decode cX5_passAll 90 = .ok (.iload_n 1, 1) := by decide +kernel
theorem dX5_passAll_91 : decode cX5_passAll 91 = .ok (.iaload, 1) := by decide +kernel
theorem dX5_passAll_92 : decode cX5_passAll 92 = .ok (.invokevirtual 367, 3) := by decide +kernel
theorem dX5_passAll_95 : decode cX5_passAll 95 = .ok (.iastore, 1) := by decide +kernel
theorem dX5_passAll_96 : decode cX5_passAll 96 = .ok (.aload_n 0, 1) := by decide +kernel
theorem dX5_passAll_97 : decode cX5_passAll 97 = .ok (.getfield 13, 3) := by decide +kernel
theorem dX5_passAll_100 : decode cX5_passAll 100 = .ok (.iload_n 1, 1) := by decide +kernel
theorem dX5_passAll_101 : decode cX5_passAll 101 = .ok (.aload_n 0, 1) := by decide +kernel
theorem dX5_passAll_102 : decode cX5_passAll 102 = .ok (.aload_n 0, 1) := by decide +kernel
theorem dX5_passAll_103 : decode cX5_passAll 103 = .ok (.getfield 13, 3) := by decide +kernel
theorem dX5_passAll_106 : decode cX5_passAll 106 = .ok (.iload_n 1, 1) := by decide +kernel
theorem dX5_passAll_107 : decode cX5_passAll 107 = .ok (.iaload, 1) := by decide +kernel
theorem dX5_passAll_108 : decode cX5_passAll 108 = .ok (.invokevirtual 367, 3) := by decide +kernel
theorem dX5_passAll_111 : decode cX5_passAll 111 = .ok (.iastore, 1) := by decide +kernel
theorem dX5_passAll_112 : decode cX5_passAll 112 = .ok (.aload_n 0, 1) := by decide +kernel
theorem dX5_passAll_113 : decode cX5_passAll 113 = .ok (.getfield 16, 3) := by decide +kernel
theorem dX5_passAll_116 : decode cX5_passAll 116 = .ok (.iload_n 1, 1) := by decide +kernel
theorem dX5_passAll_117 : decode cX5_passAll 117 = .ok (.aload_n 0, 1) := by decide +kernel
theorem dX5_passAll_118 : decode cX5_passAll 118 = .ok (.aload_n 0, 1) := by decide +kernel
theorem dX5_passAll_119 : decode cX5_passAll 119 = .ok (.getfield 16, 3) := by decide +kernel
theorem dX5_passAll_122 : decode cX5_passAll 122 = .ok (.iload_n 1, 1) := by decide +kernel
theorem dX5_passAll_123 : decode cX5_passAll 123 = .ok (.iaload, 1) := by decide +kernel
theorem dX5_passAll_124 : decode cX5_passAll 124 = .ok (.invokevirtual 367, 3) := by decide +kernel
theorem dX5_passAll_127 : decode cX5_passAll 127 = .ok (.iastore, 1) := by decide +kernel
theorem dX5_passAll_128 : decode cX5_passAll 128 = .ok (.aload_n 0, 1) := by decide +kernel
theorem dX5_passAll_129 : decode cX5_passAll 129 = .ok (.getfield 19, 3) := by decide +kernel
theorem dX5_passAll_132 : decode cX5_passAll 132 = .ok (.iload_n 1, 1) := by decide +kernel
theorem dX5_passAll_133 : decode cX5_passAll 133 = .ok (.aload_n 0, 1) := by decide +kernel
theorem dX5_passAll_134 : decode cX5_passAll 134 = .ok (.aload_n 0, 1) := by decide +kernel
theorem dX5_passAll_135 : decode cX5_passAll 135 = .ok (.getfield 19, 3) := by decide +kernel
theorem dX5_passAll_138 : decode cX5_passAll 138 = .ok (.iload_n 1, 1) := by decide +kernel
theorem dX5_passAll_139 : decode cX5_passAll 139 = .ok (.iaload, 1) := by decide +kernel
theorem dX5_passAll_140 : decode cX5_passAll 140 = .ok (.invokevirtual 367, 3) := by decide +kernel
theorem dX5_passAll_143 : decode cX5_passAll 143 = .ok (.iastore, 1) := by decide +kernel
theorem dX5_passAll_144 : decode cX5_passAll 144 = .ok (.aload_n 0, 1) := by decide +kernel
theorem dX5_passAll_145 : decode cX5_passAll 145 = .ok (.getfield 31, 3) := by decide +kernel
theorem dX5_passAll_148 : decode cX5_passAll 148 = .ok (.iload_n 1, 1) := by decide +kernel
theorem dX5_passAll_149 : decode cX5_passAll 149 = .ok (.aload_n 0, 1) := by decide +kernel
theorem dX5_passAll_150 : decode cX5_passAll 150 = .ok (.aload_n 0, 1) := by decide +kernel
theorem dX5_passAll_151 : decode cX5_passAll 151 = .ok (.getfield 31, 3) := by decide +kernel
theorem dX5_passAll_154 : decode cX5_passAll 154 = .ok (.iload_n 1, 1) := by decide +kernel
theorem dX5_passAll_155 : decode cX5_passAll 155 = .ok (.iaload, 1) := by decide +kernel
theorem dX5_passAll_156 : decode cX5_passAll 156 = .ok (.invokevirtual 367, 3) := by decide +kernel
theorem dX5_passAll_159 : decode cX5_passAll 159 = .ok (.iastore, 1) := by decide +kernel
theorem dX5_passAll_160 : decode cX5_passAll 160 = .ok (.aload_n 0, 1) := by decide +kernel
theorem dX5_passAll_161 : decode cX5_passAll 161 = .ok (.getfield 34, 3) := by decide +kernel
theorem dX5_passAll_164 : decode cX5_passAll 164 = .ok (.iload_n 1, 1) := by decide +kernel
theorem dX5_passAll_165 : decode cX5_passAll 165 = .ok (.aload_n 0, 1) := by decide +kernel
theorem dX5_passAll_166 : decode cX5_passAll 166 = .ok (.aload_n 0, 1) := by decide +kernel
theorem dX5_passAll_167 : decode cX5_passAll 167 = .ok (.getfield 34, 3) := by decide +kernel
theorem dX5_passAll_170 : decode cX5_passAll 170 = .ok (.iload_n 1, 1) := by decide +kernel
theorem dX5_passAll_171 : decode cX5_passAll 171 = .ok (.iaload, 1) := by decide +kernel
theorem dX5_passAll_172 : decode cX5_passAll 172 = .ok (.invokevirtual 367, 3) := by decide +kernel
theorem dX5_passAll_175 : decode cX5_passAll 175 = .ok (.iastore, 1) := by decide +kernel
theorem dX5_passAll_176 : decode cX5_passAll 176 = .ok (.iinc 1 1, 3) := by decide +kernel
theorem dX5_passAll_179 : decode cX5_passAll 179 = .ok (.goto (-105), 3) := by decide +kernel
theorem dX5_passAll_182 : decode cX5_passAll 182 = .ok (.iconst 0, 1) := by decide +kernel
theorem dX5_passAll_183 : decode cX5_passAll 183 = .ok (.istore_n 1, 1) := by decide +kernel
theorem dX5_passAll_184 : decode cX5_passAll 184 = .ok (.iload_n 1, 1) := by decide +kernel
theorem dX5_passAll_185 : decode cX5_passAll 185 = .ok (.bipush 6, 2) := by decide +kernel
theorem dX5_passAll_187 : decode cX5_passAll 187 = .ok (.if_icmp .ge 89, 3) := by decide +kernel
theorem dX5_passAll_190 : decode cX5_passAll 190 = .ok (.aload_n 0, 1) := by decide +kernel
theorem dX5_passAll_191 : decode cX5_passAll 191 = .ok (.getfield 22, 3) := by decide +kernel
theorem dX5_passAll_194 : decode cX5_passAll 194 = .ok (.iload_n 1, 1) := by decide +kernel
theorem dX5_passAll_195 : decode cX5_passAll 195 = .ok (.aload_n 0, 1) := by decide +kernel
theorem dX5_passAll_196 : decode cX5_passAll 196 = .ok (.aload_n 0, 1) := by decide +kernel
theorem dX5_passAll_197 : decode cX5_passAll 197 = .ok (.getfield 22, 3) := by decide +kernel
theorem dX5_passAll_200 : decode cX5_passAll 200 = .ok (.iload_n 1, 1) := by decide +kernel
theorem dX5_passAll_201 : decode cX5_passAll 201 = .ok (.iaload, 1) := by decide +kernel
theorem dX5_passAll_202 : decode cX5_passAll 202 = .ok (.invokevirtual 367, 3) := by decide +kernel
theorem dX5_passAll_205 : decode cX5_passAll 205 = .ok (.iastore, 1) := by decide +kernel
theorem dX5_passAll_206 : decode cX5_passAll 206 = .ok (.aload_n 0, 1) := by decide +kernel
theorem dX5_passAll_207 : decode cX5_passAll 207 = .ok (.getfield 25, 3) := by decide +kernel
theorem dX5_passAll_210 : decode cX5_passAll 210 = .ok (.iload_n 1, 1) := by decide +kernel
theorem dX5_passAll_211 : decode cX5_passAll 211 = .ok (.aload_n 0, 1) := by decide +kernel
theorem dX5_passAll_212 : decode cX5_passAll 212 = .ok (.aload_n 0, 1) := by decide +kernel
theorem dX5_passAll_213 : decode cX5_passAll 213 = .ok (.getfield 25, 3) := by decide +kernel
theorem dX5_passAll_216 : decode cX5_passAll 216 = .ok (.iload_n 1, 1) := by decide +kernel
theorem dX5_passAll_217 : decode cX5_passAll 217 = .ok (.iaload, 1) := by decide +kernel
theorem dX5_passAll_218 : decode cX5_passAll 218 = .ok (.invokevirtual 367, 3) := by decide +kernel
theorem dX5_passAll_221 : decode cX5_passAll 221 = .ok (.iastore, 1) := by decide +kernel
theorem dX5_passAll_222 : decode cX5_passAll 222 = .ok (.aload_n 0, 1) := by decide +kernel
theorem dX5_passAll_223 : decode cX5_passAll 223 = .ok (.getfield 28, 3) := by decide +kernel
theorem dX5_passAll_226 : decode cX5_passAll 226 = .ok (.iload_n 1, 1) := by decide +kernel
theorem dX5_passAll_227 : decode cX5_passAll 227 = .ok (.aload_n 0, 1) := by decide +kernel
theorem dX5_passAll_228 : decode cX5_passAll 228 = .ok (.aload_n 0, 1) := by decide +kernel
theorem dX5_passAll_229 : decode cX5_passAll 229 = .ok (.getfield 28, 3) := by decide +kernel
theorem dX5_passAll_232 : decode cX5_passAll 232 = .ok (.iload_n 1, 1) := by decide +kernel
theorem dX5_passAll_233 : decode cX5_passAll 233 = .ok (.iaload, 1) := by decide +kernel
theorem dX5_passAll_234 : decode cX5_passAll 234 = .ok (.invokevirtual 367, 3) := by decide +kernel
theorem dX5_passAll_237 : decode cX5_passAll 237 = .ok (.iastore, 1) := by decide +kernel
theorem dX5_passAll_238 : decode cX5_passAll 238 = .ok (.aload_n 0, 1) := by decide +kernel
theorem dX5_passAll_239 : decode cX5_passAll 239 = .ok (.getfield 37, 3) := by decide +kernel
theorem dX5_passAll_242 : decode cX5_passAll 242 = .ok (.iload_n 1, 1) := by decide +kernel
theorem dX5_passAll_243 : decode cX5_passAll 243 = .ok (.aload_n 0, 1) := by decide +kernel
theorem dX5_passAll_244 : decode cX5_passAll 244 = .ok (.aload_n 0, 1) := by decide +kernel
theorem dX5_passAll_245 : decode cX5_passAll 245 = .ok (.getfield 37, 3) := by decide +kernel
theorem dX5_passAll_248 : decode cX5_passAll 248 = .ok (.iload_n 1, 1) := by decide +kernel
theorem dX5_passAll_249 : decode cX5_passAll 249 = .ok (.iaload, 1) := by decide +kernel
theorem dX5_passAll_250 : decode cX5_passAll 250 = .ok (.invokevirtual 367, 3) := by decide +kernel
theorem dX5_passAll_253 : decode cX5_passAll 253 = .ok (.iastore, 1) := by decide +kernel
theorem dX5_passAll_254 : decode cX5_passAll 254 = .ok (.aload_n 0, 1) := by decide +kernel
theorem dX5_passAll_255 : decode cX5_passAll 255 = .ok (.getfield 40, 3) := by decide +kernel
theorem dX5_passAll_258 : decode cX5_passAll 258 = .ok (.iload_n 1, 1) := by decide +kernel
theorem dX5_passAll_259 : decode cX5_passAll 259 = .ok (.aload_n 0, 1) := by decide +kernel
theorem dX5_passAll_260 : decode cX5_passAll 260 = .ok (.aload_n 0, 1) := by decide +kernel
theorem dX5_passAll_261 : decode cX5_passAll 261 = .ok (.getfield 40, 3) := by decide +kernel
theorem dX5_passAll_264 : decode cX5_passAll 264 = .ok (.iload_n 1, 1) := by decide +kernel
theorem dX5_passAll_265 : decode cX5_passAll 265 = .ok (.iaload, 1) := by decide +kernel
theorem dX5_passAll_266 : decode cX5_passAll 266 = .ok (.invokevirtual 367, 3) := by decide +kernel
theorem dX5_passAll_269 : decode cX5_passAll 269 = .ok (.iastore, 1) := by decide +kernel
theorem dX5_passAll_270 : decode cX5_passAll 270 = .ok (.iinc 1 1, 3) := by decide +kernel
theorem dX5_passAll_273 : decode cX5_passAll 273 = .ok (.goto (-89), 3) := by decide +kernel
theorem dX5_passAll_276 : decode cX5_passAll 276 = .ok (.return_, 1) := by decide +kernel
theorem dX5_image_0 : decode cX5_image 0 = .ok (.iload_n 1, 1) := by decide +kernel
theorem dX5_image_1 : decode cX5_image 1 = .ok (.i2l, 1) := by decide +kernel
theorem dX5_image_2 : decode cX5_image 2 = .ok (.lconst 0, 1) := by decide +kernel
theorem dX5_image_3 : decode cX5_image 3 = .ok (.lconst 1, 1) := by decide +kernel
theorem dX5_image_4 : decode cX5_image 4 = .ok (.invokestatic 118, 3) := by decide +kernel
theorem dX5_image_7 : decode cX5_image 7 = .ok (.ifCond .ne 6, 3) := by decide +kernel
theorem dX5_image_10 : decode cX5_image 10 = .ok (.bipush (-2), 2) := by decide +kernel
theorem dX5_image_12 : decode cX5_image 12 = .ok (.ireturn, 1) := by decide +kernel
theorem dX5_image_13 : decode cX5_image 13 = .ok (.aload_n 0, 1) := by decide +kernel
theorem dX5_image_14 : decode cX5_image 14 = .ok (.bipush 100, 2) := by decide +kernel
theorem dX5_image_16 : decode cX5_image 16 = .ok (.iload_n 1, 1) := by decide +kernel
theorem dX5_image_17 : decode cX5_image 17 = .ok (.imul, 1) := by decide +kernel
theorem dX5_image_18 : decode cX5_image 18 = .ok (.putfield 364, 3) := by decide +kernel
theorem dX5_image_21 : decode cX5_image 21 = .ok (.aload_n 0, 1) := by decide +kernel
theorem dX5_image_22 : decode cX5_image 22 = .ok (.iconst 1, 1) := by decide +kernel
theorem dX5_image_23 : decode cX5_image 23 = .ok (.putfield 360, 3) := by decide +kernel
theorem dX5_image_26 : decode cX5_image 26 = .ok (.aload_n 0, 1) := by decide +kernel
theorem dX5_image_27 : decode cX5_image 27 = .ok (.invokevirtual 370, 3) := by decide +kernel
theorem dX5_image_30 : decode cX5_image 30 = .ok (.aload_n 0, 1) := by decide +kernel
theorem dX5_image_31 : decode cX5_image 31 = .ok (.getfield 91, 3) := by decide +kernel
theorem dX5_image_34 : decode cX5_image 34 = .ok (.iload_n 1, 1) := by decide +kernel
theorem dX5_image_35 : decode cX5_image 35 = .ok (.iconst 1, 1) := by decide +kernel
theorem dX5_image_36 : decode cX5_image 36 = .ok (.bastore, 1) := by decide +kernel
theorem dX5_image_37 : decode cX5_image 37 = .ok (.iconst 1, 1) := by decide +kernel
theorem dX5_image_38 : decode cX5_image 38 = .ok (.ireturn, 1) := by decide +kernel
theorem dX5_restore_0 : decode cX5_restore 0 = .ok (.iload_n 1, 1) := by decide +kernel
theorem dX5_restore_1 : decode cX5_restore 1 = .ok (.i2l, 1) := by decide +kernel
theorem dX5_restore_2 : decode cX5_restore 2 = .ok (.lconst 0, 1) := by decide +kernel
theorem dX5_restore_3 : decode cX5_restore 3 = .ok (.lconst 1, 1) := by decide +kernel
theorem dX5_restore_4 : decode cX5_restore 4 = .ok (.invokestatic 118, 3) := by decide +kernel
theorem dX5_restore_7 : decode cX5_restore 7 = .ok (.ifCond .ne 6, 3) := by decide +kernel
theorem dX5_restore_10 : decode cX5_restore 10 = .ok (.bipush (-2), 2) := by decide +kernel
theorem dX5_restore_12 : decode cX5_restore 12 = .ok (.ireturn, 1) := by decide +kernel
theorem dX5_restore_13 : decode cX5_restore 13 = .ok (.aload_n 0, 1) := by decide +kernel
theorem dX5_restore_14 : decode cX5_restore 14 = .ok (.getfield 91, 3) := by decide +kernel
theorem dX5_restore_17 : decode cX5_restore 17 = .ok (.iload_n 1, 1) := by decide +kernel
theorem dX5_restore_18 : decode cX5_restore 18 = .ok (.baload, 1) := by decide +kernel
theorem dX5_restore_19 : decode cX5_restore 19 = .ok (.ifCond .ne 6, 3) := by decide +kernel
theorem dX5_restore_22 : decode cX5_restore 22 = .ok (.bipush (-3), 2) := by decide +kernel
theorem dX5_restore_24 : decode cX5_restore 24 = .ok (.ireturn, 1) := by decide +kernel
theorem dX5_restore_25 : decode cX5_restore 25 = .ok (.aload_n 0, 1) := by decide +kernel
theorem dX5_restore_26 : decode cX5_restore 26 = .ok (.bipush 100, 2) := by decide +kernel
theorem dX5_restore_28 : decode cX5_restore 28 = .ok (.iload_n 1, 1) := by decide +kernel
theorem dX5_restore_29 : decode cX5_restore 29 = .ok (.imul, 1) := by decide +kernel
theorem dX5_restore_30 : decode cX5_restore 30 = .ok (.putfield 364, 3) := by decide +kernel
theorem dX5_restore_33 : decode cX5_restore 33 = .ok (.aload_n 0, 1) := by decide +kernel
theorem dX5_restore_34 : decode cX5_restore 34 = .ok (.iconst 0, 1) := by decide +kernel
theorem dX5_restore_35 : decode cX5_restore 35 = .ok (.putfield 360, 3) := by decide +kernel
theorem dX5_restore_38 : decode cX5_restore 38 = .ok (.aload_n 0, 1) := by decide +kernel
theorem dX5_restore_39 : decode cX5_restore 39 = .ok (.invokevirtual 370, 3) := by decide +kernel
theorem dX5_restore_42 : decode cX5_restore 42 = .ok (.iconst 1, 1) := by decide +kernel
theorem dX5_restore_43 : decode cX5_restore 43 = .ok (.ireturn, 1) := by decide +kernel
theorem dX5_toldOfBridge_0 : decode cX5_toldOfBridge 0 = .ok (.aload_n 0, 1) := by decide +kernel
theorem dX5_toldOfBridge_1 : decode cX5_toldOfBridge 1 = .ok (.iload_n 1, 1) := by decide +kernel
theorem dX5_toldOfBridge_2 : decode cX5_toldOfBridge 2 = .ok (.invokevirtual 140, 3) := by decide +kernel
theorem dX5_toldOfBridge_5 : decode cX5_toldOfBridge 5 = .ok (.ifCond .ne 6, 3) := by decide +kernel
theorem dX5_toldOfBridge_8 : decode cX5_toldOfBridge 8 = .ok (.bipush (-2), 2) := by decide +kernel
theorem dX5_toldOfBridge_10 : decode cX5_toldOfBridge 10 = .ok (.ireturn, 1) := by decide +kernel
theorem dX5_toldOfBridge_11 : decode cX5_toldOfBridge 11 = .ok (.iload_n 2, 1) := by decide +kernel
theorem dX5_toldOfBridge_12 : decode cX5_toldOfBridge 12 = .ok (.ifCond .ne 12, 3) := by decide +kernel
theorem dX5_toldOfBridge_15 : decode cX5_toldOfBridge 15 = .ok (.aload_n 0, 1) := by decide +kernel
theorem dX5_toldOfBridge_16 : decode cX5_toldOfBridge 16 = .ok (.getfield 16, 3) := by decide +kernel
theorem dX5_toldOfBridge_19 : decode cX5_toldOfBridge 19 = .ok (.iload_n 1, 1) := by decide +kernel
theorem dX5_toldOfBridge_20 : decode cX5_toldOfBridge 20 = .ok (.iaload, 1) := by decide +kernel
theorem dX5_toldOfBridge_21 : decode cX5_toldOfBridge 21 = .ok (.goto 33, 3) := by decide +kernel
theorem dX5_toldOfBridge_24 : decode cX5_toldOfBridge 24 = .ok (.iload_n 2, 1) := by decide +kernel
theorem dX5_toldOfBridge_25 : decode cX5_toldOfBridge 25 = .ok (.iconst 1, 1) := by decide +kernel
theorem dX5_toldOfBridge_26 : decode cX5_toldOfBridge 26 = .ok (.if_icmp .ne 12, 3) := by decide +kernel
theorem dX5_toldOfBridge_29 : decode cX5_toldOfBridge 29 = .ok (.aload_n 0, 1) := by decide +kernel
theorem dX5_toldOfBridge_30 : decode cX5_toldOfBridge 30 = .ok (.getfield 7, 3) := by decide +kernel
theorem dX5_toldOfBridge_33 : decode cX5_toldOfBridge 33 = .ok (.iload_n 1, 1) := by decide +kernel
theorem dX5_toldOfBridge_34 : decode cX5_toldOfBridge 34 = .ok (.iaload, 1) := by decide +kernel
theorem dX5_toldOfBridge_35 : decode cX5_toldOfBridge 35 = .ok (.goto 19, 3) := by decide +kernel
theorem dX5_toldOfBridge_38 : decode cX5_toldOfBridge 38 = .ok (.iload_n 2, 1) := by decide +kernel
theorem dX5_toldOfBridge_39 : decode cX5_toldOfBridge 39 = .ok (.iconst 2, 1) := by decide +kernel
theorem dX5_toldOfBridge_40 : decode cX5_toldOfBridge 40 = .ok (.if_icmp .ne 12, 3) := by decide +kernel
theorem dX5_toldOfBridge_43 : decode cX5_toldOfBridge 43 = .ok (.aload_n 0, 1) := by decide +kernel
theorem dX5_toldOfBridge_44 : decode cX5_toldOfBridge 44 = .ok (.getfield 13, 3) := by decide +kernel
theorem dX5_toldOfBridge_47 : decode cX5_toldOfBridge 47 = .ok (.iload_n 1, 1) := by decide +kernel
theorem dX5_toldOfBridge_48 : decode cX5_toldOfBridge 48 = .ok (.iaload, 1) := by decide +kernel
theorem dX5_toldOfBridge_49 : decode cX5_toldOfBridge 49 = .ok (.goto 5, 3) := by decide +kernel
theorem dX5_toldOfBridge_52 : decode cX5_toldOfBridge 52 = .ok (.bipush (-2), 2) := by decide +kernel
theorem dX5_toldOfBridge_54 : decode cX5_toldOfBridge 54 = .ok (.ireturn, 1) := by decide +kernel
theorem dX5_toldOfPerson_0 : decode cX5_toldOfPerson 0 = .ok (.aload_n 0, 1) := by decide +kernel
theorem dX5_toldOfPerson_1 : decode cX5_toldOfPerson 1 = .ok (.iload_n 1, 1) := by decide +kernel
theorem dX5_toldOfPerson_2 : decode cX5_toldOfPerson 2 = .ok (.invokevirtual 143, 3) := by decide +kernel
theorem dX5_toldOfPerson_5 : decode cX5_toldOfPerson 5 = .ok (.ifCond .ne 6, 3) := by decide +kernel
theorem dX5_toldOfPerson_8 : decode cX5_toldOfPerson 8 = .ok (.bipush (-2), 2) := by decide +kernel
theorem dX5_toldOfPerson_10 : decode cX5_toldOfPerson 10 = .ok (.ireturn, 1) := by decide +kernel
theorem dX5_toldOfPerson_11 : decode cX5_toldOfPerson 11 = .ok (.iload_n 2, 1) := by decide +kernel
theorem dX5_toldOfPerson_12 : decode cX5_toldOfPerson 12 = .ok (.ifCond .ne 12, 3) := by decide +kernel
theorem dX5_toldOfPerson_15 : decode cX5_toldOfPerson 15 = .ok (.aload_n 0, 1) := by decide +kernel
theorem dX5_toldOfPerson_16 : decode cX5_toldOfPerson 16 = .ok (.getfield 22, 3) := by decide +kernel
theorem dX5_toldOfPerson_19 : decode cX5_toldOfPerson 19 = .ok (.iload_n 1, 1) := by decide +kernel
theorem dX5_toldOfPerson_20 : decode cX5_toldOfPerson 20 = .ok (.iaload, 1) := by decide +kernel
theorem dX5_toldOfPerson_21 : decode cX5_toldOfPerson 21 = .ok (.goto 33, 3) := by decide +kernel
theorem dX5_toldOfPerson_24 : decode cX5_toldOfPerson 24 = .ok (.iload_n 2, 1) := by decide +kernel
theorem dX5_toldOfPerson_25 : decode cX5_toldOfPerson 25 = .ok (.iconst 1, 1) := by decide +kernel
theorem dX5_toldOfPerson_26 : decode cX5_toldOfPerson 26 = .ok (.if_icmp .ne 12, 3) := by decide +kernel
theorem dX5_toldOfPerson_29 : decode cX5_toldOfPerson 29 = .ok (.aload_n 0, 1) := by decide +kernel
theorem dX5_toldOfPerson_30 : decode cX5_toldOfPerson 30 = .ok (.getfield 25, 3) := by decide +kernel
theorem dX5_toldOfPerson_33 : decode cX5_toldOfPerson 33 = .ok (.iload_n 1, 1) := by decide +kernel
theorem dX5_toldOfPerson_34 : decode cX5_toldOfPerson 34 = .ok (.iaload, 1) := by decide +kernel
theorem dX5_toldOfPerson_35 : decode cX5_toldOfPerson 35 = .ok (.goto 19, 3) := by decide +kernel
theorem dX5_toldOfPerson_38 : decode cX5_toldOfPerson 38 = .ok (.iload_n 2, 1) := by decide +kernel
theorem dX5_toldOfPerson_39 : decode cX5_toldOfPerson 39 = .ok (.iconst 2, 1) := by decide +kernel
theorem dX5_toldOfPerson_40 : decode cX5_toldOfPerson 40 = .ok (.if_icmp .ne 12, 3) := by decide +kernel
theorem dX5_toldOfPerson_43 : decode cX5_toldOfPerson 43 = .ok (.aload_n 0, 1) := by decide +kernel
theorem dX5_toldOfPerson_44 : decode cX5_toldOfPerson 44 = .ok (.getfield 28, 3) := by decide +kernel
theorem dX5_toldOfPerson_47 : decode cX5_toldOfPerson 47 = .ok (.iload_n 1, 1) := by decide +kernel
theorem dX5_toldOfPerson_48 : decode cX5_toldOfPerson 48 = .ok (.iaload, 1) := by decide +kernel
theorem dX5_toldOfPerson_49 : decode cX5_toldOfPerson 49 = .ok (.goto 5, 3) := by decide +kernel
theorem dX5_toldOfPerson_52 : decode cX5_toldOfPerson 52 = .ok (.bipush (-2), 2) := by decide +kernel
theorem dX5_toldOfPerson_54 : decode cX5_toldOfPerson 54 = .ok (.ireturn, 1) := by decide +kernel
theorem dX5_told_0 : decode cX5_told 0 = .ok (.iload_n 1, 1) := by decide +kernel
theorem dX5_told_1 : decode cX5_told 1 = .ok (.i2l, 1) := by decide +kernel
theorem dX5_told_2 : decode cX5_told 2 = .ok (.ldc2_w 373, 3) := by decide +kernel
theorem dX5_told_5 : decode cX5_told 5 = .ok (.ldc2_w 375, 3) := by decide +kernel
theorem dX5_told_8 : decode cX5_told 8 = .ok (.invokestatic 118, 3) := by decide +kernel
theorem dX5_told_11 : decode cX5_told 11 = .ok (.ifCond .eq 20, 3) := by decide +kernel
theorem dX5_told_14 : decode cX5_told 14 = .ok (.aload_n 0, 1) := by decide +kernel
theorem dX5_told_15 : decode cX5_told 15 = .ok (.iload_n 1, 1) := by decide +kernel
theorem dX5_told_16 : decode cX5_told 16 = .ok (.sipush 1000, 3) := by decide +kernel
theorem dX5_told_19 : decode cX5_told 19 = .ok (.idiv, 1) := by decide +kernel
theorem dX5_told_20 : decode cX5_told 20 = .ok (.iconst 1, 1) := by decide +kernel
theorem dX5_told_21 : decode cX5_told 21 = .ok (.isub, 1) := by decide +kernel
theorem dX5_told_22 : decode cX5_told 22 = .ok (.iload_n 1, 1) := by decide +kernel
theorem dX5_told_23 : decode cX5_told 23 = .ok (.sipush 1000, 3) := by decide +kernel
theorem dX5_told_26 : decode cX5_told 26 = .ok (.irem, 1) := by decide +kernel
theorem dX5_told_27 : decode cX5_told 27 = .ok (.invokevirtual 377, 3) := by decide +kernel
theorem dX5_told_30 : decode cX5_told 30 = .ok (.ireturn, 1) := by decide +kernel
theorem dX5_told_31 : decode cX5_told 31 = .ok (.iload_n 1, 1) := by decide +kernel
theorem dX5_told_32 : decode cX5_told 32 = .ok (.i2l, 1) := by decide +kernel
theorem dX5_told_33 : decode cX5_told 33 = .ok (.ldc2_w 380, 3) := by decide +kernel
theorem dX5_told_36 : decode cX5_told 36 = .ok (.ldc2_w 382, 3) := by decide +kernel
theorem dX5_told_39 : decode cX5_told 39 = .ok (.invokestatic 118, 3) := by decide +kernel
theorem dX5_told_42 : decode cX5_told 42 = .ok (.ifCond .eq 18, 3) := by decide +kernel
theorem dX5_told_45 : decode cX5_told 45 = .ok (.aload_n 0, 1) := by decide +kernel
theorem dX5_told_46 : decode cX5_told 46 = .ok (.iload_n 1, 1) := by decide +kernel
theorem dX5_told_47 : decode cX5_told 47 = .ok (.bipush 100, 2) := by decide +kernel
theorem dX5_told_49 : decode cX5_told 49 = .ok (.idiv, 1) := by decide +kernel
theorem dX5_told_50 : decode cX5_told 50 = .ok (.iconst 1, 1) := by decide +kernel
theorem dX5_told_51 : decode cX5_told 51 = .ok (.isub, 1) := by decide +kernel
theorem dX5_told_52 : decode cX5_told 52 = .ok (.iload_n 1, 1) := by decide +kernel
theorem dX5_told_53 : decode cX5_told 53 = .ok (.bipush 100, 2) := by decide +kernel
theorem dX5_told_55 : decode cX5_told 55 = .ok (.irem, 1) := by decide +kernel
theorem dX5_told_56 : decode cX5_told 56 = .ok (.invokevirtual 384, 3) := by decide +kernel
theorem dX5_told_59 : decode cX5_told 59 = .ok (.ireturn, 1) := by decide +kernel
theorem dX5_told_60 : decode cX5_told 60 = .ok (.iload_n 1, 1) := by decide +kernel
theorem dX5_told_61 : decode cX5_told 61 = .ok (.i2l, 1) := by decide +kernel
theorem dX5_told_62 : decode cX5_told 62 = .ok (.ldc2_w 344, 3) := by decide +kernel
theorem dX5_told_65 : decode cX5_told 65 = .ok (.ldc2_w 387, 3) := by decide +kernel
theorem dX5_told_68 : decode cX5_told 68 = .ok (.invokestatic 118, 3) := by decide +kernel
theorem dX5_told_71 : decode cX5_told 71 = .ok (.ifCond .ne 17, 3) := by decide +kernel
theorem dX5_told_74 : decode cX5_told 74 = .ok (.iload_n 1, 1) := by decide +kernel
theorem dX5_told_75 : decode cX5_told 75 = .ok (.i2l, 1) := by decide +kernel
theorem dX5_told_76 : decode cX5_told 76 = .ok (.ldc2_w 389, 3) := by decide +kernel
theorem dX5_told_79 : decode cX5_told 79 = .ok (.ldc2_w 391, 3) := by decide +kernel
theorem dX5_told_82 : decode cX5_told 82 = .ok (.invokestatic 118, 3) := by decide +kernel
theorem dX5_told_85 : decode cX5_told 85 = .ok (.ifCond .eq 35, 3) := by decide +kernel
theorem dX5_told_88 : decode cX5_told 88 = .ok (.iload_n 1, 1) := by decide +kernel
theorem dX5_told_89 : decode cX5_told 89 = .ok (.bipush 20, 2) := by decide +kernel
theorem dX5_told_91 : decode cX5_told 91 = .ok (.if_icmp .ge 19, 3) := by decide +kernel
theorem dX5_told_94 : decode cX5_told 94 = .ok (.aload_n 0, 1) := by decide +kernel
theorem dX5_told_95 : decode cX5_told 95 = .ok (.getfield 31, 3) := by decide +kernel
theorem dX5_told_98 : decode cX5_told 98 = .ok (.iload_n 1, 1) := by decide +kernel
theorem dX5_told_99 : decode cX5_told 99 = .ok (.bipush 10, 2) := by decide +kernel
theorem dX5_told_101 : decode cX5_told 101 = .ok (.isub, 1) := by decide +kernel
theorem dX5_told_102 : decode cX5_told 102 = .ok (.iaload, 1) := by decide +kernel
theorem dX5_told_103 : decode cX5_told 103 = .ok (.sipush 1000, 3) := by decide +kernel
theorem dX5_told_106 : decode cX5_told 106 = .ok (.iadd, 1) := by decide +kernel
theorem dX5_told_107 : decode cX5_told 107 = .ok (.goto 12, 3) := by decide +kernel
theorem dX5_told_110 : decode cX5_told 110 = .ok (.aload_n 0, 1) := by decide +kernel
theorem dX5_told_111 : decode cX5_told 111 = .ok (.getfield 34, 3) := by decide +kernel
theorem dX5_told_114 : decode cX5_told 114 = .ok (.iload_n 1, 1) := by decide +kernel
theorem dX5_told_115 : decode cX5_told 115 = .ok (.bipush 20, 2) := by decide +kernel
theorem dX5_told_117 : decode cX5_told 117 = .ok (.isub, 1) := by decide +kernel
theorem dX5_told_118 : decode cX5_told 118 = .ok (.iaload, 1) := by decide +kernel
theorem dX5_told_119 : decode cX5_told 119 = .ok (.ireturn, 1) := by decide +kernel
theorem dX5_told_120 : decode cX5_told 120 = .ok (.iload_n 1, 1) := by decide +kernel
theorem dX5_told_121 : decode cX5_told 121 = .ok (.tableswitch 78 0 6 #[43, 48, 53, 58, 63, 68, 73], 43) := by decide +kernel
theorem dX5_told_164 : decode cX5_told 164 = .ok (.aload_n 0, 1) := by decide +kernel
theorem dX5_told_165 : decode cX5_told 165 = .ok (.getfield 159, 3) := by decide +kernel
theorem dX5_told_168 : decode cX5_told 168 = .ok (.ireturn, 1) := by decide +kernel
theorem dX5_told_169 : decode cX5_told 169 = .ok (.aload_n 0, 1) := by decide +kernel
theorem dX5_told_170 : decode cX5_told 170 = .ok (.getfield 103, 3) := by decide +kernel
theorem dX5_told_173 : decode cX5_told 173 = .ok (.ireturn, 1) := by decide +kernel
theorem dX5_told_174 : decode cX5_told 174 = .ok (.aload_n 0, 1) := by decide +kernel
theorem dX5_told_175 : decode cX5_told 175 = .ok (.getfield 106, 3) := by decide +kernel
theorem dX5_told_178 : decode cX5_told 178 = .ok (.ireturn, 1) := by decide +kernel
theorem dX5_told_179 : decode cX5_told 179 = .ok (.aload_n 0, 1) := by decide +kernel
theorem dX5_told_180 : decode cX5_told 180 = .ok (.getfield 109, 3) := by decide +kernel
theorem dX5_told_183 : decode cX5_told 183 = .ok (.ireturn, 1) := by decide +kernel
theorem dX5_told_184 : decode cX5_told 184 = .ok (.aload_n 0, 1) := by decide +kernel
theorem dX5_told_185 : decode cX5_told 185 = .ok (.getfield 95, 3) := by decide +kernel
theorem dX5_told_188 : decode cX5_told 188 = .ok (.ireturn, 1) := by decide +kernel
theorem dX5_told_189 : decode cX5_told 189 = .ok (.aload_n 0, 1) := by decide +kernel
theorem dX5_told_190 : decode cX5_told 190 = .ok (.getfield 115, 3) := by decide +kernel
theorem dX5_told_193 : decode cX5_told 193 = .ok (.ireturn, 1) := by decide +kernel
theorem dX5_told_194 : decode cX5_told 194 = .ok (.aload_n 0, 1) := by decide +kernel
theorem dX5_told_195 : decode cX5_told 195 = .ok (.getfield 112, 3) := by decide +kernel
theorem dX5_told_198 : decode cX5_told 198 = .ok (.ireturn, 1) := by decide +kernel
theorem dX5_told_199 : decode cX5_told 199 = .ok (.bipush (-2), 2) := by decide +kernel
theorem dX5_told_201 : decode cX5_told 201 = .ok (.ireturn, 1) := by decide +kernel
end
section
theorem dL_law_0 : decode cL_law 0 = .ok (.new 7, 3) := by decide +kernel
theorem dL_law_3 : decode cL_law 3 = .ok (.dup, 1) := by decide +kernel
theorem dL_law_4 : decode cL_law 4 = .ok (.invokespecial 9, 3) := by decide +kernel
theorem dL_law_7 : decode cL_law 7 = .ok (.astore_n 1, 1) := by decide +kernel
theorem dL_law_8 : decode cL_law 8 = .ok (.new 10, 3) := by decide +kernel
theorem dL_law_11 : decode cL_law 11 = .ok (.dup, 1) := by decide +kernel
theorem dL_law_12 : decode cL_law 12 = .ok (.invokespecial 12, 3) := by decide +kernel
theorem dL_law_15 : decode cL_law 15 = .ok (.astore_n 2, 1) := by decide +kernel
theorem dL_law_16 : decode cL_law 16 = .ok (.iconst 0, 1) := by decide +kernel
theorem dL_law_17 : decode cL_law 17 = .ok (.istore_n 3, 1) := by decide +kernel
theorem dL_law_18 : decode cL_law 18 = .ok (.iload_n 3, 1) := by decide +kernel
theorem dL_law_19 : decode cL_law 19 = .ok (.aload_n 0, 1) := by decide +kernel
theorem dL_law_20 : decode cL_law 20 = .ok (.arraylength, 1) := by decide +kernel
theorem dL_law_21 : decode cL_law 21 = .ok (.iconst 5, 1) := by decide +kernel
theorem dL_law_22 : decode cL_law 22 = .ok (.isub, 1) := by decide +kernel
theorem dL_law_23 : decode cL_law 23 = .ok (.if_icmp .gt 1300, 3) := by decide +kernel
theorem dL_law_26 : decode cL_law 26 = .ok (.aload_n 0, 1) := by decide +kernel
theorem dL_law_27 : decode cL_law 27 = .ok (.iload_n 3, 1) := by decide +kernel
theorem dL_law_28 : decode cL_law 28 = .ok (.iaload, 1) := by decide +kernel
theorem dL_law_29 : decode cL_law 29 = .ok (.bipush 63, 2) := by decide +kernel
theorem dL_law_31 : decode cL_law 31 = .ok (.iand, 1) := by decide +kernel
theorem dL_law_32 : decode cL_law 32 = .ok (.tableswitch 1285 0 35 #[160, 183, 236, 259, 302, 325, 368, 427, 450, 473, 486, 499, 522, 555, 568, 601, 624, 647, 690, 733, 776, 819, 862, 885, 928, 971, 1004, 1037, 1070, 1083, 1106, 1119, 1173, 1216, 1239, 1262], 160) := by decide +kernel
theorem dL_law_192 : decode cL_law 192 = .ok (.aload_n 1, 1) := by decide +kernel
theorem dL_law_193 : decode cL_law 193 = .ok (.aload_n 0, 1) := by decide +kernel
theorem dL_law_194 : decode cL_law 194 = .ok (.iload_n 3, 1) := by decide +kernel
theorem dL_law_195 : decode cL_law 195 = .ok (.iconst 1, 1) := by decide +kernel
theorem dL_law_196 : decode cL_law 196 = .ok (.iadd, 1) := by decide +kernel
theorem dL_law_197 : decode cL_law 197 = .ok (.iaload, 1) := by decide +kernel
theorem dL_law_198 : decode cL_law 198 = .ok (.invokevirtual 13, 3) := by decide +kernel
theorem dL_law_201 : decode cL_law 201 = .ok (.aload_n 2, 1) := by decide +kernel
theorem dL_law_202 : decode cL_law 202 = .ok (.aload_n 0, 1) := by decide +kernel
theorem dL_law_203 : decode cL_law 203 = .ok (.iload_n 3, 1) := by decide +kernel
theorem dL_law_204 : decode cL_law 204 = .ok (.iconst 1, 1) := by decide +kernel
theorem dL_law_205 : decode cL_law 205 = .ok (.iadd, 1) := by decide +kernel
theorem dL_law_206 : decode cL_law 206 = .ok (.iaload, 1) := by decide +kernel
theorem dL_law_207 : decode cL_law 207 = .ok (.invokevirtual 17, 3) := by decide +kernel
theorem dL_law_210 : decode cL_law 210 = .ok (.if_icmp .eq 1107, 3) := by decide +kernel
theorem dL_law_213 : decode cL_law 213 = .ok (.iconst 0, 1) := by decide +kernel
theorem dL_law_214 : decode cL_law 214 = .ok (.ireturn, 1) := by decide +kernel
theorem dL_law_215 : decode cL_law 215 = .ok (.aload_n 1, 1) := by decide +kernel
theorem dL_law_216 : decode cL_law 216 = .ok (.aload_n 0, 1) := by decide +kernel
theorem dL_law_217 : decode cL_law 217 = .ok (.iload_n 3, 1) := by decide +kernel
theorem dL_law_218 : decode cL_law 218 = .ok (.iconst 1, 1) := by decide +kernel
theorem dL_law_219 : decode cL_law 219 = .ok (.iadd, 1) := by decide +kernel
theorem dL_law_220 : decode cL_law 220 = .ok (.iaload, 1) := by decide +kernel
theorem dL_law_221 : decode cL_law 221 = .ok (.aload_n 0, 1) := by decide +kernel
theorem dL_law_222 : decode cL_law 222 = .ok (.iload_n 3, 1) := by decide +kernel
theorem dL_law_223 : decode cL_law 223 = .ok (.iconst 2, 1) := by decide +kernel
theorem dL_law_224 : decode cL_law 224 = .ok (.iadd, 1) := by decide +kernel
theorem dL_law_225 : decode cL_law 225 = .ok (.iaload, 1) := by decide +kernel
theorem dL_law_226 : decode cL_law 226 = .ok (.aload_n 0, 1) := by decide +kernel
theorem dL_law_227 : decode cL_law 227 = .ok (.iload_n 3, 1) := by decide +kernel
theorem dL_law_228 : decode cL_law 228 = .ok (.iconst 3, 1) := by decide +kernel
theorem dL_law_229 : decode cL_law 229 = .ok (.iadd, 1) := by decide +kernel
theorem dL_law_230 : decode cL_law 230 = .ok (.iaload, 1) := by decide +kernel
theorem dL_law_231 : decode cL_law 231 = .ok (.aload_n 0, 1) := by decide +kernel
theorem dL_law_232 : decode cL_law 232 = .ok (.iload_n 3, 1) := by decide +kernel
theorem dL_law_233 : decode cL_law 233 = .ok (.iconst 4, 1) := by decide +kernel
theorem dL_law_234 : decode cL_law 234 = .ok (.iadd, 1) := by decide +kernel
theorem dL_law_235 : decode cL_law 235 = .ok (.iaload, 1) := by decide +kernel
theorem dL_law_236 : decode cL_law 236 = .ok (.invokevirtual 18, 3) := by decide +kernel
theorem dL_law_239 : decode cL_law 239 = .ok (.aload_n 2, 1) := by decide +kernel
theorem dL_law_240 : decode cL_law 240 = .ok (.aload_n 0, 1) := by decide +kernel
theorem dL_law_241 : decode cL_law 241 = .ok (.iload_n 3, 1) := by decide +kernel
theorem dL_law_242 : decode cL_law 242 = .ok (.iconst 1, 1) := by decide +kernel
theorem dL_law_243 : decode cL_law 243 = .ok (.iadd, 1) := by decide +kernel
theorem dL_law_244 : decode cL_law 244 = .ok (.iaload, 1) := by decide +kernel
theorem dL_law_245 : decode cL_law 245 = .ok (.aload_n 0, 1) := by decide +kernel
theorem dL_law_246 : decode cL_law 246 = .ok (.iload_n 3, 1) := by decide +kernel
theorem dL_law_247 : decode cL_law 247 = .ok (.iconst 2, 1) := by decide +kernel
theorem dL_law_248 : decode cL_law 248 = .ok (.iadd, 1) := by decide +kernel
theorem dL_law_249 : decode cL_law 249 = .ok (.iaload, 1) := by decide +kernel
theorem dL_law_250 : decode cL_law 250 = .ok (.aload_n 0, 1) := by decide +kernel
theorem dL_law_251 : decode cL_law 251 = .ok (.iload_n 3, 1) := by decide +kernel
theorem dL_law_252 : decode cL_law 252 = .ok (.iconst 3, 1) := by decide +kernel
theorem dL_law_253 : decode cL_law 253 = .ok (.iadd, 1) := by decide +kernel
theorem dL_law_254 : decode cL_law 254 = .ok (.iaload, 1) := by decide +kernel
theorem dL_law_255 : decode cL_law 255 = .ok (.aload_n 0, 1) := by decide +kernel
theorem dL_law_256 : decode cL_law 256 = .ok (.iload_n 3, 1) := by decide +kernel
theorem dL_law_257 : decode cL_law 257 = .ok (.iconst 4, 1) := by decide +kernel
theorem dL_law_258 : decode cL_law 258 = .ok (.iadd, 1) := by decide +kernel
theorem dL_law_259 : decode cL_law 259 = .ok (.iaload, 1) := by decide +kernel
theorem dL_law_260 : decode cL_law 260 = .ok (.invokevirtual 22, 3) := by decide +kernel
theorem dL_law_263 : decode cL_law 263 = .ok (.if_icmp .eq 1054, 3) := by decide +kernel
theorem dL_law_266 : decode cL_law 266 = .ok (.iconst 0, 1) := by decide +kernel
theorem dL_law_267 : decode cL_law 267 = .ok (.ireturn, 1) := by decide +kernel
theorem dL_law_268 : decode cL_law 268 = .ok (.aload_n 1, 1) := by decide +kernel
theorem dL_law_269 : decode cL_law 269 = .ok (.aload_n 0, 1) := by decide +kernel
theorem dL_law_270 : decode cL_law 270 = .ok (.iload_n 3, 1) := by decide +kernel
theorem dL_law_271 : decode cL_law 271 = .ok (.iconst 1, 1) := by decide +kernel
theorem dL_law_272 : decode cL_law 272 = .ok (.iadd, 1) := by decide +kernel
theorem dL_law_273 : decode cL_law 273 = .ok (.iaload, 1) := by decide +kernel
theorem dL_law_274 : decode cL_law 274 = .ok (.invokevirtual 23, 3) := by decide +kernel
theorem dL_law_277 : decode cL_law 277 = .ok (.aload_n 2, 1) := by decide +kernel
theorem dL_law_278 : decode cL_law 278 = .ok (.aload_n 0, 1) := by decide +kernel
theorem dL_law_279 : decode cL_law 279 = .ok (.iload_n 3, 1) := by decide +kernel
theorem dL_law_280 : decode cL_law 280 = .ok (.iconst 1, 1) := by decide +kernel
theorem dL_law_281 : decode cL_law 281 = .ok (.iadd, 1) := by decide +kernel
theorem dL_law_282 : decode cL_law 282 = .ok (.iaload, 1) := by decide +kernel
theorem dL_law_283 : decode cL_law 283 = .ok (.invokevirtual 26, 3) := by decide +kernel
theorem dL_law_286 : decode cL_law 286 = .ok (.if_icmp .eq 1031, 3) := by decide +kernel
theorem dL_law_289 : decode cL_law 289 = .ok (.iconst 0, 1) := by decide +kernel
theorem dL_law_290 : decode cL_law 290 = .ok (.ireturn, 1) := by decide +kernel
theorem dL_law_291 : decode cL_law 291 = .ok (.aload_n 1, 1) := by decide +kernel
theorem dL_law_292 : decode cL_law 292 = .ok (.aload_n 0, 1) := by decide +kernel
theorem dL_law_293 : decode cL_law 293 = .ok (.iload_n 3, 1) := by decide +kernel
theorem dL_law_294 : decode cL_law 294 = .ok (.iconst 1, 1) := by decide +kernel
theorem dL_law_295 : decode cL_law 295 = .ok (.iadd, 1) := by decide +kernel
theorem dL_law_296 : decode cL_law 296 = .ok (.iaload, 1) := by decide +kernel
theorem dL_law_297 : decode cL_law 297 = .ok (.aload_n 0, 1) := by decide +kernel
theorem dL_law_298 : decode cL_law 298 = .ok (.iload_n 3, 1) := by decide +kernel
theorem dL_law_299 : decode cL_law 299 = .ok (.iconst 2, 1) := by decide +kernel
theorem dL_law_300 : decode cL_law 300 = .ok (.iadd, 1) := by decide +kernel
theorem dL_law_301 : decode cL_law 301 = .ok (.iaload, 1) := by decide +kernel
theorem dL_law_302 : decode cL_law 302 = .ok (.aload_n 0, 1) := by decide +kernel
theorem dL_law_303 : decode cL_law 303 = .ok (.iload_n 3, 1) := by decide +kernel
theorem dL_law_304 : decode cL_law 304 = .ok (.iconst 3, 1) := by decide +kernel
theorem dL_law_305 : decode cL_law 305 = .ok (.iadd, 1) := by decide +kernel
theorem dL_law_306 : decode cL_law 306 = .ok (.iaload, 1) := by decide +kernel
theorem dL_law_307 : decode cL_law 307 = .ok (.invokevirtual 27, 3) := by decide +kernel
theorem dL_law_310 : decode cL_law 310 = .ok (.aload_n 2, 1) := by decide +kernel
theorem dL_law_311 : decode cL_law 311 = .ok (.aload_n 0, 1) := by decide +kernel
theorem dL_law_312 : decode cL_law 312 = .ok (.iload_n 3, 1) := by decide +kernel
theorem dL_law_313 : decode cL_law 313 = .ok (.iconst 1, 1) := by decide +kernel
theorem dL_law_314 : decode cL_law 314 = .ok (.iadd, 1) := by decide +kernel
theorem dL_law_315 : decode cL_law 315 = .ok (.iaload, 1) := by decide +kernel
theorem dL_law_316 : decode cL_law 316 = .ok (.aload_n 0, 1) := by decide +kernel
theorem dL_law_317 : decode cL_law 317 = .ok (.iload_n 3, 1) := by decide +kernel
theorem dL_law_318 : decode cL_law 318 = .ok (.iconst 2, 1) := by decide +kernel
theorem dL_law_319 : decode cL_law 319 = .ok (.iadd, 1) := by decide +kernel
theorem dL_law_320 : decode cL_law 320 = .ok (.iaload, 1) := by decide +kernel
theorem dL_law_321 : decode cL_law 321 = .ok (.aload_n 0, 1) := by decide +kernel
theorem dL_law_322 : decode cL_law 322 = .ok (.iload_n 3, 1) := by decide +kernel
theorem dL_law_323 : decode cL_law 323 = .ok (.iconst 3, 1) := by decide +kernel
theorem dL_law_324 : decode cL_law 324 = .ok (.iadd, 1) := by decide +kernel
theorem dL_law_325 : decode cL_law 325 = .ok (.iaload, 1) := by decide +kernel
theorem dL_law_326 : decode cL_law 326 = .ok (.invokevirtual 31, 3) := by decide +kernel
theorem dL_law_329 : decode cL_law 329 = .ok (.if_icmp .eq 988, 3) := by decide +kernel
theorem dL_law_332 : decode cL_law 332 = .ok (.iconst 0, 1) := by decide +kernel
theorem dL_law_333 : decode cL_law 333 = .ok (.ireturn, 1) := by decide +kernel
theorem dL_law_334 : decode cL_law 334 = .ok (.aload_n 1, 1) := by decide +kernel
theorem dL_law_335 : decode cL_law 335 = .ok (.aload_n 0, 1) := by decide +kernel
theorem dL_law_336 : decode cL_law 336 = .ok (.iload_n 3, 1) := by decide +kernel
theorem dL_law_337 : decode cL_law 337 = .ok (.iconst 1, 1) := by decide +kernel
theorem dL_law_338 : decode cL_law 338 = .ok (.iadd, 1) := by decide +kernel
theorem dL_law_339 : decode cL_law 339 = .ok (.iaload, 1) := by decide +kernel
theorem dL_law_340 : decode cL_law 340 = .ok (.invokevirtual 32, 3) := by decide +kernel
theorem dL_law_343 : decode cL_law 343 = .ok (.aload_n 2, 1) := by decide +kernel
theorem dL_law_344 : decode cL_law 344 = .ok (.aload_n 0, 1) := by decide +kernel
theorem dL_law_345 : decode cL_law 345 = .ok (.iload_n 3, 1) := by decide +kernel
theorem dL_law_346 : decode cL_law 346 = .ok (.iconst 1, 1) := by decide +kernel
theorem dL_law_347 : decode cL_law 347 = .ok (.iadd, 1) := by decide +kernel
theorem dL_law_348 : decode cL_law 348 = .ok (.iaload, 1) := by decide +kernel
theorem dL_law_349 : decode cL_law 349 = .ok (.invokevirtual 35, 3) := by decide +kernel
theorem dL_law_352 : decode cL_law 352 = .ok (.if_icmp .eq 965, 3) := by decide +kernel
theorem dL_law_355 : decode cL_law 355 = .ok (.iconst 0, 1) := by decide +kernel
theorem dL_law_356 : decode cL_law 356 = .ok (.ireturn, 1) := by decide +kernel
theorem dL_law_357 : decode cL_law 357 = .ok (.aload_n 1, 1) := by decide +kernel
theorem dL_law_358 : decode cL_law 358 = .ok (.aload_n 0, 1) := by decide +kernel
theorem dL_law_359 : decode cL_law 359 = .ok (.iload_n 3, 1) := by decide +kernel
theorem dL_law_360 : decode cL_law 360 = .ok (.iconst 1, 1) := by decide +kernel
theorem dL_law_361 : decode cL_law 361 = .ok (.iadd, 1) := by decide +kernel
theorem dL_law_362 : decode cL_law 362 = .ok (.iaload, 1) := by decide +kernel
theorem dL_law_363 : decode cL_law 363 = .ok (.aload_n 0, 1) := by decide +kernel
theorem dL_law_364 : decode cL_law 364 = .ok (.iload_n 3, 1) := by decide +kernel
theorem dL_law_365 : decode cL_law 365 = .ok (.iconst 2, 1) := by decide +kernel
theorem dL_law_366 : decode cL_law 366 = .ok (.iadd, 1) := by decide +kernel
theorem dL_law_367 : decode cL_law 367 = .ok (.iaload, 1) := by decide +kernel
theorem dL_law_368 : decode cL_law 368 = .ok (.aload_n 0, 1) := by decide +kernel
theorem dL_law_369 : decode cL_law 369 = .ok (.iload_n 3, 1) := by decide +kernel
theorem dL_law_370 : decode cL_law 370 = .ok (.iconst 3, 1) := by decide +kernel
theorem dL_law_371 : decode cL_law 371 = .ok (.iadd, 1) := by decide +kernel
theorem dL_law_372 : decode cL_law 372 = .ok (.iaload, 1) := by decide +kernel
theorem dL_law_373 : decode cL_law 373 = .ok (.invokevirtual 36, 3) := by decide +kernel
theorem dL_law_376 : decode cL_law 376 = .ok (.aload_n 2, 1) := by decide +kernel
theorem dL_law_377 : decode cL_law 377 = .ok (.aload_n 0, 1) := by decide +kernel
theorem dL_law_378 : decode cL_law 378 = .ok (.iload_n 3, 1) := by decide +kernel
theorem dL_law_379 : decode cL_law 379 = .ok (.iconst 1, 1) := by decide +kernel
theorem dL_law_380 : decode cL_law 380 = .ok (.iadd, 1) := by decide +kernel
theorem dL_law_381 : decode cL_law 381 = .ok (.iaload, 1) := by decide +kernel
theorem dL_law_382 : decode cL_law 382 = .ok (.aload_n 0, 1) := by decide +kernel
theorem dL_law_383 : decode cL_law 383 = .ok (.iload_n 3, 1) := by decide +kernel
theorem dL_law_384 : decode cL_law 384 = .ok (.iconst 2, 1) := by decide +kernel
theorem dL_law_385 : decode cL_law 385 = .ok (.iadd, 1) := by decide +kernel
theorem dL_law_386 : decode cL_law 386 = .ok (.iaload, 1) := by decide +kernel
theorem dL_law_387 : decode cL_law 387 = .ok (.aload_n 0, 1) := by decide +kernel
theorem dL_law_388 : decode cL_law 388 = .ok (.iload_n 3, 1) := by decide +kernel
theorem dL_law_389 : decode cL_law 389 = .ok (.iconst 3, 1) := by decide +kernel
theorem dL_law_390 : decode cL_law 390 = .ok (.iadd, 1) := by decide +kernel
theorem dL_law_391 : decode cL_law 391 = .ok (.iaload, 1) := by decide +kernel
theorem dL_law_392 : decode cL_law 392 = .ok (.invokevirtual 39, 3) := by decide +kernel
theorem dL_law_395 : decode cL_law 395 = .ok (.if_icmp .eq 922, 3) := by decide +kernel
theorem dL_law_398 : decode cL_law 398 = .ok (.iconst 0, 1) := by decide +kernel
theorem dL_law_399 : decode cL_law 399 = .ok (.ireturn, 1) := by decide +kernel
theorem dL_law_400 : decode cL_law 400 = .ok (.aload_n 1, 1) := by decide +kernel
theorem dL_law_401 : decode cL_law 401 = .ok (.aload_n 0, 1) := by decide +kernel
theorem dL_law_402 : decode cL_law 402 = .ok (.iload_n 3, 1) := by decide +kernel
theorem dL_law_403 : decode cL_law 403 = .ok (.iconst 1, 1) := by decide +kernel
theorem dL_law_404 : decode cL_law 404 = .ok (.iadd, 1) := by decide +kernel
theorem dL_law_405 : decode cL_law 405 = .ok (.iaload, 1) := by decide +kernel
theorem dL_law_406 : decode cL_law 406 = .ok (.aload_n 0, 1) := by decide +kernel
theorem dL_law_407 : decode cL_law 407 = .ok (.iload_n 3, 1) := by decide +kernel
theorem dL_law_408 : decode cL_law 408 = .ok (.iconst 2, 1) := by decide +kernel
theorem dL_law_409 : decode cL_law 409 = .ok (.iadd, 1) := by decide +kernel
theorem dL_law_410 : decode cL_law 410 = .ok (.iaload, 1) := by decide +kernel
theorem dL_law_411 : decode cL_law 411 = .ok (.aload_n 0, 1) := by decide +kernel
theorem dL_law_412 : decode cL_law 412 = .ok (.iload_n 3, 1) := by decide +kernel
theorem dL_law_413 : decode cL_law 413 = .ok (.iconst 3, 1) := by decide +kernel
theorem dL_law_414 : decode cL_law 414 = .ok (.iadd, 1) := by decide +kernel
theorem dL_law_415 : decode cL_law 415 = .ok (.iaload, 1) := by decide +kernel
theorem dL_law_416 : decode cL_law 416 = .ok (.ifCond .eq 7, 3) := by decide +kernel
theorem dL_law_419 : decode cL_law 419 = .ok (.iconst 1, 1) := by decide +kernel
theorem dL_law_420 : decode cL_law 420 = .ok (.goto 4, 3) := by decide +kernel
theorem dL_law_423 : decode cL_law 423 = .ok (.iconst 0, 1) := by decide +kernel
theorem dL_law_424 : decode cL_law 424 = .ok (.invokevirtual 40, 3) := by decide +kernel
theorem dL_law_427 : decode cL_law 427 = .ok (.aload_n 2, 1) := by decide +kernel
theorem dL_law_428 : decode cL_law 428 = .ok (.aload_n 0, 1) := by decide +kernel
theorem dL_law_429 : decode cL_law 429 = .ok (.iload_n 3, 1) := by decide +kernel
theorem dL_law_430 : decode cL_law 430 = .ok (.iconst 1, 1) := by decide +kernel
theorem dL_law_431 : decode cL_law 431 = .ok (.iadd, 1) := by decide +kernel
theorem dL_law_432 : decode cL_law 432 = .ok (.iaload, 1) := by decide +kernel
theorem dL_law_433 : decode cL_law 433 = .ok (.aload_n 0, 1) := by decide +kernel
theorem dL_law_434 : decode cL_law 434 = .ok (.iload_n 3, 1) := by decide +kernel
theorem dL_law_435 : decode cL_law 435 = .ok (.iconst 2, 1) := by decide +kernel
theorem dL_law_436 : decode cL_law 436 = .ok (.iadd, 1) := by decide +kernel
theorem dL_law_437 : decode cL_law 437 = .ok (.iaload, 1) := by decide +kernel
theorem dL_law_438 : decode cL_law 438 = .ok (.aload_n 0, 1) := by decide +kernel
theorem dL_law_439 : decode cL_law 439 = .ok (.iload_n 3, 1) := by decide +kernel
theorem dL_law_440 : decode cL_law 440 = .ok (.iconst 3, 1) := by decide +kernel
theorem dL_law_441 : decode cL_law 441 = .ok (.iadd, 1) := by decide +kernel
theorem dL_law_442 : decode cL_law 442 = .ok (.iaload, 1) := by decide +kernel
theorem dL_law_443 : decode cL_law 443 = .ok (.ifCond .eq 7, 3) := by decide +kernel
theorem dL_law_446 : decode cL_law 446 = .ok (.iconst 1, 1) := by decide +kernel
theorem dL_law_447 : decode cL_law 447 = .ok (.goto 4, 3) := by decide +kernel
theorem dL_law_450 : decode cL_law 450 = .ok (.iconst 0, 1) := by decide +kernel
theorem dL_law_451 : decode cL_law 451 = .ok (.invokevirtual 44, 3) := by decide +kernel
theorem dL_law_454 : decode cL_law 454 = .ok (.if_icmp .eq 863, 3) := by decide +kernel
theorem dL_law_457 : decode cL_law 457 = .ok (.iconst 0, 1) := by decide +kernel
theorem dL_law_458 : decode cL_law 458 = .ok (.ireturn, 1) := by decide +kernel
theorem dL_law_459 : decode cL_law 459 = .ok (.aload_n 1, 1) := by decide +kernel
theorem dL_law_460 : decode cL_law 460 = .ok (.aload_n 0, 1) := by decide +kernel
theorem dL_law_461 : decode cL_law 461 = .ok (.iload_n 3, 1) := by decide +kernel
theorem dL_law_462 : decode cL_law 462 = .ok (.iconst 1, 1) := by decide +kernel
theorem dL_law_463 : decode cL_law 463 = .ok (.iadd, 1) := by decide +kernel
theorem dL_law_464 : decode cL_law 464 = .ok (.iaload, 1) := by decide +kernel
theorem dL_law_465 : decode cL_law 465 = .ok (.invokevirtual 45, 3) := by decide +kernel
theorem dL_law_468 : decode cL_law 468 = .ok (.aload_n 2, 1) := by decide +kernel
theorem dL_law_469 : decode cL_law 469 = .ok (.aload_n 0, 1) := by decide +kernel
theorem dL_law_470 : decode cL_law 470 = .ok (.iload_n 3, 1) := by decide +kernel
theorem dL_law_471 : decode cL_law 471 = .ok (.iconst 1, 1) := by decide +kernel
theorem dL_law_472 : decode cL_law 472 = .ok (.iadd, 1) := by decide +kernel
theorem dL_law_473 : decode cL_law 473 = .ok (.iaload, 1) := by decide +kernel
theorem dL_law_474 : decode cL_law 474 = .ok (.invokevirtual 48, 3) := by decide +kernel
theorem dL_law_477 : decode cL_law 477 = .ok (.if_icmp .eq 840, 3) := by decide +kernel
theorem dL_law_480 : decode cL_law 480 = .ok (.iconst 0, 1) := by decide +kernel
theorem dL_law_481 : decode cL_law 481 = .ok (.ireturn, 1) := by decide +kernel
theorem dL_law_482 : decode cL_law 482 = .ok (.aload_n 1, 1) := by decide +kernel
theorem dL_law_483 : decode cL_law 483 = .ok (.aload_n 0, 1) := by decide +kernel
theorem dL_law_484 : decode cL_law 484 = .ok (.iload_n 3, 1) := by decide +kernel
theorem dL_law_485 : decode cL_law 485 = .ok (.iconst 1, 1) := by decide +kernel
theorem dL_law_486 : decode cL_law 486 = .ok (.iadd, 1) := by decide +kernel
theorem dL_law_487 : decode cL_law 487 = .ok (.iaload, 1) := by decide +kernel
theorem dL_law_488 : decode cL_law 488 = .ok (.invokevirtual 49, 3) := by decide +kernel
theorem dL_law_491 : decode cL_law 491 = .ok (.aload_n 2, 1) := by decide +kernel
theorem dL_law_492 : decode cL_law 492 = .ok (.aload_n 0, 1) := by decide +kernel
theorem dL_law_493 : decode cL_law 493 = .ok (.iload_n 3, 1) := by decide +kernel
theorem dL_law_494 : decode cL_law 494 = .ok (.iconst 1, 1) := by decide +kernel
theorem dL_law_495 : decode cL_law 495 = .ok (.iadd, 1) := by decide +kernel
theorem dL_law_496 : decode cL_law 496 = .ok (.iaload, 1) := by decide +kernel
theorem dL_law_497 : decode cL_law 497 = .ok (.invokevirtual 52, 3) := by decide +kernel
theorem dL_law_500 : decode cL_law 500 = .ok (.if_icmp .eq 817, 3) := by decide +kernel
theorem dL_law_503 : decode cL_law 503 = .ok (.iconst 0, 1) := by decide +kernel
theorem dL_law_504 : decode cL_law 504 = .ok (.ireturn, 1) := by decide +kernel
theorem dL_law_505 : decode cL_law 505 = .ok (.aload_n 1, 1) := by decide +kernel
theorem dL_law_506 : decode cL_law 506 = .ok (.invokevirtual 53, 3) := by decide +kernel
theorem dL_law_509 : decode cL_law 509 = .ok (.aload_n 2, 1) := by decide +kernel
theorem dL_law_510 : decode cL_law 510 = .ok (.invokevirtual 57, 3) := by decide +kernel
theorem dL_law_513 : decode cL_law 513 = .ok (.if_icmp .eq 804, 3) := by decide +kernel
theorem dL_law_516 : decode cL_law 516 = .ok (.iconst 0, 1) := by decide +kernel
theorem dL_law_517 : decode cL_law 517 = .ok (.ireturn, 1) := by decide +kernel
theorem dL_law_518 : decode cL_law 518 = .ok (.aload_n 1, 1) := by decide +kernel
theorem dL_law_519 : decode cL_law 519 = .ok (.invokevirtual 58, 3) := by decide +kernel
theorem dL_law_522 : decode cL_law 522 = .ok (.aload_n 2, 1) := by decide +kernel
theorem dL_law_523 : decode cL_law 523 = .ok (.invokevirtual 61, 3) := by decide +kernel
theorem dL_law_526 : decode cL_law 526 = .ok (.if_icmp .eq 791, 3) := by decide +kernel
theorem dL_law_529 : decode cL_law 529 = .ok (.iconst 0, 1) := by decide +kernel
theorem dL_law_530 : decode cL_law 530 = .ok (.ireturn, 1) := by decide +kernel
theorem dL_law_531 : decode cL_law 531 = .ok (.aload_n 1, 1) := by decide +kernel
theorem dL_law_532 : decode cL_law 532 = .ok (.aload_n 0, 1) := by decide +kernel
theorem dL_law_533 : decode cL_law 533 = .ok (.iload_n 3, 1) := by decide +kernel
theorem dL_law_534 : decode cL_law 534 = .ok (.iconst 1, 1) := by decide +kernel
theorem dL_law_535 : decode cL_law 535 = .ok (.iadd, 1) := by decide +kernel
theorem dL_law_536 : decode cL_law 536 = .ok (.iaload, 1) := by decide +kernel
theorem dL_law_537 : decode cL_law 537 = .ok (.invokevirtual 62, 3) := by decide +kernel
theorem dL_law_540 : decode cL_law 540 = .ok (.aload_n 2, 1) := by decide +kernel
theorem dL_law_541 : decode cL_law 541 = .ok (.aload_n 0, 1) := by decide +kernel
theorem dL_law_542 : decode cL_law 542 = .ok (.iload_n 3, 1) := by decide +kernel
theorem dL_law_543 : decode cL_law 543 = .ok (.iconst 1, 1) := by decide +kernel
theorem dL_law_544 : decode cL_law 544 = .ok (.iadd, 1) := by decide +kernel
theorem dL_law_545 : decode cL_law 545 = .ok (.iaload, 1) := by decide +kernel
theorem dL_law_546 : decode cL_law 546 = .ok (.invokevirtual 65, 3) := by decide +kernel
theorem dL_law_549 : decode cL_law 549 = .ok (.if_icmp .eq 768, 3) := by decide +kernel
theorem dL_law_552 : decode cL_law 552 = .ok (.iconst 0, 1) := by decide +kernel
theorem dL_law_553 : decode cL_law 553 = .ok (.ireturn, 1) := by decide +kernel
theorem dL_law_554 : decode cL_law 554 = .ok (.aload_n 1, 1) := by decide +kernel
theorem dL_law_555 : decode cL_law 555 = .ok (.aload_n 0, 1) := by decide +kernel
theorem dL_law_556 : decode cL_law 556 = .ok (.iload_n 3, 1) := by decide +kernel
theorem dL_law_557 : decode cL_law 557 = .ok (.iconst 1, 1) := by decide +kernel
theorem dL_law_558 : decode cL_law 558 = .ok (.iadd, 1) := by decide +kernel
theorem dL_law_559 : decode cL_law 559 = .ok (.iaload, 1) := by decide +kernel
theorem dL_law_560 : decode cL_law 560 = .ok (.aload_n 0, 1) := by decide +kernel
theorem dL_law_561 : decode cL_law 561 = .ok (.iload_n 3, 1) := by decide +kernel
theorem dL_law_562 : decode cL_law 562 = .ok (.iconst 2, 1) := by decide +kernel
theorem dL_law_563 : decode cL_law 563 = .ok (.iadd, 1) := by decide +kernel
theorem dL_law_564 : decode cL_law 564 = .ok (.iaload, 1) := by decide +kernel
theorem dL_law_565 : decode cL_law 565 = .ok (.invokevirtual 66, 3) := by decide +kernel
theorem dL_law_568 : decode cL_law 568 = .ok (.aload_n 2, 1) := by decide +kernel
theorem dL_law_569 : decode cL_law 569 = .ok (.aload_n 0, 1) := by decide +kernel
theorem dL_law_570 : decode cL_law 570 = .ok (.iload_n 3, 1) := by decide +kernel
theorem dL_law_571 : decode cL_law 571 = .ok (.iconst 1, 1) := by decide +kernel
theorem dL_law_572 : decode cL_law 572 = .ok (.iadd, 1) := by decide +kernel
theorem dL_law_573 : decode cL_law 573 = .ok (.iaload, 1) := by decide +kernel
theorem dL_law_574 : decode cL_law 574 = .ok (.aload_n 0, 1) := by decide +kernel
theorem dL_law_575 : decode cL_law 575 = .ok (.iload_n 3, 1) := by decide +kernel
theorem dL_law_576 : decode cL_law 576 = .ok (.iconst 2, 1) := by decide +kernel
theorem dL_law_577 : decode cL_law 577 = .ok (.iadd, 1) := by decide +kernel
theorem dL_law_578 : decode cL_law 578 = .ok (.iaload, 1) := by decide +kernel
theorem dL_law_579 : decode cL_law 579 = .ok (.invokevirtual 70, 3) := by decide +kernel
theorem dL_law_582 : decode cL_law 582 = .ok (.if_icmp .eq 735, 3) := by decide +kernel
theorem dL_law_585 : decode cL_law 585 = .ok (.iconst 0, 1) := by decide +kernel
theorem dL_law_586 : decode cL_law 586 = .ok (.ireturn, 1) := by decide +kernel
theorem dL_law_587 : decode cL_law 587 = .ok (.aload_n 1, 1) := by decide +kernel
theorem dL_law_588 : decode cL_law 588 = .ok (.invokevirtual 71, 3) := by decide +kernel
theorem dL_law_591 : decode cL_law 591 = .ok (.aload_n 2, 1) := by decide +kernel
theorem dL_law_592 : decode cL_law 592 = .ok (.invokevirtual 74, 3) := by decide +kernel
theorem dL_law_595 : decode cL_law 595 = .ok (.if_icmp .eq 722, 3) := by decide +kernel
theorem dL_law_598 : decode cL_law 598 = .ok (.iconst 0, 1) := by decide +kernel
theorem dL_law_599 : decode cL_law 599 = .ok (.ireturn, 1) := by decide +kernel
theorem dL_law_600 : decode cL_law 600 = .ok (.aload_n 1, 1) := by decide +kernel
theorem dL_law_601 : decode cL_law 601 = .ok (.aload_n 0, 1) := by decide +kernel
theorem dL_law_602 : decode cL_law 602 = .ok (.iload_n 3, 1) := by decide +kernel
theorem dL_law_603 : decode cL_law 603 = .ok (.iconst 1, 1) := by decide +kernel
theorem dL_law_604 : decode cL_law 604 = .ok (.iadd, 1) := by decide +kernel
theorem dL_law_605 : decode cL_law 605 = .ok (.iaload, 1) := by decide +kernel
theorem dL_law_606 : decode cL_law 606 = .ok (.aload_n 0, 1) := by decide +kernel
theorem dL_law_607 : decode cL_law 607 = .ok (.iload_n 3, 1) := by decide +kernel
theorem dL_law_608 : decode cL_law 608 = .ok (.iconst 2, 1) := by decide +kernel
theorem dL_law_609 : decode cL_law 609 = .ok (.iadd, 1) := by decide +kernel
theorem dL_law_610 : decode cL_law 610 = .ok (.iaload, 1) := by decide +kernel
theorem dL_law_611 : decode cL_law 611 = .ok (.invokevirtual 75, 3) := by decide +kernel
theorem dL_law_614 : decode cL_law 614 = .ok (.aload_n 2, 1) := by decide +kernel
theorem dL_law_615 : decode cL_law 615 = .ok (.aload_n 0, 1) := by decide +kernel
theorem dL_law_616 : decode cL_law 616 = .ok (.iload_n 3, 1) := by decide +kernel
theorem dL_law_617 : decode cL_law 617 = .ok (.iconst 1, 1) := by decide +kernel
theorem dL_law_618 : decode cL_law 618 = .ok (.iadd, 1) := by decide +kernel
theorem dL_law_619 : decode cL_law 619 = .ok (.iaload, 1) := by decide +kernel
theorem dL_law_620 : decode cL_law 620 = .ok (.aload_n 0, 1) := by decide +kernel
theorem dL_law_621 : decode cL_law 621 = .ok (.iload_n 3, 1) := by decide +kernel
theorem dL_law_622 : decode cL_law 622 = .ok (.iconst 2, 1) := by decide +kernel
theorem dL_law_623 : decode cL_law 623 = .ok (.iadd, 1) := by decide +kernel
theorem dL_law_624 : decode cL_law 624 = .ok (.iaload, 1) := by decide +kernel
theorem dL_law_625 : decode cL_law 625 = .ok (.invokevirtual 78, 3) := by decide +kernel
theorem dL_law_628 : decode cL_law 628 = .ok (.if_icmp .eq 689, 3) := by decide +kernel
theorem dL_law_631 : decode cL_law 631 = .ok (.iconst 0, 1) := by decide +kernel
theorem dL_law_632 : decode cL_law 632 = .ok (.ireturn, 1) := by decide +kernel
theorem dL_law_633 : decode cL_law 633 = .ok (.aload_n 1, 1) := by decide +kernel
theorem dL_law_634 : decode cL_law 634 = .ok (.aload_n 0, 1) := by decide +kernel
theorem dL_law_635 : decode cL_law 635 = .ok (.iload_n 3, 1) := by decide +kernel
theorem dL_law_636 : decode cL_law 636 = .ok (.iconst 1, 1) := by decide +kernel
theorem dL_law_637 : decode cL_law 637 = .ok (.iadd, 1) := by decide +kernel
theorem dL_law_638 : decode cL_law 638 = .ok (.iaload, 1) := by decide +kernel
theorem dL_law_639 : decode cL_law 639 = .ok (.invokevirtual 79, 3) := by decide +kernel
theorem dL_law_642 : decode cL_law 642 = .ok (.aload_n 2, 1) := by decide +kernel
theorem dL_law_643 : decode cL_law 643 = .ok (.aload_n 0, 1) := by decide +kernel
theorem dL_law_644 : decode cL_law 644 = .ok (.iload_n 3, 1) := by decide +kernel
theorem dL_law_645 : decode cL_law 645 = .ok (.iconst 1, 1) := by decide +kernel
theorem dL_law_646 : decode cL_law 646 = .ok (.iadd, 1) := by decide +kernel
theorem dL_law_647 : decode cL_law 647 = .ok (.iaload, 1) := by decide +kernel
theorem dL_law_648 : decode cL_law 648 = .ok (.invokevirtual 82, 3) := by decide +kernel
theorem dL_law_651 : decode cL_law 651 = .ok (.if_icmp .eq 666, 3) := by decide +kernel
theorem dL_law_654 : decode cL_law 654 = .ok (.iconst 0, 1) := by decide +kernel
theorem dL_law_655 : decode cL_law 655 = .ok (.ireturn, 1) := by decide +kernel
theorem dL_law_656 : decode cL_law 656 = .ok (.aload_n 1, 1) := by decide +kernel
theorem dL_law_657 : decode cL_law 657 = .ok (.aload_n 0, 1) := by decide +kernel
theorem dL_law_658 : decode cL_law 658 = .ok (.iload_n 3, 1) := by decide +kernel
theorem dL_law_659 : decode cL_law 659 = .ok (.iconst 1, 1) := by decide +kernel
theorem dL_law_660 : decode cL_law 660 = .ok (.iadd, 1) := by decide +kernel
theorem dL_law_661 : decode cL_law 661 = .ok (.iaload, 1) := by decide +kernel
theorem dL_law_662 : decode cL_law 662 = .ok (.invokevirtual 83, 3) := by decide +kernel
theorem dL_law_665 : decode cL_law 665 = .ok (.aload_n 2, 1) := by decide +kernel
theorem dL_law_666 : decode cL_law 666 = .ok (.aload_n 0, 1) := by decide +kernel
theorem dL_law_667 : decode cL_law 667 = .ok (.iload_n 3, 1) := by decide +kernel
theorem dL_law_668 : decode cL_law 668 = .ok (.iconst 1, 1) := by decide +kernel
theorem dL_law_669 : decode cL_law 669 = .ok (.iadd, 1) := by decide +kernel
theorem dL_law_670 : decode cL_law 670 = .ok (.iaload, 1) := by decide +kernel
theorem dL_law_671 : decode cL_law 671 = .ok (.invokevirtual 86, 3) := by decide +kernel
theorem dL_law_674 : decode cL_law 674 = .ok (.if_icmp .eq 643, 3) := by decide +kernel
theorem dL_law_677 : decode cL_law 677 = .ok (.iconst 0, 1) := by decide +kernel
theorem dL_law_678 : decode cL_law 678 = .ok (.ireturn, 1) := by decide +kernel
theorem dL_law_679 : decode cL_law 679 = .ok (.aload_n 1, 1) := by decide +kernel
theorem dL_law_680 : decode cL_law 680 = .ok (.aload_n 0, 1) := by decide +kernel
theorem dL_law_681 : decode cL_law 681 = .ok (.iload_n 3, 1) := by decide +kernel
theorem dL_law_682 : decode cL_law 682 = .ok (.iconst 1, 1) := by decide +kernel
theorem dL_law_683 : decode cL_law 683 = .ok (.iadd, 1) := by decide +kernel
theorem dL_law_684 : decode cL_law 684 = .ok (.iaload, 1) := by decide +kernel
theorem dL_law_685 : decode cL_law 685 = .ok (.aload_n 0, 1) := by decide +kernel
theorem dL_law_686 : decode cL_law 686 = .ok (.iload_n 3, 1) := by decide +kernel
theorem dL_law_687 : decode cL_law 687 = .ok (.iconst 2, 1) := by decide +kernel
theorem dL_law_688 : decode cL_law 688 = .ok (.iadd, 1) := by decide +kernel
theorem dL_law_689 : decode cL_law 689 = .ok (.iaload, 1) := by decide +kernel
theorem dL_law_690 : decode cL_law 690 = .ok (.aload_n 0, 1) := by decide +kernel
theorem dL_law_691 : decode cL_law 691 = .ok (.iload_n 3, 1) := by decide +kernel
theorem dL_law_692 : decode cL_law 692 = .ok (.iconst 3, 1) := by decide +kernel
theorem dL_law_693 : decode cL_law 693 = .ok (.iadd, 1) := by decide +kernel
theorem dL_law_694 : decode cL_law 694 = .ok (.iaload, 1) := by decide +kernel
theorem dL_law_695 : decode cL_law 695 = .ok (.invokevirtual 87, 3) := by decide +kernel
theorem dL_law_698 : decode cL_law 698 = .ok (.aload_n 2, 1) := by decide +kernel
theorem dL_law_699 : decode cL_law 699 = .ok (.aload_n 0, 1) := by decide +kernel
theorem dL_law_700 : decode cL_law 700 = .ok (.iload_n 3, 1) := by decide +kernel
theorem dL_law_701 : decode cL_law 701 = .ok (.iconst 1, 1) := by decide +kernel
theorem dL_law_702 : decode cL_law 702 = .ok (.iadd, 1) := by decide +kernel
theorem dL_law_703 : decode cL_law 703 = .ok (.iaload, 1) := by decide +kernel
theorem dL_law_704 : decode cL_law 704 = .ok (.aload_n 0, 1) := by decide +kernel
theorem dL_law_705 : decode cL_law 705 = .ok (.iload_n 3, 1) := by decide +kernel
theorem dL_law_706 : decode cL_law 706 = .ok (.iconst 2, 1) := by decide +kernel
theorem dL_law_707 : decode cL_law 707 = .ok (.iadd, 1) := by decide +kernel
theorem dL_law_708 : decode cL_law 708 = .ok (.iaload, 1) := by decide +kernel
theorem dL_law_709 : decode cL_law 709 = .ok (.aload_n 0, 1) := by decide +kernel
theorem dL_law_710 : decode cL_law 710 = .ok (.iload_n 3, 1) := by decide +kernel
theorem dL_law_711 : decode cL_law 711 = .ok (.iconst 3, 1) := by decide +kernel
theorem dL_law_712 : decode cL_law 712 = .ok (.iadd, 1) := by decide +kernel
theorem dL_law_713 : decode cL_law 713 = .ok (.iaload, 1) := by decide +kernel
theorem dL_law_714 : decode cL_law 714 = .ok (.invokevirtual 90, 3) := by decide +kernel
theorem dL_law_717 : decode cL_law 717 = .ok (.if_icmp .eq 600, 3) := by decide +kernel
theorem dL_law_720 : decode cL_law 720 = .ok (.iconst 0, 1) := by decide +kernel
theorem dL_law_721 : decode cL_law 721 = .ok (.ireturn, 1) := by decide +kernel
theorem dL_law_722 : decode cL_law 722 = .ok (.aload_n 1, 1) := by decide +kernel
theorem dL_law_723 : decode cL_law 723 = .ok (.aload_n 0, 1) := by decide +kernel
theorem dL_law_724 : decode cL_law 724 = .ok (.iload_n 3, 1) := by decide +kernel
theorem dL_law_725 : decode cL_law 725 = .ok (.iconst 1, 1) := by decide +kernel
theorem dL_law_726 : decode cL_law 726 = .ok (.iadd, 1) := by decide +kernel
theorem dL_law_727 : decode cL_law 727 = .ok (.iaload, 1) := by decide +kernel
theorem dL_law_728 : decode cL_law 728 = .ok (.aload_n 0, 1) := by decide +kernel
theorem dL_law_729 : decode cL_law 729 = .ok (.iload_n 3, 1) := by decide +kernel
theorem dL_law_730 : decode cL_law 730 = .ok (.iconst 2, 1) := by decide +kernel
theorem dL_law_731 : decode cL_law 731 = .ok (.iadd, 1) := by decide +kernel
theorem dL_law_732 : decode cL_law 732 = .ok (.iaload, 1) := by decide +kernel
theorem dL_law_733 : decode cL_law 733 = .ok (.aload_n 0, 1) := by decide +kernel
theorem dL_law_734 : decode cL_law 734 = .ok (.iload_n 3, 1) := by decide +kernel
theorem dL_law_735 : decode cL_law 735 = .ok (.iconst 3, 1) := by decide +kernel
theorem dL_law_736 : decode cL_law 736 = .ok (.iadd, 1) := by decide +kernel
theorem dL_law_737 : decode cL_law 737 = .ok (.iaload, 1) := by decide +kernel
theorem dL_law_738 : decode cL_law 738 = .ok (.invokevirtual 91, 3) := by decide +kernel
theorem dL_law_741 : decode cL_law 741 = .ok (.aload_n 2, 1) := by decide +kernel
theorem dL_law_742 : decode cL_law 742 = .ok (.aload_n 0, 1) := by decide +kernel
theorem dL_law_743 : decode cL_law 743 = .ok (.iload_n 3, 1) := by decide +kernel
theorem dL_law_744 : decode cL_law 744 = .ok (.iconst 1, 1) := by decide +kernel
theorem dL_law_745 : decode cL_law 745 = .ok (.iadd, 1) := by decide +kernel
theorem dL_law_746 : decode cL_law 746 = .ok (.iaload, 1) := by decide +kernel
theorem dL_law_747 : decode cL_law 747 = .ok (.aload_n 0, 1) := by decide +kernel
theorem dL_law_748 : decode cL_law 748 = .ok (.iload_n 3, 1) := by decide +kernel
theorem dL_law_749 : decode cL_law 749 = .ok (.iconst 2, 1) := by decide +kernel
theorem dL_law_750 : decode cL_law 750 = .ok (.iadd, 1) := by decide +kernel
theorem dL_law_751 : decode cL_law 751 = .ok (.iaload, 1) := by decide +kernel
theorem dL_law_752 : decode cL_law 752 = .ok (.aload_n 0, 1) := by decide +kernel
theorem dL_law_753 : decode cL_law 753 = .ok (.iload_n 3, 1) := by decide +kernel
theorem dL_law_754 : decode cL_law 754 = .ok (.iconst 3, 1) := by decide +kernel
theorem dL_law_755 : decode cL_law 755 = .ok (.iadd, 1) := by decide +kernel
theorem dL_law_756 : decode cL_law 756 = .ok (.iaload, 1) := by decide +kernel
theorem dL_law_757 : decode cL_law 757 = .ok (.invokevirtual 94, 3) := by decide +kernel
theorem dL_law_760 : decode cL_law 760 = .ok (.if_icmp .eq 557, 3) := by decide +kernel
theorem dL_law_763 : decode cL_law 763 = .ok (.iconst 0, 1) := by decide +kernel
theorem dL_law_764 : decode cL_law 764 = .ok (.ireturn, 1) := by decide +kernel
theorem dL_law_765 : decode cL_law 765 = .ok (.aload_n 1, 1) := by decide +kernel
theorem dL_law_766 : decode cL_law 766 = .ok (.aload_n 0, 1) := by decide +kernel
theorem dL_law_767 : decode cL_law 767 = .ok (.iload_n 3, 1) := by decide +kernel
theorem dL_law_768 : decode cL_law 768 = .ok (.iconst 1, 1) := by decide +kernel
theorem dL_law_769 : decode cL_law 769 = .ok (.iadd, 1) := by decide +kernel
theorem dL_law_770 : decode cL_law 770 = .ok (.iaload, 1) := by decide +kernel
theorem dL_law_771 : decode cL_law 771 = .ok (.aload_n 0, 1) := by decide +kernel
theorem dL_law_772 : decode cL_law 772 = .ok (.iload_n 3, 1) := by decide +kernel
theorem dL_law_773 : decode cL_law 773 = .ok (.iconst 2, 1) := by decide +kernel
theorem dL_law_774 : decode cL_law 774 = .ok (.iadd, 1) := by decide +kernel
theorem dL_law_775 : decode cL_law 775 = .ok (.iaload, 1) := by decide +kernel
theorem dL_law_776 : decode cL_law 776 = .ok (.aload_n 0, 1) := by decide +kernel
theorem dL_law_777 : decode cL_law 777 = .ok (.iload_n 3, 1) := by decide +kernel
theorem dL_law_778 : decode cL_law 778 = .ok (.iconst 3, 1) := by decide +kernel
theorem dL_law_779 : decode cL_law 779 = .ok (.iadd, 1) := by decide +kernel
theorem dL_law_780 : decode cL_law 780 = .ok (.iaload, 1) := by decide +kernel
theorem dL_law_781 : decode cL_law 781 = .ok (.invokevirtual 95, 3) := by decide +kernel
theorem dL_law_784 : decode cL_law 784 = .ok (.aload_n 2, 1) := by decide +kernel
theorem dL_law_785 : decode cL_law 785 = .ok (.aload_n 0, 1) := by decide +kernel
theorem dL_law_786 : decode cL_law 786 = .ok (.iload_n 3, 1) := by decide +kernel
theorem dL_law_787 : decode cL_law 787 = .ok (.iconst 1, 1) := by decide +kernel
theorem dL_law_788 : decode cL_law 788 = .ok (.iadd, 1) := by decide +kernel
theorem dL_law_789 : decode cL_law 789 = .ok (.iaload, 1) := by decide +kernel
theorem dL_law_790 : decode cL_law 790 = .ok (.aload_n 0, 1) := by decide +kernel
theorem dL_law_791 : decode cL_law 791 = .ok (.iload_n 3, 1) := by decide +kernel
theorem dL_law_792 : decode cL_law 792 = .ok (.iconst 2, 1) := by decide +kernel
theorem dL_law_793 : decode cL_law 793 = .ok (.iadd, 1) := by decide +kernel
theorem dL_law_794 : decode cL_law 794 = .ok (.iaload, 1) := by decide +kernel
theorem dL_law_795 : decode cL_law 795 = .ok (.aload_n 0, 1) := by decide +kernel
theorem dL_law_796 : decode cL_law 796 = .ok (.iload_n 3, 1) := by decide +kernel
theorem dL_law_797 : decode cL_law 797 = .ok (.iconst 3, 1) := by decide +kernel
theorem dL_law_798 : decode cL_law 798 = .ok (.iadd, 1) := by decide +kernel
theorem dL_law_799 : decode cL_law 799 = .ok (.iaload, 1) := by decide +kernel
theorem dL_law_800 : decode cL_law 800 = .ok (.invokevirtual 98, 3) := by decide +kernel
theorem dL_law_803 : decode cL_law 803 = .ok (.if_icmp .eq 514, 3) := by decide +kernel
theorem dL_law_806 : decode cL_law 806 = .ok (.iconst 0, 1) := by decide +kernel
theorem dL_law_807 : decode cL_law 807 = .ok (.ireturn, 1) := by decide +kernel
theorem dL_law_808 : decode cL_law 808 = .ok (.aload_n 1, 1) := by decide +kernel
theorem dL_law_809 : decode cL_law 809 = .ok (.aload_n 0, 1) := by decide +kernel
theorem dL_law_810 : decode cL_law 810 = .ok (.iload_n 3, 1) := by decide +kernel
theorem dL_law_811 : decode cL_law 811 = .ok (.iconst 1, 1) := by decide +kernel
theorem dL_law_812 : decode cL_law 812 = .ok (.iadd, 1) := by decide +kernel
theorem dL_law_813 : decode cL_law 813 = .ok (.iaload, 1) := by decide +kernel
theorem dL_law_814 : decode cL_law 814 = .ok (.aload_n 0, 1) := by decide +kernel
theorem dL_law_815 : decode cL_law 815 = .ok (.iload_n 3, 1) := by decide +kernel
theorem dL_law_816 : decode cL_law 816 = .ok (.iconst 2, 1) := by decide +kernel
theorem dL_law_817 : decode cL_law 817 = .ok (.iadd, 1) := by decide +kernel
theorem dL_law_818 : decode cL_law 818 = .ok (.iaload, 1) := by decide +kernel
theorem dL_law_819 : decode cL_law 819 = .ok (.aload_n 0, 1) := by decide +kernel
theorem dL_law_820 : decode cL_law 820 = .ok (.iload_n 3, 1) := by decide +kernel
theorem dL_law_821 : decode cL_law 821 = .ok (.iconst 3, 1) := by decide +kernel
theorem dL_law_822 : decode cL_law 822 = .ok (.iadd, 1) := by decide +kernel
theorem dL_law_823 : decode cL_law 823 = .ok (.iaload, 1) := by decide +kernel
theorem dL_law_824 : decode cL_law 824 = .ok (.invokevirtual 99, 3) := by decide +kernel
theorem dL_law_827 : decode cL_law 827 = .ok (.aload_n 2, 1) := by decide +kernel
theorem dL_law_828 : decode cL_law 828 = .ok (.aload_n 0, 1) := by decide +kernel
theorem dL_law_829 : decode cL_law 829 = .ok (.iload_n 3, 1) := by decide +kernel
theorem dL_law_830 : decode cL_law 830 = .ok (.iconst 1, 1) := by decide +kernel
theorem dL_law_831 : decode cL_law 831 = .ok (.iadd, 1) := by decide +kernel
theorem dL_law_832 : decode cL_law 832 = .ok (.iaload, 1) := by decide +kernel
theorem dL_law_833 : decode cL_law 833 = .ok (.aload_n 0, 1) := by decide +kernel
theorem dL_law_834 : decode cL_law 834 = .ok (.iload_n 3, 1) := by decide +kernel
theorem dL_law_835 : decode cL_law 835 = .ok (.iconst 2, 1) := by decide +kernel
theorem dL_law_836 : decode cL_law 836 = .ok (.iadd, 1) := by decide +kernel
theorem dL_law_837 : decode cL_law 837 = .ok (.iaload, 1) := by decide +kernel
theorem dL_law_838 : decode cL_law 838 = .ok (.aload_n 0, 1) := by decide +kernel
theorem dL_law_839 : decode cL_law 839 = .ok (.iload_n 3, 1) := by decide +kernel
theorem dL_law_840 : decode cL_law 840 = .ok (.iconst 3, 1) := by decide +kernel
theorem dL_law_841 : decode cL_law 841 = .ok (.iadd, 1) := by decide +kernel
theorem dL_law_842 : decode cL_law 842 = .ok (.iaload, 1) := by decide +kernel
theorem dL_law_843 : decode cL_law 843 = .ok (.invokevirtual 102, 3) := by decide +kernel
theorem dL_law_846 : decode cL_law 846 = .ok (.if_icmp .eq 471, 3) := by decide +kernel
theorem dL_law_849 : decode cL_law 849 = .ok (.iconst 0, 1) := by decide +kernel
theorem dL_law_850 : decode cL_law 850 = .ok (.ireturn, 1) := by decide +kernel
theorem dL_law_851 : decode cL_law 851 = .ok (.aload_n 1, 1) := by decide +kernel
theorem dL_law_852 : decode cL_law 852 = .ok (.aload_n 0, 1) := by decide +kernel
theorem dL_law_853 : decode cL_law 853 = .ok (.iload_n 3, 1) := by decide +kernel
theorem dL_law_854 : decode cL_law 854 = .ok (.iconst 1, 1) := by decide +kernel
theorem dL_law_855 : decode cL_law 855 = .ok (.iadd, 1) := by decide +kernel
theorem dL_law_856 : decode cL_law 856 = .ok (.iaload, 1) := by decide +kernel
theorem dL_law_857 : decode cL_law 857 = .ok (.aload_n 0, 1) := by decide +kernel
theorem dL_law_858 : decode cL_law 858 = .ok (.iload_n 3, 1) := by decide +kernel
theorem dL_law_859 : decode cL_law 859 = .ok (.iconst 2, 1) := by decide +kernel
theorem dL_law_860 : decode cL_law 860 = .ok (.iadd, 1) := by decide +kernel
theorem dL_law_861 : decode cL_law 861 = .ok (.iaload, 1) := by decide +kernel
theorem dL_law_862 : decode cL_law 862 = .ok (.aload_n 0, 1) := by decide +kernel
theorem dL_law_863 : decode cL_law 863 = .ok (.iload_n 3, 1) := by decide +kernel
theorem dL_law_864 : decode cL_law 864 = .ok (.iconst 3, 1) := by decide +kernel
theorem dL_law_865 : decode cL_law 865 = .ok (.iadd, 1) := by decide +kernel
theorem dL_law_866 : decode cL_law 866 = .ok (.iaload, 1) := by decide +kernel
theorem dL_law_867 : decode cL_law 867 = .ok (.invokevirtual 103, 3) := by decide +kernel
theorem dL_law_870 : decode cL_law 870 = .ok (.aload_n 2, 1) := by decide +kernel
theorem dL_law_871 : decode cL_law 871 = .ok (.aload_n 0, 1) := by decide +kernel
theorem dL_law_872 : decode cL_law 872 = .ok (.iload_n 3, 1) := by decide +kernel
theorem dL_law_873 : decode cL_law 873 = .ok (.iconst 1, 1) := by decide +kernel
theorem dL_law_874 : decode cL_law 874 = .ok (.iadd, 1) := by decide +kernel
theorem dL_law_875 : decode cL_law 875 = .ok (.iaload, 1) := by decide +kernel
theorem dL_law_876 : decode cL_law 876 = .ok (.aload_n 0, 1) := by decide +kernel
theorem dL_law_877 : decode cL_law 877 = .ok (.iload_n 3, 1) := by decide +kernel
theorem dL_law_878 : decode cL_law 878 = .ok (.iconst 2, 1) := by decide +kernel
theorem dL_law_879 : decode cL_law 879 = .ok (.iadd, 1) := by decide +kernel
theorem dL_law_880 : decode cL_law 880 = .ok (.iaload, 1) := by decide +kernel
theorem dL_law_881 : decode cL_law 881 = .ok (.aload_n 0, 1) := by decide +kernel
theorem dL_law_882 : decode cL_law 882 = .ok (.iload_n 3, 1) := by decide +kernel
theorem dL_law_883 : decode cL_law 883 = .ok (.iconst 3, 1) := by decide +kernel
theorem dL_law_884 : decode cL_law 884 = .ok (.iadd, 1) := by decide +kernel
theorem dL_law_885 : decode cL_law 885 = .ok (.iaload, 1) := by decide +kernel
theorem dL_law_886 : decode cL_law 886 = .ok (.invokevirtual 106, 3) := by decide +kernel
theorem dL_law_889 : decode cL_law 889 = .ok (.if_icmp .eq 428, 3) := by decide +kernel
theorem dL_law_892 : decode cL_law 892 = .ok (.iconst 0, 1) := by decide +kernel
theorem dL_law_893 : decode cL_law 893 = .ok (.ireturn, 1) := by decide +kernel
theorem dL_law_894 : decode cL_law 894 = .ok (.aload_n 1, 1) := by decide +kernel
theorem dL_law_895 : decode cL_law 895 = .ok (.aload_n 0, 1) := by decide +kernel
theorem dL_law_896 : decode cL_law 896 = .ok (.iload_n 3, 1) := by decide +kernel
theorem dL_law_897 : decode cL_law 897 = .ok (.iconst 1, 1) := by decide +kernel
theorem dL_law_898 : decode cL_law 898 = .ok (.iadd, 1) := by decide +kernel
theorem dL_law_899 : decode cL_law 899 = .ok (.iaload, 1) := by decide +kernel
theorem dL_law_900 : decode cL_law 900 = .ok (.invokevirtual 107, 3) := by decide +kernel
theorem dL_law_903 : decode cL_law 903 = .ok (.aload_n 2, 1) := by decide +kernel
theorem dL_law_904 : decode cL_law 904 = .ok (.aload_n 0, 1) := by decide +kernel
theorem dL_law_905 : decode cL_law 905 = .ok (.iload_n 3, 1) := by decide +kernel
theorem dL_law_906 : decode cL_law 906 = .ok (.iconst 1, 1) := by decide +kernel
theorem dL_law_907 : decode cL_law 907 = .ok (.iadd, 1) := by decide +kernel
theorem dL_law_908 : decode cL_law 908 = .ok (.iaload, 1) := by decide +kernel
theorem dL_law_909 : decode cL_law 909 = .ok (.invokevirtual 110, 3) := by decide +kernel
theorem dL_law_912 : decode cL_law 912 = .ok (.if_icmp .eq 405, 3) := by decide +kernel
theorem dL_law_915 : decode cL_law 915 = .ok (.iconst 0, 1) := by decide +kernel
theorem dL_law_916 : decode cL_law 916 = .ok (.ireturn, 1) := by decide +kernel
theorem dL_law_917 : decode cL_law 917 = .ok (.aload_n 1, 1) := by decide +kernel
theorem dL_law_918 : decode cL_law 918 = .ok (.aload_n 0, 1) := by decide +kernel
theorem dL_law_919 : decode cL_law 919 = .ok (.iload_n 3, 1) := by decide +kernel
theorem dL_law_920 : decode cL_law 920 = .ok (.iconst 1, 1) := by decide +kernel
theorem dL_law_921 : decode cL_law 921 = .ok (.iadd, 1) := by decide +kernel
theorem dL_law_922 : decode cL_law 922 = .ok (.iaload, 1) := by decide +kernel
theorem dL_law_923 : decode cL_law 923 = .ok (.aload_n 0, 1) := by decide +kernel
theorem dL_law_924 : decode cL_law 924 = .ok (.iload_n 3, 1) := by decide +kernel
theorem dL_law_925 : decode cL_law 925 = .ok (.iconst 2, 1) := by decide +kernel
theorem dL_law_926 : decode cL_law 926 = .ok (.iadd, 1) := by decide +kernel
theorem dL_law_927 : decode cL_law 927 = .ok (.iaload, 1) := by decide +kernel
theorem dL_law_928 : decode cL_law 928 = .ok (.aload_n 0, 1) := by decide +kernel
theorem dL_law_929 : decode cL_law 929 = .ok (.iload_n 3, 1) := by decide +kernel
theorem dL_law_930 : decode cL_law 930 = .ok (.iconst 3, 1) := by decide +kernel
theorem dL_law_931 : decode cL_law 931 = .ok (.iadd, 1) := by decide +kernel
theorem dL_law_932 : decode cL_law 932 = .ok (.iaload, 1) := by decide +kernel
theorem dL_law_933 : decode cL_law 933 = .ok (.invokevirtual 111, 3) := by decide +kernel
theorem dL_law_936 : decode cL_law 936 = .ok (.aload_n 2, 1) := by decide +kernel
theorem dL_law_937 : decode cL_law 937 = .ok (.aload_n 0, 1) := by decide +kernel
theorem dL_law_938 : decode cL_law 938 = .ok (.iload_n 3, 1) := by decide +kernel
theorem dL_law_939 : decode cL_law 939 = .ok (.iconst 1, 1) := by decide +kernel
theorem dL_law_940 : decode cL_law 940 = .ok (.iadd, 1) := by decide +kernel
theorem dL_law_941 : decode cL_law 941 = .ok (.iaload, 1) := by decide +kernel
theorem dL_law_942 : decode cL_law 942 = .ok (.aload_n 0, 1) := by decide +kernel
theorem dL_law_943 : decode cL_law 943 = .ok (.iload_n 3, 1) := by decide +kernel
theorem dL_law_944 : decode cL_law 944 = .ok (.iconst 2, 1) := by decide +kernel
theorem dL_law_945 : decode cL_law 945 = .ok (.iadd, 1) := by decide +kernel
theorem dL_law_946 : decode cL_law 946 = .ok (.iaload, 1) := by decide +kernel
theorem dL_law_947 : decode cL_law 947 = .ok (.aload_n 0, 1) := by decide +kernel
theorem dL_law_948 : decode cL_law 948 = .ok (.iload_n 3, 1) := by decide +kernel
theorem dL_law_949 : decode cL_law 949 = .ok (.iconst 3, 1) := by decide +kernel
theorem dL_law_950 : decode cL_law 950 = .ok (.iadd, 1) := by decide +kernel
theorem dL_law_951 : decode cL_law 951 = .ok (.iaload, 1) := by decide +kernel
theorem dL_law_952 : decode cL_law 952 = .ok (.invokevirtual 114, 3) := by decide +kernel
theorem dL_law_955 : decode cL_law 955 = .ok (.if_icmp .eq 362, 3) := by decide +kernel
theorem dL_law_958 : decode cL_law 958 = .ok (.iconst 0, 1) := by decide +kernel
theorem dL_law_959 : decode cL_law 959 = .ok (.ireturn, 1) := by decide +kernel
theorem dL_law_960 : decode cL_law 960 = .ok (.aload_n 1, 1) := by decide +kernel
theorem dL_law_961 : decode cL_law 961 = .ok (.aload_n 0, 1) := by decide +kernel
theorem dL_law_962 : decode cL_law 962 = .ok (.iload_n 3, 1) := by decide +kernel
theorem dL_law_963 : decode cL_law 963 = .ok (.iconst 1, 1) := by decide +kernel
theorem dL_law_964 : decode cL_law 964 = .ok (.iadd, 1) := by decide +kernel
theorem dL_law_965 : decode cL_law 965 = .ok (.iaload, 1) := by decide +kernel
theorem dL_law_966 : decode cL_law 966 = .ok (.aload_n 0, 1) := by decide +kernel
theorem dL_law_967 : decode cL_law 967 = .ok (.iload_n 3, 1) := by decide +kernel
theorem dL_law_968 : decode cL_law 968 = .ok (.iconst 2, 1) := by decide +kernel
theorem dL_law_969 : decode cL_law 969 = .ok (.iadd, 1) := by decide +kernel
theorem dL_law_970 : decode cL_law 970 = .ok (.iaload, 1) := by decide +kernel
theorem dL_law_971 : decode cL_law 971 = .ok (.aload_n 0, 1) := by decide +kernel
theorem dL_law_972 : decode cL_law 972 = .ok (.iload_n 3, 1) := by decide +kernel
theorem dL_law_973 : decode cL_law 973 = .ok (.iconst 3, 1) := by decide +kernel
theorem dL_law_974 : decode cL_law 974 = .ok (.iadd, 1) := by decide +kernel
theorem dL_law_975 : decode cL_law 975 = .ok (.iaload, 1) := by decide +kernel
theorem dL_law_976 : decode cL_law 976 = .ok (.invokevirtual 115, 3) := by decide +kernel
theorem dL_law_979 : decode cL_law 979 = .ok (.aload_n 2, 1) := by decide +kernel
theorem dL_law_980 : decode cL_law 980 = .ok (.aload_n 0, 1) := by decide +kernel
theorem dL_law_981 : decode cL_law 981 = .ok (.iload_n 3, 1) := by decide +kernel
theorem dL_law_982 : decode cL_law 982 = .ok (.iconst 1, 1) := by decide +kernel
theorem dL_law_983 : decode cL_law 983 = .ok (.iadd, 1) := by decide +kernel
theorem dL_law_984 : decode cL_law 984 = .ok (.iaload, 1) := by decide +kernel
theorem dL_law_985 : decode cL_law 985 = .ok (.aload_n 0, 1) := by decide +kernel
theorem dL_law_986 : decode cL_law 986 = .ok (.iload_n 3, 1) := by decide +kernel
theorem dL_law_987 : decode cL_law 987 = .ok (.iconst 2, 1) := by decide +kernel
theorem dL_law_988 : decode cL_law 988 = .ok (.iadd, 1) := by decide +kernel
theorem dL_law_989 : decode cL_law 989 = .ok (.iaload, 1) := by decide +kernel
theorem dL_law_990 : decode cL_law 990 = .ok (.aload_n 0, 1) := by decide +kernel
theorem dL_law_991 : decode cL_law 991 = .ok (.iload_n 3, 1) := by decide +kernel
theorem dL_law_992 : decode cL_law 992 = .ok (.iconst 3, 1) := by decide +kernel
theorem dL_law_993 : decode cL_law 993 = .ok (.iadd, 1) := by decide +kernel
theorem dL_law_994 : decode cL_law 994 = .ok (.iaload, 1) := by decide +kernel
theorem dL_law_995 : decode cL_law 995 = .ok (.invokevirtual 118, 3) := by decide +kernel
theorem dL_law_998 : decode cL_law 998 = .ok (.if_icmp .eq 319, 3) := by decide +kernel
theorem dL_law_1001 : decode cL_law 1001 = .ok (.iconst 0, 1) := by decide +kernel
theorem dL_law_1002 : decode cL_law 1002 = .ok (.ireturn, 1) := by decide +kernel
theorem dL_law_1003 : decode cL_law 1003 = .ok (.aload_n 1, 1) := by decide +kernel
theorem dL_law_1004 : decode cL_law 1004 = .ok (.aload_n 0, 1) := by decide +kernel
theorem dL_law_1005 : decode cL_law 1005 = .ok (.iload_n 3, 1) := by decide +kernel
theorem dL_law_1006 : decode cL_law 1006 = .ok (.iconst 1, 1) := by decide +kernel
theorem dL_law_1007 : decode cL_law 1007 = .ok (.iadd, 1) := by decide +kernel
theorem dL_law_1008 : decode cL_law 1008 = .ok (.iaload, 1) := by decide +kernel
theorem dL_law_1009 : decode cL_law 1009 = .ok (.aload_n 0, 1) := by decide +kernel
theorem dL_law_1010 : decode cL_law 1010 = .ok (.iload_n 3, 1) := by decide +kernel
theorem dL_law_1011 : decode cL_law 1011 = .ok (.iconst 2, 1) := by decide +kernel
theorem dL_law_1012 : decode cL_law 1012 = .ok (.iadd, 1) := by decide +kernel
theorem dL_law_1013 : decode cL_law 1013 = .ok (.iaload, 1) := by decide +kernel
theorem dL_law_1014 : decode cL_law 1014 = .ok (.invokevirtual 119, 3) := by decide +kernel
theorem dL_law_1017 : decode cL_law 1017 = .ok (.aload_n 2, 1) := by decide +kernel
theorem dL_law_1018 : decode cL_law 1018 = .ok (.aload_n 0, 1) := by decide +kernel
theorem dL_law_1019 : decode cL_law 1019 = .ok (.iload_n 3, 1) := by decide +kernel
theorem dL_law_1020 : decode cL_law 1020 = .ok (.iconst 1, 1) := by decide +kernel
theorem dL_law_1021 : decode cL_law 1021 = .ok (.iadd, 1) := by decide +kernel
theorem dL_law_1022 : decode cL_law 1022 = .ok (.iaload, 1) := by decide +kernel
theorem dL_law_1023 : decode cL_law 1023 = .ok (.aload_n 0, 1) := by decide +kernel
theorem dL_law_1024 : decode cL_law 1024 = .ok (.iload_n 3, 1) := by decide +kernel
theorem dL_law_1025 : decode cL_law 1025 = .ok (.iconst 2, 1) := by decide +kernel
theorem dL_law_1026 : decode cL_law 1026 = .ok (.iadd, 1) := by decide +kernel
theorem dL_law_1027 : decode cL_law 1027 = .ok (.iaload, 1) := by decide +kernel
theorem dL_law_1028 : decode cL_law 1028 = .ok (.invokevirtual 122, 3) := by decide +kernel
theorem dL_law_1031 : decode cL_law 1031 = .ok (.if_icmp .eq 286, 3) := by decide +kernel
theorem dL_law_1034 : decode cL_law 1034 = .ok (.iconst 0, 1) := by decide +kernel
theorem dL_law_1035 : decode cL_law 1035 = .ok (.ireturn, 1) := by decide +kernel
theorem dL_law_1036 : decode cL_law 1036 = .ok (.aload_n 1, 1) := by decide +kernel
theorem dL_law_1037 : decode cL_law 1037 = .ok (.aload_n 0, 1) := by decide +kernel
theorem dL_law_1038 : decode cL_law 1038 = .ok (.iload_n 3, 1) := by decide +kernel
theorem dL_law_1039 : decode cL_law 1039 = .ok (.iconst 1, 1) := by decide +kernel
theorem dL_law_1040 : decode cL_law 1040 = .ok (.iadd, 1) := by decide +kernel
theorem dL_law_1041 : decode cL_law 1041 = .ok (.iaload, 1) := by decide +kernel
theorem dL_law_1042 : decode cL_law 1042 = .ok (.aload_n 0, 1) := by decide +kernel
theorem dL_law_1043 : decode cL_law 1043 = .ok (.iload_n 3, 1) := by decide +kernel
theorem dL_law_1044 : decode cL_law 1044 = .ok (.iconst 2, 1) := by decide +kernel
theorem dL_law_1045 : decode cL_law 1045 = .ok (.iadd, 1) := by decide +kernel
theorem dL_law_1046 : decode cL_law 1046 = .ok (.iaload, 1) := by decide +kernel
theorem dL_law_1047 : decode cL_law 1047 = .ok (.invokevirtual 123, 3) := by decide +kernel
theorem dL_law_1050 : decode cL_law 1050 = .ok (.aload_n 2, 1) := by decide +kernel
theorem dL_law_1051 : decode cL_law 1051 = .ok (.aload_n 0, 1) := by decide +kernel
theorem dL_law_1052 : decode cL_law 1052 = .ok (.iload_n 3, 1) := by decide +kernel
theorem dL_law_1053 : decode cL_law 1053 = .ok (.iconst 1, 1) := by decide +kernel
theorem dL_law_1054 : decode cL_law 1054 = .ok (.iadd, 1) := by decide +kernel
theorem dL_law_1055 : decode cL_law 1055 = .ok (.iaload, 1) := by decide +kernel
theorem dL_law_1056 : decode cL_law 1056 = .ok (.aload_n 0, 1) := by decide +kernel
theorem dL_law_1057 : decode cL_law 1057 = .ok (.iload_n 3, 1) := by decide +kernel
theorem dL_law_1058 : decode cL_law 1058 = .ok (.iconst 2, 1) := by decide +kernel
theorem dL_law_1059 : decode cL_law 1059 = .ok (.iadd, 1) := by decide +kernel
theorem dL_law_1060 : decode cL_law 1060 = .ok (.iaload, 1) := by decide +kernel
theorem dL_law_1061 : decode cL_law 1061 = .ok (.invokevirtual 126, 3) := by decide +kernel
theorem dL_law_1064 : decode cL_law 1064 = .ok (.if_icmp .eq 253, 3) := by decide +kernel
theorem dL_law_1067 : decode cL_law 1067 = .ok (.iconst 0, 1) := by decide +kernel
theorem dL_law_1068 : decode cL_law 1068 = .ok (.ireturn, 1) := by decide +kernel
theorem dL_law_1069 : decode cL_law 1069 = .ok (.aload_n 1, 1) := by decide +kernel
theorem dL_law_1070 : decode cL_law 1070 = .ok (.aload_n 0, 1) := by decide +kernel
theorem dL_law_1071 : decode cL_law 1071 = .ok (.iload_n 3, 1) := by decide +kernel
theorem dL_law_1072 : decode cL_law 1072 = .ok (.iconst 1, 1) := by decide +kernel
theorem dL_law_1073 : decode cL_law 1073 = .ok (.iadd, 1) := by decide +kernel
theorem dL_law_1074 : decode cL_law 1074 = .ok (.iaload, 1) := by decide +kernel
theorem dL_law_1075 : decode cL_law 1075 = .ok (.aload_n 0, 1) := by decide +kernel
theorem dL_law_1076 : decode cL_law 1076 = .ok (.iload_n 3, 1) := by decide +kernel
theorem dL_law_1077 : decode cL_law 1077 = .ok (.iconst 2, 1) := by decide +kernel
theorem dL_law_1078 : decode cL_law 1078 = .ok (.iadd, 1) := by decide +kernel
theorem dL_law_1079 : decode cL_law 1079 = .ok (.iaload, 1) := by decide +kernel
theorem dL_law_1080 : decode cL_law 1080 = .ok (.invokevirtual 127, 3) := by decide +kernel
theorem dL_law_1083 : decode cL_law 1083 = .ok (.aload_n 2, 1) := by decide +kernel
theorem dL_law_1084 : decode cL_law 1084 = .ok (.aload_n 0, 1) := by decide +kernel
theorem dL_law_1085 : decode cL_law 1085 = .ok (.iload_n 3, 1) := by decide +kernel
theorem dL_law_1086 : decode cL_law 1086 = .ok (.iconst 1, 1) := by decide +kernel
theorem dL_law_1087 : decode cL_law 1087 = .ok (.iadd, 1) := by decide +kernel
theorem dL_law_1088 : decode cL_law 1088 = .ok (.iaload, 1) := by decide +kernel
theorem dL_law_1089 : decode cL_law 1089 = .ok (.aload_n 0, 1) := by decide +kernel
theorem dL_law_1090 : decode cL_law 1090 = .ok (.iload_n 3, 1) := by decide +kernel
theorem dL_law_1091 : decode cL_law 1091 = .ok (.iconst 2, 1) := by decide +kernel
theorem dL_law_1092 : decode cL_law 1092 = .ok (.iadd, 1) := by decide +kernel
theorem dL_law_1093 : decode cL_law 1093 = .ok (.iaload, 1) := by decide +kernel
theorem dL_law_1094 : decode cL_law 1094 = .ok (.invokevirtual 130, 3) := by decide +kernel
theorem dL_law_1097 : decode cL_law 1097 = .ok (.if_icmp .eq 220, 3) := by decide +kernel
theorem dL_law_1100 : decode cL_law 1100 = .ok (.iconst 0, 1) := by decide +kernel
theorem dL_law_1101 : decode cL_law 1101 = .ok (.ireturn, 1) := by decide +kernel
theorem dL_law_1102 : decode cL_law 1102 = .ok (.aload_n 1, 1) := by decide +kernel
theorem dL_law_1103 : decode cL_law 1103 = .ok (.invokevirtual 131, 3) := by decide +kernel
theorem dL_law_1106 : decode cL_law 1106 = .ok (.aload_n 2, 1) := by decide +kernel
theorem dL_law_1107 : decode cL_law 1107 = .ok (.invokevirtual 134, 3) := by decide +kernel
theorem dL_law_1110 : decode cL_law 1110 = .ok (.if_icmp .eq 207, 3) := by decide +kernel
theorem dL_law_1113 : decode cL_law 1113 = .ok (.iconst 0, 1) := by decide +kernel
theorem dL_law_1114 : decode cL_law 1114 = .ok (.ireturn, 1) := by decide +kernel
theorem dL_law_1115 : decode cL_law 1115 = .ok (.aload_n 1, 1) := by decide +kernel
theorem dL_law_1116 : decode cL_law 1116 = .ok (.aload_n 0, 1) := by decide +kernel
theorem dL_law_1117 : decode cL_law 1117 = .ok (.iload_n 3, 1) := by decide +kernel
theorem dL_law_1118 : decode cL_law 1118 = .ok (.iconst 1, 1) := by decide +kernel
theorem dL_law_1119 : decode cL_law 1119 = .ok (.iadd, 1) := by decide +kernel
theorem dL_law_1120 : decode cL_law 1120 = .ok (.iaload, 1) := by decide +kernel
theorem dL_law_1121 : decode cL_law 1121 = .ok (.invokevirtual 135, 3) := by decide +kernel
theorem dL_law_1124 : decode cL_law 1124 = .ok (.aload_n 2, 1) := by decide +kernel
theorem dL_law_1125 : decode cL_law 1125 = .ok (.aload_n 0, 1) := by decide +kernel
theorem dL_law_1126 : decode cL_law 1126 = .ok (.iload_n 3, 1) := by decide +kernel
theorem dL_law_1127 : decode cL_law 1127 = .ok (.iconst 1, 1) := by decide +kernel
theorem dL_law_1128 : decode cL_law 1128 = .ok (.iadd, 1) := by decide +kernel
theorem dL_law_1129 : decode cL_law 1129 = .ok (.iaload, 1) := by decide +kernel
theorem dL_law_1130 : decode cL_law 1130 = .ok (.invokevirtual 138, 3) := by decide +kernel
theorem dL_law_1133 : decode cL_law 1133 = .ok (.if_icmp .eq 184, 3) := by decide +kernel
theorem dL_law_1136 : decode cL_law 1136 = .ok (.iconst 0, 1) := by decide +kernel
theorem dL_law_1137 : decode cL_law 1137 = .ok (.ireturn, 1) := by decide +kernel
theorem dL_law_1138 : decode cL_law 1138 = .ok (.aload_n 1, 1) := by decide +kernel
theorem dL_law_1139 : decode cL_law 1139 = .ok (.invokevirtual 139, 3) := by decide +kernel
theorem dL_law_1142 : decode cL_law 1142 = .ok (.aload_n 2, 1) := by decide +kernel
theorem dL_law_1143 : decode cL_law 1143 = .ok (.invokevirtual 142, 3) := by decide +kernel
theorem dL_law_1146 : decode cL_law 1146 = .ok (.if_icmp .eq 171, 3) := by decide +kernel
theorem dL_law_1149 : decode cL_law 1149 = .ok (.iconst 0, 1) := by decide +kernel
theorem dL_law_1150 : decode cL_law 1150 = .ok (.ireturn, 1) := by decide +kernel
theorem dL_law_1151 : decode cL_law 1151 = .ok (.aload_n 1, 1) := by decide +kernel
theorem dL_law_1152 : decode cL_law 1152 = .ok (.aload_n 0, 1) := by decide +kernel
theorem dL_law_1153 : decode cL_law 1153 = .ok (.iload_n 3, 1) := by decide +kernel
theorem dL_law_1154 : decode cL_law 1154 = .ok (.iconst 1, 1) := by decide +kernel
theorem dL_law_1155 : decode cL_law 1155 = .ok (.iadd, 1) := by decide +kernel
theorem dL_law_1156 : decode cL_law 1156 = .ok (.iaload, 1) := by decide +kernel
theorem dL_law_1157 : decode cL_law 1157 = .ok (.aload_n 0, 1) := by decide +kernel
theorem dL_law_1158 : decode cL_law 1158 = .ok (.iload_n 3, 1) := by decide +kernel
theorem dL_law_1159 : decode cL_law 1159 = .ok (.iconst 2, 1) := by decide +kernel
theorem dL_law_1160 : decode cL_law 1160 = .ok (.iadd, 1) := by decide +kernel
theorem dL_law_1161 : decode cL_law 1161 = .ok (.iaload, 1) := by decide +kernel
theorem dL_law_1162 : decode cL_law 1162 = .ok (.aload_n 0, 1) := by decide +kernel
theorem dL_law_1163 : decode cL_law 1163 = .ok (.iload_n 3, 1) := by decide +kernel
theorem dL_law_1164 : decode cL_law 1164 = .ok (.iconst 3, 1) := by decide +kernel
theorem dL_law_1165 : decode cL_law 1165 = .ok (.iadd, 1) := by decide +kernel
theorem dL_law_1166 : decode cL_law 1166 = .ok (.iaload, 1) := by decide +kernel
theorem dL_law_1167 : decode cL_law 1167 = .ok (.aload_n 0, 1) := by decide +kernel
theorem dL_law_1168 : decode cL_law 1168 = .ok (.iload_n 3, 1) := by decide +kernel
theorem dL_law_1169 : decode cL_law 1169 = .ok (.iconst 4, 1) := by decide +kernel
theorem dL_law_1170 : decode cL_law 1170 = .ok (.iadd, 1) := by decide +kernel
theorem dL_law_1171 : decode cL_law 1171 = .ok (.iaload, 1) := by decide +kernel
theorem dL_law_1172 : decode cL_law 1172 = .ok (.invokevirtual 143, 3) := by decide +kernel
theorem dL_law_1175 : decode cL_law 1175 = .ok (.aload_n 2, 1) := by decide +kernel
theorem dL_law_1176 : decode cL_law 1176 = .ok (.aload_n 0, 1) := by decide +kernel
theorem dL_law_1177 : decode cL_law 1177 = .ok (.iload_n 3, 1) := by decide +kernel
theorem dL_law_1178 : decode cL_law 1178 = .ok (.iconst 1, 1) := by decide +kernel
theorem dL_law_1179 : decode cL_law 1179 = .ok (.iadd, 1) := by decide +kernel
theorem dL_law_1180 : decode cL_law 1180 = .ok (.iaload, 1) := by decide +kernel
theorem dL_law_1181 : decode cL_law 1181 = .ok (.aload_n 0, 1) := by decide +kernel
theorem dL_law_1182 : decode cL_law 1182 = .ok (.iload_n 3, 1) := by decide +kernel
theorem dL_law_1183 : decode cL_law 1183 = .ok (.iconst 2, 1) := by decide +kernel
theorem dL_law_1184 : decode cL_law 1184 = .ok (.iadd, 1) := by decide +kernel
theorem dL_law_1185 : decode cL_law 1185 = .ok (.iaload, 1) := by decide +kernel
theorem dL_law_1186 : decode cL_law 1186 = .ok (.aload_n 0, 1) := by decide +kernel
theorem dL_law_1187 : decode cL_law 1187 = .ok (.iload_n 3, 1) := by decide +kernel
theorem dL_law_1188 : decode cL_law 1188 = .ok (.iconst 3, 1) := by decide +kernel
theorem dL_law_1189 : decode cL_law 1189 = .ok (.iadd, 1) := by decide +kernel
theorem dL_law_1190 : decode cL_law 1190 = .ok (.iaload, 1) := by decide +kernel
theorem dL_law_1191 : decode cL_law 1191 = .ok (.aload_n 0, 1) := by decide +kernel
theorem dL_law_1192 : decode cL_law 1192 = .ok (.iload_n 3, 1) := by decide +kernel
theorem dL_law_1193 : decode cL_law 1193 = .ok (.iconst 4, 1) := by decide +kernel
theorem dL_law_1194 : decode cL_law 1194 = .ok (.iadd, 1) := by decide +kernel
theorem dL_law_1195 : decode cL_law 1195 = .ok (.iaload, 1) := by decide +kernel
theorem dL_law_1196 : decode cL_law 1196 = .ok (.invokevirtual 147, 3) := by decide +kernel
theorem dL_law_1199 : decode cL_law 1199 = .ok (.lcmp, 1) := by decide +kernel
theorem dL_law_1200 : decode cL_law 1200 = .ok (.ifCond .eq 117, 3) := by decide +kernel
theorem dL_law_1203 : decode cL_law 1203 = .ok (.iconst 0, 1) := by decide +kernel
theorem dL_law_1204 : decode cL_law 1204 = .ok (.ireturn, 1) := by decide +kernel
theorem dL_law_1205 : decode cL_law 1205 = .ok (.aload_n 1, 1) := by decide +kernel
theorem dL_law_1206 : decode cL_law 1206 = .ok (.aload_n 0, 1) := by decide +kernel
theorem dL_law_1207 : decode cL_law 1207 = .ok (.iload_n 3, 1) := by decide +kernel
theorem dL_law_1208 : decode cL_law 1208 = .ok (.iconst 1, 1) := by decide +kernel
theorem dL_law_1209 : decode cL_law 1209 = .ok (.iadd, 1) := by decide +kernel
theorem dL_law_1210 : decode cL_law 1210 = .ok (.iaload, 1) := by decide +kernel
theorem dL_law_1211 : decode cL_law 1211 = .ok (.aload_n 0, 1) := by decide +kernel
theorem dL_law_1212 : decode cL_law 1212 = .ok (.iload_n 3, 1) := by decide +kernel
theorem dL_law_1213 : decode cL_law 1213 = .ok (.iconst 2, 1) := by decide +kernel
theorem dL_law_1214 : decode cL_law 1214 = .ok (.iadd, 1) := by decide +kernel
theorem dL_law_1215 : decode cL_law 1215 = .ok (.iaload, 1) := by decide +kernel
theorem dL_law_1216 : decode cL_law 1216 = .ok (.aload_n 0, 1) := by decide +kernel
theorem dL_law_1217 : decode cL_law 1217 = .ok (.iload_n 3, 1) := by decide +kernel
theorem dL_law_1218 : decode cL_law 1218 = .ok (.iconst 3, 1) := by decide +kernel
theorem dL_law_1219 : decode cL_law 1219 = .ok (.iadd, 1) := by decide +kernel
theorem dL_law_1220 : decode cL_law 1220 = .ok (.iaload, 1) := by decide +kernel
theorem dL_law_1221 : decode cL_law 1221 = .ok (.invokevirtual 148, 3) := by decide +kernel
theorem dL_law_1224 : decode cL_law 1224 = .ok (.aload_n 2, 1) := by decide +kernel
theorem dL_law_1225 : decode cL_law 1225 = .ok (.aload_n 0, 1) := by decide +kernel
theorem dL_law_1226 : decode cL_law 1226 = .ok (.iload_n 3, 1) := by decide +kernel
theorem dL_law_1227 : decode cL_law 1227 = .ok (.iconst 1, 1) := by decide +kernel
theorem dL_law_1228 : decode cL_law 1228 = .ok (.iadd, 1) := by decide +kernel
theorem dL_law_1229 : decode cL_law 1229 = .ok (.iaload, 1) := by decide +kernel
theorem dL_law_1230 : decode cL_law 1230 = .ok (.aload_n 0, 1) := by decide +kernel
theorem dL_law_1231 : decode cL_law 1231 = .ok (.iload_n 3, 1) := by decide +kernel
theorem dL_law_1232 : decode cL_law 1232 = .ok (.iconst 2, 1) := by decide +kernel
theorem dL_law_1233 : decode cL_law 1233 = .ok (.iadd, 1) := by decide +kernel
theorem dL_law_1234 : decode cL_law 1234 = .ok (.iaload, 1) := by decide +kernel
theorem dL_law_1235 : decode cL_law 1235 = .ok (.aload_n 0, 1) := by decide +kernel
theorem dL_law_1236 : decode cL_law 1236 = .ok (.iload_n 3, 1) := by decide +kernel
theorem dL_law_1237 : decode cL_law 1237 = .ok (.iconst 3, 1) := by decide +kernel
theorem dL_law_1238 : decode cL_law 1238 = .ok (.iadd, 1) := by decide +kernel
theorem dL_law_1239 : decode cL_law 1239 = .ok (.iaload, 1) := by decide +kernel
theorem dL_law_1240 : decode cL_law 1240 = .ok (.invokevirtual 151, 3) := by decide +kernel
theorem dL_law_1243 : decode cL_law 1243 = .ok (.if_icmp .eq 74, 3) := by decide +kernel
theorem dL_law_1246 : decode cL_law 1246 = .ok (.iconst 0, 1) := by decide +kernel
theorem dL_law_1247 : decode cL_law 1247 = .ok (.ireturn, 1) := by decide +kernel
theorem dL_law_1248 : decode cL_law 1248 = .ok (.aload_n 1, 1) := by decide +kernel
theorem dL_law_1249 : decode cL_law 1249 = .ok (.aload_n 0, 1) := by decide +kernel
theorem dL_law_1250 : decode cL_law 1250 = .ok (.iload_n 3, 1) := by decide +kernel
theorem dL_law_1251 : decode cL_law 1251 = .ok (.iconst 1, 1) := by decide +kernel
theorem dL_law_1252 : decode cL_law 1252 = .ok (.iadd, 1) := by decide +kernel
theorem dL_law_1253 : decode cL_law 1253 = .ok (.iaload, 1) := by decide +kernel
theorem dL_law_1254 : decode cL_law 1254 = .ok (.invokevirtual 152, 3) := by decide +kernel
theorem dL_law_1257 : decode cL_law 1257 = .ok (.aload_n 2, 1) := by decide +kernel
theorem dL_law_1258 : decode cL_law 1258 = .ok (.aload_n 0, 1) := by decide +kernel
theorem dL_law_1259 : decode cL_law 1259 = .ok (.iload_n 3, 1) := by decide +kernel
theorem dL_law_1260 : decode cL_law 1260 = .ok (.iconst 1, 1) := by decide +kernel
theorem dL_law_1261 : decode cL_law 1261 = .ok (.iadd, 1) := by decide +kernel
theorem dL_law_1262 : decode cL_law 1262 = .ok (.iaload, 1) := by decide +kernel
theorem dL_law_1263 : decode cL_law 1263 = .ok (.invokevirtual 155, 3) := by decide +kernel
theorem dL_law_1266 : decode cL_law 1266 = .ok (.if_icmp .eq 51, 3) := by decide +kernel
theorem dL_law_1269 : decode cL_law 1269 = .ok (.iconst 0, 1) := by decide +kernel
theorem dL_law_1270 : decode cL_law 1270 = .ok (.ireturn, 1) := by decide +kernel
theorem dL_law_1271 : decode cL_law 1271 = .ok (.aload_n 1, 1) := by decide +kernel
theorem dL_law_1272 : decode cL_law 1272 = .ok (.aload_n 0, 1) := by decide +kernel
theorem dL_law_1273 : decode cL_law 1273 = .ok (.iload_n 3, 1) := by decide +kernel
theorem dL_law_1274 : decode cL_law 1274 = .ok (.iconst 1, 1) := by decide +kernel
theorem dL_law_1275 : decode cL_law 1275 = .ok (.iadd, 1) := by decide +kernel
theorem dL_law_1276 : decode cL_law 1276 = .ok (.iaload, 1) := by decide +kernel
theorem dL_law_1277 : decode cL_law 1277 = .ok (.invokevirtual 156, 3) := by decide +kernel
theorem dL_law_1280 : decode cL_law 1280 = .ok (.aload_n 2, 1) := by decide +kernel
theorem dL_law_1281 : decode cL_law 1281 = .ok (.aload_n 0, 1) := by decide +kernel
theorem dL_law_1282 : decode cL_law 1282 = .ok (.iload_n 3, 1) := by decide +kernel
theorem dL_law_1283 : decode cL_law 1283 = .ok (.iconst 1, 1) := by decide +kernel
theorem dL_law_1284 : decode cL_law 1284 = .ok (.iadd, 1) := by decide +kernel
theorem dL_law_1285 : decode cL_law 1285 = .ok (.iaload, 1) := by decide +kernel
theorem dL_law_1286 : decode cL_law 1286 = .ok (.invokevirtual 159, 3) := by decide +kernel
theorem dL_law_1289 : decode cL_law 1289 = .ok (.if_icmp .eq 28, 3) := by decide +kernel
theorem dL_law_1292 : decode cL_law 1292 = .ok (.iconst 0, 1) := by decide +kernel
theorem dL_law_1293 : decode cL_law 1293 = .ok (.ireturn, 1) := by decide +kernel
theorem dL_law_1294 : decode cL_law 1294 = .ok (.aload_n 1, 1) := by decide +kernel
theorem dL_law_1295 : decode cL_law 1295 = .ok (.aload_n 0, 1) := by decide +kernel
theorem dL_law_1296 : decode cL_law 1296 = .ok (.iload_n 3, 1) := by decide +kernel
theorem dL_law_1297 : decode cL_law 1297 = .ok (.iconst 1, 1) := by decide +kernel
theorem dL_law_1298 : decode cL_law 1298 = .ok (.iadd, 1) := by decide +kernel
theorem dL_law_1299 : decode cL_law 1299 = .ok (.iaload, 1) := by decide +kernel
theorem dL_law_1300 : decode cL_law 1300 = .ok (.invokevirtual 160, 3) := by decide +kernel
theorem dL_law_1303 : decode cL_law 1303 = .ok (.aload_n 2, 1) := by decide +kernel
theorem dL_law_1304 : decode cL_law 1304 = .ok (.aload_n 0, 1) := by decide +kernel
theorem dL_law_1305 : decode cL_law 1305 = .ok (.iload_n 3, 1) := by decide +kernel
theorem dL_law_1306 : decode cL_law 1306 = .ok (.iconst 1, 1) := by decide +kernel
theorem dL_law_1307 : decode cL_law 1307 = .ok (.iadd, 1) := by decide +kernel
theorem dL_law_1308 : decode cL_law 1308 = .ok (.iaload, 1) := by decide +kernel
theorem dL_law_1309 : decode cL_law 1309 = .ok (.invokevirtual 163, 3) := by decide +kernel
theorem dL_law_1312 : decode cL_law 1312 = .ok (.if_icmp .eq 5, 3) := by decide +kernel
theorem dL_law_1315 : decode cL_law 1315 = .ok (.iconst 0, 1) := by decide +kernel
theorem dL_law_1316 : decode cL_law 1316 = .ok (.ireturn, 1) := by decide +kernel
theorem dL_law_1317 : decode cL_law 1317 = .ok (.iinc 3 5, 3) := by decide +kernel
theorem dL_law_1320 : decode cL_law 1320 = .ok (.goto (-1302), 3) := by decide +kernel
theorem dL_law_1323 : decode cL_law 1323 = .ok (.iconst 1, 1) := by decide +kernel
theorem dL_law_1324 : decode cL_law 1324 = .ok (.ireturn, 1) := by decide +kernel
end
section
theorem dX4_init_0 : decode cX4_init 0 = .ok (.aload_n 0, 1) := by decide +kernel
theorem dX4_init_1 : decode cX4_init 1 = .ok (.invokespecial 1, 3) := by decide +kernel
theorem dX4_init_4 : decode cX4_init 4 = .ok (.aload_n 0, 1) := by decide +kernel
theorem dX4_init_5 : decode cX4_init 5 = .ok (.new 7, 3) := by decide +kernel
theorem dX4_init_8 : decode cX4_init 8 = .ok (.dup, 1) := by decide +kernel
theorem dX4_init_9 : decode cX4_init 9 = .ok (.invokespecial 9, 3) := by decide +kernel
theorem dX4_init_12 : decode cX4_init 12 = .ok (.putfield 10, 3) := by decide +kernel
theorem dX4_init_15 : decode cX4_init 15 = .ok (.aload_n 0, 1) := by decide +kernel
theorem dX4_init_16 : decode cX4_init 16 = .ok (.new 7, 3) := by decide +kernel
theorem dX4_init_19 : decode cX4_init 19 = .ok (.dup, 1) := by decide +kernel
theorem dX4_init_20 : decode cX4_init 20 = .ok (.invokespecial 9, 3) := by decide +kernel
theorem dX4_init_23 : decode cX4_init 23 = .ok (.putfield 16, 3) := by decide +kernel
theorem dX4_init_26 : decode cX4_init 26 = .ok (.aload_n 0, 1) := by decide +kernel
theorem dX4_init_27 : decode cX4_init 27 = .ok (.iconst 2, 1) := by decide +kernel
theorem dX4_init_28 : decode cX4_init 28 = .ok (.anewarray 7, 3) := by decide +kernel
theorem dX4_init_31 : decode cX4_init 31 = .ok (.putfield 19, 3) := by decide +kernel
theorem dX4_init_34 : decode cX4_init 34 = .ok (.aload_n 0, 1) := by decide +kernel
theorem dX4_init_35 : decode cX4_init 35 = .ok (.new 23, 3) := by decide +kernel
theorem dX4_init_38 : decode cX4_init 38 = .ok (.dup, 1) := by decide +kernel
theorem dX4_init_39 : decode cX4_init 39 = .ok (.invokespecial 25, 3) := by decide +kernel
theorem dX4_init_42 : decode cX4_init 42 = .ok (.putfield 26, 3) := by decide +kernel
theorem dX4_init_45 : decode cX4_init 45 = .ok (.aload_n 0, 1) := by decide +kernel
theorem dX4_init_46 : decode cX4_init 46 = .ok (.new 30, 3) := by decide +kernel
theorem dX4_init_49 : decode cX4_init 49 = .ok (.dup, 1) := by decide +kernel
theorem dX4_init_50 : decode cX4_init 50 = .ok (.invokespecial 32, 3) := by decide +kernel
theorem dX4_init_53 : decode cX4_init 53 = .ok (.putfield 33, 3) := by decide +kernel
theorem dX4_init_56 : decode cX4_init 56 = .ok (.aload_n 0, 1) := by decide +kernel
theorem dX4_init_57 : decode cX4_init 57 = .ok (.new 37, 3) := by decide +kernel
theorem dX4_init_60 : decode cX4_init 60 = .ok (.dup, 1) := by decide +kernel
theorem dX4_init_61 : decode cX4_init 61 = .ok (.invokespecial 39, 3) := by decide +kernel
theorem dX4_init_64 : decode cX4_init 64 = .ok (.putfield 40, 3) := by decide +kernel
theorem dX4_init_67 : decode cX4_init 67 = .ok (.return_, 1) := by decide +kernel
theorem dX4_terraces_0 : decode cX4_terraces 0 = .ok (.iload_n 1, 1) := by decide +kernel
theorem dX4_terraces_1 : decode cX4_terraces 1 = .ok (.iconst 2, 1) := by decide +kernel
theorem dX4_terraces_2 : decode cX4_terraces 2 = .ok (.bipush 6, 2) := by decide +kernel
theorem dX4_terraces_4 : decode cX4_terraces 4 = .ok (.invokestatic 44, 3) := by decide +kernel
theorem dX4_terraces_7 : decode cX4_terraces 7 = .ok (.ifCond .ne 6, 3) := by decide +kernel
theorem dX4_terraces_10 : decode cX4_terraces 10 = .ok (.bipush (-2), 2) := by decide +kernel
theorem dX4_terraces_12 : decode cX4_terraces 12 = .ok (.ireturn, 1) := by decide +kernel
theorem dX4_terraces_13 : decode cX4_terraces 13 = .ok (.aload_n 0, 1) := by decide +kernel
theorem dX4_terraces_14 : decode cX4_terraces 14 = .ok (.getfield 10, 3) := by decide +kernel
theorem dX4_terraces_17 : decode cX4_terraces 17 = .ok (.getfield 48, 3) := by decide +kernel
theorem dX4_terraces_20 : decode cX4_terraces 20 = .ok (.istore_n 2, 1) := by decide +kernel
theorem dX4_terraces_21 : decode cX4_terraces 21 = .ok (.aload_n 0, 1) := by decide +kernel
theorem dX4_terraces_22 : decode cX4_terraces 22 = .ok (.getfield 10, 3) := by decide +kernel
theorem dX4_terraces_25 : decode cX4_terraces 25 = .ok (.iload_n 1, 1) := by decide +kernel
theorem dX4_terraces_26 : decode cX4_terraces 26 = .ok (.invokevirtual 52, 3) := by decide +kernel
theorem dX4_terraces_29 : decode cX4_terraces 29 = .ok (.iload_n 2, 1) := by decide +kernel
theorem dX4_terraces_30 : decode cX4_terraces 30 = .ok (.ireturn, 1) := by decide +kernel
theorem dX4_bridge_0 : decode cX4_bridge 0 = .ok (.iload_n 1, 1) := by decide +kernel
theorem dX4_bridge_1 : decode cX4_bridge 1 = .ok (.iconst 0, 1) := by decide +kernel
theorem dX4_bridge_2 : decode cX4_bridge 2 = .ok (.bipush 7, 2) := by decide +kernel
theorem dX4_bridge_4 : decode cX4_bridge 4 = .ok (.invokestatic 44, 3) := by decide +kernel
theorem dX4_bridge_7 : decode cX4_bridge 7 = .ok (.ifCond .eq 30, 3) := by decide +kernel
theorem dX4_bridge_10 : decode cX4_bridge 10 = .ok (.aload_n 0, 1) := by decide +kernel
theorem dX4_bridge_11 : decode cX4_bridge 11 = .ok (.getfield 10, 3) := by decide +kernel
theorem dX4_bridge_14 : decode cX4_bridge 14 = .ok (.iload_n 2, 1) := by decide +kernel
theorem dX4_bridge_15 : decode cX4_bridge 15 = .ok (.invokevirtual 56, 3) := by decide +kernel
theorem dX4_bridge_18 : decode cX4_bridge 18 = .ok (.ifCond .eq 19, 3) := by decide +kernel
theorem dX4_bridge_21 : decode cX4_bridge 21 = .ok (.aload_n 0, 1) := by decide +kernel
theorem dX4_bridge_22 : decode cX4_bridge 22 = .ok (.getfield 10, 3) := by decide +kernel
theorem dX4_bridge_25 : decode cX4_bridge 25 = .ok (.iload_n 3, 1) := by decide +kernel
theorem dX4_bridge_26 : decode cX4_bridge 26 = .ok (.invokevirtual 56, 3) := by decide +kernel
theorem dX4_bridge_29 : decode cX4_bridge 29 = .ok (.ifCond .eq 8, 3) := by decide +kernel
theorem dX4_bridge_32 : decode cX4_bridge 32 = .ok (.iload_n 2, 1) := by decide +kernel
theorem dX4_bridge_33 : decode cX4_bridge 33 = .ok (.iload_n 3, 1) := by decide +kernel
theorem dX4_bridge_34 : decode cX4_bridge 34 = .ok (.if_icmp .ne 5, 3) := by decide +kernel
theorem dX4_bridge_37 : decode cX4_bridge 37 = .ok (.iconst (-1), 1) := by decide +kernel
theorem dX4_bridge_38 : decode cX4_bridge 38 = .ok (.ireturn, 1) := by decide +kernel
theorem dX4_bridge_39 : decode cX4_bridge 39 = .ok (.iload 4, 2) := by decide +kernel
theorem dX4_bridge_41 : decode cX4_bridge 41 = .ok (.iconst 0, 1) := by decide +kernel
theorem dX4_bridge_42 : decode cX4_bridge 42 = .ok (.bipush 99, 2) := by decide +kernel
theorem dX4_bridge_44 : decode cX4_bridge 44 = .ok (.invokestatic 44, 3) := by decide +kernel
theorem dX4_bridge_47 : decode cX4_bridge 47 = .ok (.ifCond .ne 6, 3) := by decide +kernel
theorem dX4_bridge_50 : decode cX4_bridge 50 = .ok (.bipush (-2), 2) := by decide +kernel
theorem dX4_bridge_52 : decode cX4_bridge 52 = .ok (.ireturn, 1) := by decide +kernel
theorem dX4_bridge_53 : decode cX4_bridge 53 = .ok (.aload_n 0, 1) := by decide +kernel
theorem dX4_bridge_54 : decode cX4_bridge 54 = .ok (.getfield 10, 3) := by decide +kernel
theorem dX4_bridge_57 : decode cX4_bridge 57 = .ok (.dup, 1) := by decide +kernel
theorem dX4_bridge_58 : decode cX4_bridge 58 = .ok (.getfield 60, 3) := by decide +kernel
theorem dX4_bridge_61 : decode cX4_bridge 61 = .ok (.iconst 1, 1) := by decide +kernel
theorem dX4_bridge_62 : decode cX4_bridge 62 = .ok (.iload_n 1, 1) := by decide +kernel
theorem dX4_bridge_63 : decode cX4_bridge 63 = .ok (.ishl, 1) := by decide +kernel
theorem dX4_bridge_64 : decode cX4_bridge 64 = .ok (.ior, 1) := by decide +kernel
theorem dX4_bridge_65 : decode cX4_bridge 65 = .ok (.putfield 60, 3) := by decide +kernel
theorem dX4_bridge_68 : decode cX4_bridge 68 = .ok (.aload_n 0, 1) := by decide +kernel
theorem dX4_bridge_69 : decode cX4_bridge 69 = .ok (.getfield 10, 3) := by decide +kernel
theorem dX4_bridge_72 : decode cX4_bridge 72 = .ok (.getfield 63, 3) := by decide +kernel
theorem dX4_bridge_75 : decode cX4_bridge 75 = .ok (.iload_n 1, 1) := by decide +kernel
theorem dX4_bridge_76 : decode cX4_bridge 76 = .ok (.iload_n 2, 1) := by decide +kernel
theorem dX4_bridge_77 : decode cX4_bridge 77 = .ok (.iload_n 3, 1) := by decide +kernel
theorem dX4_bridge_78 : decode cX4_bridge 78 = .ok (.invokestatic 67, 3) := by decide +kernel
theorem dX4_bridge_81 : decode cX4_bridge 81 = .ok (.iastore, 1) := by decide +kernel
theorem dX4_bridge_82 : decode cX4_bridge 82 = .ok (.aload_n 0, 1) := by decide +kernel
theorem dX4_bridge_83 : decode cX4_bridge 83 = .ok (.getfield 10, 3) := by decide +kernel
theorem dX4_bridge_86 : decode cX4_bridge 86 = .ok (.getfield 73, 3) := by decide +kernel
theorem dX4_bridge_89 : decode cX4_bridge 89 = .ok (.iload_n 1, 1) := by decide +kernel
theorem dX4_bridge_90 : decode cX4_bridge 90 = .ok (.iload_n 2, 1) := by decide +kernel
theorem dX4_bridge_91 : decode cX4_bridge 91 = .ok (.iload_n 3, 1) := by decide +kernel
theorem dX4_bridge_92 : decode cX4_bridge 92 = .ok (.invokestatic 76, 3) := by decide +kernel
theorem dX4_bridge_95 : decode cX4_bridge 95 = .ok (.iastore, 1) := by decide +kernel
theorem dX4_bridge_96 : decode cX4_bridge 96 = .ok (.aload_n 0, 1) := by decide +kernel
theorem dX4_bridge_97 : decode cX4_bridge 97 = .ok (.getfield 10, 3) := by decide +kernel
theorem dX4_bridge_100 : decode cX4_bridge 100 = .ok (.getfield 79, 3) := by decide +kernel
theorem dX4_bridge_103 : decode cX4_bridge 103 = .ok (.iload_n 1, 1) := by decide +kernel
theorem dX4_bridge_104 : decode cX4_bridge 104 = .ok (.iload 4, 2) := by decide +kernel
theorem dX4_bridge_106 : decode cX4_bridge 106 = .ok (.iastore, 1) := by decide +kernel
theorem dX4_bridge_107 : decode cX4_bridge 107 = .ok (.aload_n 0, 1) := by decide +kernel
theorem dX4_bridge_108 : decode cX4_bridge 108 = .ok (.getfield 10, 3) := by decide +kernel
theorem dX4_bridge_111 : decode cX4_bridge 111 = .ok (.getfield 82, 3) := by decide +kernel
theorem dX4_bridge_114 : decode cX4_bridge 114 = .ok (.iload_n 1, 1) := by decide +kernel
theorem dX4_bridge_115 : decode cX4_bridge 115 = .ok (.iconst 0, 1) := by decide +kernel
theorem dX4_bridge_116 : decode cX4_bridge 116 = .ok (.iastore, 1) := by decide +kernel
theorem dX4_bridge_117 : decode cX4_bridge 117 = .ok (.aload_n 0, 1) := by decide +kernel
theorem dX4_bridge_118 : decode cX4_bridge 118 = .ok (.getfield 10, 3) := by decide +kernel
theorem dX4_bridge_121 : decode cX4_bridge 121 = .ok (.getfield 60, 3) := by decide +kernel
theorem dX4_bridge_124 : decode cX4_bridge 124 = .ok (.invokestatic 85, 3) := by decide +kernel
theorem dX4_bridge_127 : decode cX4_bridge 127 = .ok (.ireturn, 1) := by decide +kernel
theorem dX4_fall_0 : decode cX4_fall 0 = .ok (.aload_n 0, 1) := by decide +kernel
theorem dX4_fall_1 : decode cX4_fall 1 = .ok (.getfield 10, 3) := by decide +kernel
theorem dX4_fall_4 : decode cX4_fall 4 = .ok (.iload_n 1, 1) := by decide +kernel
theorem dX4_fall_5 : decode cX4_fall 5 = .ok (.invokevirtual 91, 3) := by decide +kernel
theorem dX4_fall_8 : decode cX4_fall 8 = .ok (.ifCond .ne 5, 3) := by decide +kernel
theorem dX4_fall_11 : decode cX4_fall 11 = .ok (.iconst (-1), 1) := by decide +kernel
theorem dX4_fall_12 : decode cX4_fall 12 = .ok (.ireturn, 1) := by decide +kernel
theorem dX4_fall_13 : decode cX4_fall 13 = .ok (.aload_n 0, 1) := by decide +kernel
theorem dX4_fall_14 : decode cX4_fall 14 = .ok (.getfield 10, 3) := by decide +kernel
theorem dX4_fall_17 : decode cX4_fall 17 = .ok (.dup, 1) := by decide +kernel
theorem dX4_fall_18 : decode cX4_fall 18 = .ok (.getfield 60, 3) := by decide +kernel
theorem dX4_fall_21 : decode cX4_fall 21 = .ok (.iconst 1, 1) := by decide +kernel
theorem dX4_fall_22 : decode cX4_fall 22 = .ok (.iload_n 1, 1) := by decide +kernel
theorem dX4_fall_23 : decode cX4_fall 23 = .ok (.ishl, 1) := by decide +kernel
theorem dX4_fall_24 : decode cX4_fall 24 = .ok (.iconst (-1), 1) := by decide +kernel
theorem dX4_fall_25 : decode cX4_fall 25 = .ok (.ixor, 1) := by decide +kernel
theorem dX4_fall_26 : decode cX4_fall 26 = .ok (.iand, 1) := by decide +kernel
theorem dX4_fall_27 : decode cX4_fall 27 = .ok (.putfield 60, 3) := by decide +kernel
theorem dX4_fall_30 : decode cX4_fall 30 = .ok (.aload_n 0, 1) := by decide +kernel
theorem dX4_fall_31 : decode cX4_fall 31 = .ok (.getfield 10, 3) := by decide +kernel
theorem dX4_fall_34 : decode cX4_fall 34 = .ok (.getfield 60, 3) := by decide +kernel
theorem dX4_fall_37 : decode cX4_fall 37 = .ok (.invokestatic 85, 3) := by decide +kernel
theorem dX4_fall_40 : decode cX4_fall 40 = .ok (.ireturn, 1) := by decide +kernel
theorem dX4_person_0 : decode cX4_person 0 = .ok (.iload_n 1, 1) := by decide +kernel
theorem dX4_person_1 : decode cX4_person 1 = .ok (.iconst 0, 1) := by decide +kernel
theorem dX4_person_2 : decode cX4_person 2 = .ok (.iconst 5, 1) := by decide +kernel
theorem dX4_person_3 : decode cX4_person 3 = .ok (.invokestatic 44, 3) := by decide +kernel
theorem dX4_person_6 : decode cX4_person 6 = .ok (.ifCond .eq 14, 3) := by decide +kernel
theorem dX4_person_9 : decode cX4_person 9 = .ok (.aload_n 0, 1) := by decide +kernel
theorem dX4_person_10 : decode cX4_person 10 = .ok (.getfield 10, 3) := by decide +kernel
theorem dX4_person_13 : decode cX4_person 13 = .ok (.iload_n 2, 1) := by decide +kernel
theorem dX4_person_14 : decode cX4_person 14 = .ok (.invokevirtual 56, 3) := by decide +kernel
theorem dX4_person_17 : decode cX4_person 17 = .ok (.ifCond .ne 5, 3) := by decide +kernel
theorem dX4_person_20 : decode cX4_person 20 = .ok (.iconst (-1), 1) := by decide +kernel
theorem dX4_person_21 : decode cX4_person 21 = .ok (.ireturn, 1) := by decide +kernel
theorem dX4_person_22 : decode cX4_person 22 = .ok (.iload_n 3, 1) := by decide +kernel
theorem dX4_person_23 : decode cX4_person 23 = .ok (.iconst 0, 1) := by decide +kernel
theorem dX4_person_24 : decode cX4_person 24 = .ok (.iconst 2, 1) := by decide +kernel
theorem dX4_person_25 : decode cX4_person 25 = .ok (.invokestatic 44, 3) := by decide +kernel
theorem dX4_person_28 : decode cX4_person 28 = .ok (.ifCond .ne 6, 3) := by decide +kernel
theorem dX4_person_31 : decode cX4_person 31 = .ok (.bipush (-2), 2) := by decide +kernel
theorem dX4_person_33 : decode cX4_person 33 = .ok (.ireturn, 1) := by decide +kernel
theorem dX4_person_34 : decode cX4_person 34 = .ok (.aload_n 0, 1) := by decide +kernel
theorem dX4_person_35 : decode cX4_person 35 = .ok (.getfield 10, 3) := by decide +kernel
theorem dX4_person_38 : decode cX4_person 38 = .ok (.dup, 1) := by decide +kernel
theorem dX4_person_39 : decode cX4_person 39 = .ok (.getfield 94, 3) := by decide +kernel
theorem dX4_person_42 : decode cX4_person 42 = .ok (.iconst 1, 1) := by decide +kernel
theorem dX4_person_43 : decode cX4_person 43 = .ok (.iload_n 1, 1) := by decide +kernel
theorem dX4_person_44 : decode cX4_person 44 = .ok (.ishl, 1) := by decide +kernel
theorem dX4_person_45 : decode cX4_person 45 = .ok (.ior, 1) := by decide +kernel
theorem dX4_person_46 : decode cX4_person 46 = .ok (.putfield 94, 3) := by decide +kernel
theorem dX4_person_49 : decode cX4_person 49 = .ok (.aload_n 0, 1) := by decide +kernel
theorem dX4_person_50 : decode cX4_person 50 = .ok (.getfield 10, 3) := by decide +kernel
theorem dX4_person_53 : decode cX4_person 53 = .ok (.getfield 97, 3) := by decide +kernel
theorem dX4_person_56 : decode cX4_person 56 = .ok (.iload_n 1, 1) := by decide +kernel
theorem dX4_person_57 : decode cX4_person 57 = .ok (.iload_n 2, 1) := by decide +kernel
theorem dX4_person_58 : decode cX4_person 58 = .ok (.iastore, 1) := by decide +kernel
theorem dX4_person_59 : decode cX4_person 59 = .ok (.aload_n 0, 1) := by decide +kernel
theorem dX4_person_60 : decode cX4_person 60 = .ok (.getfield 10, 3) := by decide +kernel
theorem dX4_person_63 : decode cX4_person 63 = .ok (.getfield 100, 3) := by decide +kernel
theorem dX4_person_66 : decode cX4_person 66 = .ok (.iload_n 1, 1) := by decide +kernel
theorem dX4_person_67 : decode cX4_person 67 = .ok (.iload_n 3, 1) := by decide +kernel
theorem dX4_person_68 : decode cX4_person 68 = .ok (.iastore, 1) := by decide +kernel
theorem dX4_person_69 : decode cX4_person 69 = .ok (.aload_n 0, 1) := by decide +kernel
theorem dX4_person_70 : decode cX4_person 70 = .ok (.getfield 10, 3) := by decide +kernel
theorem dX4_person_73 : decode cX4_person 73 = .ok (.getfield 103, 3) := by decide +kernel
theorem dX4_person_76 : decode cX4_person 76 = .ok (.iload_n 1, 1) := by decide +kernel
theorem dX4_person_77 : decode cX4_person 77 = .ok (.iconst 0, 1) := by decide +kernel
theorem dX4_person_78 : decode cX4_person 78 = .ok (.iastore, 1) := by decide +kernel
theorem dX4_person_79 : decode cX4_person 79 = .ok (.aload_n 0, 1) := by decide +kernel
theorem dX4_person_80 : decode cX4_person 80 = .ok (.getfield 10, 3) := by decide +kernel
theorem dX4_person_83 : decode cX4_person 83 = .ok (.getfield 94, 3) := by decide +kernel
theorem dX4_person_86 : decode cX4_person 86 = .ok (.invokestatic 85, 3) := by decide +kernel
theorem dX4_person_89 : decode cX4_person 89 = .ok (.ireturn, 1) := by decide +kernel
theorem dX4_leave_0 : decode cX4_leave 0 = .ok (.aload_n 0, 1) := by decide +kernel
theorem dX4_leave_1 : decode cX4_leave 1 = .ok (.getfield 10, 3) := by decide +kernel
theorem dX4_leave_4 : decode cX4_leave 4 = .ok (.iload_n 1, 1) := by decide +kernel
theorem dX4_leave_5 : decode cX4_leave 5 = .ok (.invokevirtual 106, 3) := by decide +kernel
theorem dX4_leave_8 : decode cX4_leave 8 = .ok (.ifCond .ne 5, 3) := by decide +kernel
theorem dX4_leave_11 : decode cX4_leave 11 = .ok (.iconst (-1), 1) := by decide +kernel
theorem dX4_leave_12 : decode cX4_leave 12 = .ok (.ireturn, 1) := by decide +kernel
theorem dX4_leave_13 : decode cX4_leave 13 = .ok (.aload_n 0, 1) := by decide +kernel
theorem dX4_leave_14 : decode cX4_leave 14 = .ok (.getfield 10, 3) := by decide +kernel
theorem dX4_leave_17 : decode cX4_leave 17 = .ok (.dup, 1) := by decide +kernel
theorem dX4_leave_18 : decode cX4_leave 18 = .ok (.getfield 94, 3) := by decide +kernel
theorem dX4_leave_21 : decode cX4_leave 21 = .ok (.iconst 1, 1) := by decide +kernel
theorem dX4_leave_22 : decode cX4_leave 22 = .ok (.iload_n 1, 1) := by decide +kernel
theorem dX4_leave_23 : decode cX4_leave 23 = .ok (.ishl, 1) := by decide +kernel
theorem dX4_leave_24 : decode cX4_leave 24 = .ok (.iconst (-1), 1) := by decide +kernel
theorem dX4_leave_25 : decode cX4_leave 25 = .ok (.ixor, 1) := by decide +kernel
theorem dX4_leave_26 : decode cX4_leave 26 = .ok (.iand, 1) := by decide +kernel
theorem dX4_leave_27 : decode cX4_leave 27 = .ok (.putfield 94, 3) := by decide +kernel
theorem dX4_leave_30 : decode cX4_leave 30 = .ok (.aload_n 0, 1) := by decide +kernel
theorem dX4_leave_31 : decode cX4_leave 31 = .ok (.getfield 10, 3) := by decide +kernel
theorem dX4_leave_34 : decode cX4_leave 34 = .ok (.getfield 103, 3) := by decide +kernel
theorem dX4_leave_37 : decode cX4_leave 37 = .ok (.iload_n 1, 1) := by decide +kernel
theorem dX4_leave_38 : decode cX4_leave 38 = .ok (.iconst 0, 1) := by decide +kernel
theorem dX4_leave_39 : decode cX4_leave 39 = .ok (.iastore, 1) := by decide +kernel
theorem dX4_leave_40 : decode cX4_leave 40 = .ok (.aload_n 0, 1) := by decide +kernel
theorem dX4_leave_41 : decode cX4_leave 41 = .ok (.getfield 10, 3) := by decide +kernel
theorem dX4_leave_44 : decode cX4_leave 44 = .ok (.getfield 94, 3) := by decide +kernel
theorem dX4_leave_47 : decode cX4_leave 47 = .ok (.invokestatic 85, 3) := by decide +kernel
theorem dX4_leave_50 : decode cX4_leave 50 = .ok (.ireturn, 1) := by decide +kernel
theorem dX4_news_0 : decode cX4_news 0 = .ok (.iload_n 1, 1) := by decide +kernel
theorem dX4_news_1 : decode cX4_news 1 = .ok (.invokestatic 109, 3) := by decide +kernel
theorem dX4_news_4 : decode cX4_news 4 = .ok (.ifCond .ne 5, 3) := by decide +kernel
theorem dX4_news_7 : decode cX4_news 7 = .ok (.iconst (-1), 1) := by decide +kernel
theorem dX4_news_8 : decode cX4_news 8 = .ok (.ireturn, 1) := by decide +kernel
theorem dX4_news_9 : decode cX4_news 9 = .ok (.iload_n 2, 1) := by decide +kernel
theorem dX4_news_10 : decode cX4_news 10 = .ok (.bipush (-20), 2) := by decide +kernel
theorem dX4_news_12 : decode cX4_news 12 = .ok (.bipush 99, 2) := by decide +kernel
theorem dX4_news_14 : decode cX4_news 14 = .ok (.invokestatic 44, 3) := by decide +kernel
theorem dX4_news_17 : decode cX4_news 17 = .ok (.ifCond .eq 12, 3) := by decide +kernel
theorem dX4_news_20 : decode cX4_news 20 = .ok (.iload_n 3, 1) := by decide +kernel
theorem dX4_news_21 : decode cX4_news 21 = .ok (.iconst 0, 1) := by decide +kernel
theorem dX4_news_22 : decode cX4_news 22 = .ok (.iconst 3, 1) := by decide +kernel
theorem dX4_news_23 : decode cX4_news 23 = .ok (.invokestatic 44, 3) := by decide +kernel
theorem dX4_news_26 : decode cX4_news 26 = .ok (.ifCond .ne 6, 3) := by decide +kernel
theorem dX4_news_29 : decode cX4_news 29 = .ok (.bipush (-2), 2) := by decide +kernel
theorem dX4_news_31 : decode cX4_news 31 = .ok (.ireturn, 1) := by decide +kernel
theorem dX4_news_32 : decode cX4_news 32 = .ok (.aload_n 0, 1) := by decide +kernel
theorem dX4_news_33 : decode cX4_news 33 = .ok (.getfield 10, 3) := by decide +kernel
theorem dX4_news_36 : decode cX4_news 36 = .ok (.getfield 112, 3) := by decide +kernel
theorem dX4_news_39 : decode cX4_news 39 = .ok (.iload_n 1, 1) := by decide +kernel
theorem dX4_news_40 : decode cX4_news 40 = .ok (.iaload, 1) := by decide +kernel
theorem dX4_news_41 : decode cX4_news 41 = .ok (.istore 4, 2) := by decide +kernel
theorem dX4_news_43 : decode cX4_news 43 = .ok (.aload_n 0, 1) := by decide +kernel
theorem dX4_news_44 : decode cX4_news 44 = .ok (.getfield 10, 3) := by decide +kernel
theorem dX4_news_47 : decode cX4_news 47 = .ok (.getfield 112, 3) := by decide +kernel
theorem dX4_news_50 : decode cX4_news 50 = .ok (.iload_n 1, 1) := by decide +kernel
theorem dX4_news_51 : decode cX4_news 51 = .ok (.iload_n 2, 1) := by decide +kernel
theorem dX4_news_52 : decode cX4_news 52 = .ok (.iastore, 1) := by decide +kernel
theorem dX4_news_53 : decode cX4_news 53 = .ok (.aload_n 0, 1) := by decide +kernel
theorem dX4_news_54 : decode cX4_news 54 = .ok (.getfield 10, 3) := by decide +kernel
theorem dX4_news_57 : decode cX4_news 57 = .ok (.getfield 115, 3) := by decide +kernel
theorem dX4_news_60 : decode cX4_news 60 = .ok (.iload_n 1, 1) := by decide +kernel
theorem dX4_news_61 : decode cX4_news 61 = .ok (.iload_n 3, 1) := by decide +kernel
theorem dX4_news_62 : decode cX4_news 62 = .ok (.iastore, 1) := by decide +kernel
theorem dX4_news_63 : decode cX4_news 63 = .ok (.aload_n 0, 1) := by decide +kernel
theorem dX4_news_64 : decode cX4_news 64 = .ok (.getfield 10, 3) := by decide +kernel
theorem dX4_news_67 : decode cX4_news 67 = .ok (.dup, 1) := by decide +kernel
theorem dX4_news_68 : decode cX4_news 68 = .ok (.getfield 118, 3) := by decide +kernel
theorem dX4_news_71 : decode cX4_news 71 = .ok (.iconst 1, 1) := by decide +kernel
theorem dX4_news_72 : decode cX4_news 72 = .ok (.iload_n 1, 1) := by decide +kernel
theorem dX4_news_73 : decode cX4_news 73 = .ok (.ishl, 1) := by decide +kernel
theorem dX4_news_74 : decode cX4_news 74 = .ok (.iconst (-1), 1) := by decide +kernel
theorem dX4_news_75 : decode cX4_news 75 = .ok (.ixor, 1) := by decide +kernel
theorem dX4_news_76 : decode cX4_news 76 = .ok (.iand, 1) := by decide +kernel
theorem dX4_news_77 : decode cX4_news 77 = .ok (.putfield 118, 3) := by decide +kernel
theorem dX4_news_80 : decode cX4_news 80 = .ok (.iload 4, 2) := by decide +kernel
theorem dX4_news_82 : decode cX4_news 82 = .ok (.sipush 1000, 3) := by decide +kernel
theorem dX4_news_85 : decode cX4_news 85 = .ok (.iadd, 1) := by decide +kernel
theorem dX4_news_86 : decode cX4_news 86 = .ok (.ireturn, 1) := by decide +kernel
theorem dX4_learn_0 : decode cX4_learn 0 = .ok (.aload_n 0, 1) := by decide +kernel
theorem dX4_learn_1 : decode cX4_learn 1 = .ok (.getfield 10, 3) := by decide +kernel
theorem dX4_learn_4 : decode cX4_learn 4 = .ok (.iload_n 1, 1) := by decide +kernel
theorem dX4_learn_5 : decode cX4_learn 5 = .ok (.invokevirtual 106, 3) := by decide +kernel
theorem dX4_learn_8 : decode cX4_learn 8 = .ok (.ifCond .eq 10, 3) := by decide +kernel
theorem dX4_learn_11 : decode cX4_learn 11 = .ok (.iload_n 2, 1) := by decide +kernel
theorem dX4_learn_12 : decode cX4_learn 12 = .ok (.invokestatic 109, 3) := by decide +kernel
theorem dX4_learn_15 : decode cX4_learn 15 = .ok (.ifCond .ne 5, 3) := by decide +kernel
theorem dX4_learn_18 : decode cX4_learn 18 = .ok (.iconst (-1), 1) := by decide +kernel
theorem dX4_learn_19 : decode cX4_learn 19 = .ok (.ireturn, 1) := by decide +kernel
theorem dX4_learn_20 : decode cX4_learn 20 = .ok (.iload_n 3, 1) := by decide +kernel
theorem dX4_learn_21 : decode cX4_learn 21 = .ok (.ifCond .eq 21, 3) := by decide +kernel
theorem dX4_learn_24 : decode cX4_learn 24 = .ok (.aload_n 0, 1) := by decide +kernel
theorem dX4_learn_25 : decode cX4_learn 25 = .ok (.getfield 10, 3) := by decide +kernel
theorem dX4_learn_28 : decode cX4_learn 28 = .ok (.getfield 103, 3) := by decide +kernel
theorem dX4_learn_31 : decode cX4_learn 31 = .ok (.iload_n 1, 1) := by decide +kernel
theorem dX4_learn_32 : decode cX4_learn 32 = .ok (.dup2, 1) := by decide +kernel
theorem dX4_learn_33 : decode cX4_learn 33 = .ok (.iaload, 1) := by decide +kernel
theorem dX4_learn_34 : decode cX4_learn 34 = .ok (.iconst 1, 1) := by decide +kernel
theorem dX4_learn_35 : decode cX4_learn 35 = .ok (.iload_n 2, 1) := by decide +kernel
theorem dX4_learn_36 : decode cX4_learn 36 = .ok (.ishl, 1) := by decide +kernel
theorem dX4_learn_37 : decode cX4_learn 37 = .ok (.ior, 1) := by decide +kernel
theorem dX4_learn_38 : decode cX4_learn 38 = .ok (.iastore, 1) := by decide +kernel
theorem dX4_learn_39 : decode cX4_learn 39 = .ok (.goto 20, 3) := by decide +kernel
theorem dX4_learn_42 : decode cX4_learn 42 = .ok (.aload_n 0, 1) := by decide +kernel
theorem dX4_learn_43 : decode cX4_learn 43 = .ok (.getfield 10, 3) := by decide +kernel
theorem dX4_learn_46 : decode cX4_learn 46 = .ok (.getfield 103, 3) := by decide +kernel
theorem dX4_learn_49 : decode cX4_learn 49 = .ok (.iload_n 1, 1) := by decide +kernel
theorem dX4_learn_50 : decode cX4_learn 50 = .ok (.dup2, 1) := by decide +kernel
theorem dX4_learn_51 : decode cX4_learn 51 = .ok (.iaload, 1) := by decide +kernel
theorem dX4_learn_52 : decode cX4_learn 52 = .ok (.iconst 1, 1) := by decide +kernel
theorem dX4_learn_53 : decode cX4_learn 53 = .ok (.iload_n 2, 1) := by decide +kernel
theorem dX4_learn_54 : decode cX4_learn 54 = .ok (.ishl, 1) := by decide +kernel
theorem dX4_learn_55 : decode cX4_learn 55 = .ok (.iconst (-1), 1) := by decide +kernel
theorem dX4_learn_56 : decode cX4_learn 56 = .ok (.ixor, 1) := by decide +kernel
theorem dX4_learn_57 : decode cX4_learn 57 = .ok (.iand, 1) := by decide +kernel
theorem dX4_learn_58 : decode cX4_learn 58 = .ok (.iastore, 1) := by decide +kernel
theorem dX4_learn_59 : decode cX4_learn 59 = .ok (.aload_n 0, 1) := by decide +kernel
theorem dX4_learn_60 : decode cX4_learn 60 = .ok (.getfield 10, 3) := by decide +kernel
theorem dX4_learn_63 : decode cX4_learn 63 = .ok (.getfield 103, 3) := by decide +kernel
theorem dX4_learn_66 : decode cX4_learn 66 = .ok (.iload_n 1, 1) := by decide +kernel
theorem dX4_learn_67 : decode cX4_learn 67 = .ok (.iaload, 1) := by decide +kernel
theorem dX4_learn_68 : decode cX4_learn 68 = .ok (.ireturn, 1) := by decide +kernel
theorem dX4_fade_0 : decode cX4_fade 0 = .ok (.iload_n 1, 1) := by decide +kernel
theorem dX4_fade_1 : decode cX4_fade 1 = .ok (.iconst 0, 1) := by decide +kernel
theorem dX4_fade_2 : decode cX4_fade 2 = .ok (.bipush 9, 2) := by decide +kernel
theorem dX4_fade_4 : decode cX4_fade 4 = .ok (.invokestatic 44, 3) := by decide +kernel
theorem dX4_fade_7 : decode cX4_fade 7 = .ok (.ifCond .ne 6, 3) := by decide +kernel
theorem dX4_fade_10 : decode cX4_fade 10 = .ok (.bipush (-2), 2) := by decide +kernel
theorem dX4_fade_12 : decode cX4_fade 12 = .ok (.ireturn, 1) := by decide +kernel
theorem dX4_fade_13 : decode cX4_fade 13 = .ok (.aload_n 0, 1) := by decide +kernel
theorem dX4_fade_14 : decode cX4_fade 14 = .ok (.getfield 10, 3) := by decide +kernel
theorem dX4_fade_17 : decode cX4_fade 17 = .ok (.getfield 121, 3) := by decide +kernel
theorem dX4_fade_20 : decode cX4_fade 20 = .ok (.istore_n 2, 1) := by decide +kernel
theorem dX4_fade_21 : decode cX4_fade 21 = .ok (.aload_n 0, 1) := by decide +kernel
theorem dX4_fade_22 : decode cX4_fade 22 = .ok (.getfield 10, 3) := by decide +kernel
theorem dX4_fade_25 : decode cX4_fade 25 = .ok (.iload_n 1, 1) := by decide +kernel
theorem dX4_fade_26 : decode cX4_fade 26 = .ok (.putfield 121, 3) := by decide +kernel
theorem dX4_fade_29 : decode cX4_fade 29 = .ok (.iload_n 2, 1) := by decide +kernel
theorem dX4_fade_30 : decode cX4_fade 30 = .ok (.ireturn, 1) := by decide +kernel
theorem dX4_say_0 : decode cX4_say 0 = .ok (.iload_n 1, 1) := by decide +kernel
theorem dX4_say_1 : decode cX4_say 1 = .ok (.bipush 33, 2) := by decide +kernel
theorem dX4_say_3 : decode cX4_say 3 = .ok (.bipush 126, 2) := by decide +kernel
theorem dX4_say_5 : decode cX4_say 5 = .ok (.invokestatic 44, 3) := by decide +kernel
theorem dX4_say_8 : decode cX4_say 8 = .ok (.ifCond .ne 6, 3) := by decide +kernel
theorem dX4_say_11 : decode cX4_say 11 = .ok (.bipush (-2), 2) := by decide +kernel
theorem dX4_say_13 : decode cX4_say 13 = .ok (.ireturn, 1) := by decide +kernel
theorem dX4_say_14 : decode cX4_say 14 = .ok (.aload_n 0, 1) := by decide +kernel
theorem dX4_say_15 : decode cX4_say 15 = .ok (.getfield 26, 3) := by decide +kernel
theorem dX4_say_18 : decode cX4_say 18 = .ok (.getfield 124, 3) := by decide +kernel
theorem dX4_say_21 : decode cX4_say 21 = .ok (.bipush 60, 2) := by decide +kernel
theorem dX4_say_23 : decode cX4_say 23 = .ok (.if_icmp .lt 6, 3) := by decide +kernel
theorem dX4_say_26 : decode cX4_say 26 = .ok (.bipush (-4), 2) := by decide +kernel
theorem dX4_say_28 : decode cX4_say 28 = .ok (.ireturn, 1) := by decide +kernel
theorem dX4_say_29 : decode cX4_say 29 = .ok (.aload_n 0, 1) := by decide +kernel
theorem dX4_say_30 : decode cX4_say 30 = .ok (.getfield 26, 3) := by decide +kernel
theorem dX4_say_33 : decode cX4_say 33 = .ok (.getfield 127, 3) := by decide +kernel
theorem dX4_say_36 : decode cX4_say 36 = .ok (.aload_n 0, 1) := by decide +kernel
theorem dX4_say_37 : decode cX4_say 37 = .ok (.getfield 26, 3) := by decide +kernel
theorem dX4_say_40 : decode cX4_say 40 = .ok (.getfield 124, 3) := by decide +kernel
theorem dX4_say_43 : decode cX4_say 43 = .ok (.iload_n 1, 1) := by decide +kernel
theorem dX4_say_44 : decode cX4_say 44 = .ok (.iastore, 1) := by decide +kernel
theorem dX4_say_45 : decode cX4_say 45 = .ok (.aload_n 0, 1) := by decide +kernel
theorem dX4_say_46 : decode cX4_say 46 = .ok (.getfield 26, 3) := by decide +kernel
theorem dX4_say_49 : decode cX4_say 49 = .ok (.dup, 1) := by decide +kernel
theorem dX4_say_50 : decode cX4_say 50 = .ok (.getfield 124, 3) := by decide +kernel
theorem dX4_say_53 : decode cX4_say 53 = .ok (.iconst 1, 1) := by decide +kernel
theorem dX4_say_54 : decode cX4_say 54 = .ok (.iadd, 1) := by decide +kernel
theorem dX4_say_55 : decode cX4_say 55 = .ok (.putfield 124, 3) := by decide +kernel
theorem dX4_say_58 : decode cX4_say 58 = .ok (.aload_n 0, 1) := by decide +kernel
theorem dX4_say_59 : decode cX4_say 59 = .ok (.getfield 26, 3) := by decide +kernel
theorem dX4_say_62 : decode cX4_say 62 = .ok (.getfield 124, 3) := by decide +kernel
theorem dX4_say_65 : decode cX4_say 65 = .ok (.ireturn, 1) := by decide +kernel
theorem dX4_wipe_0 : decode cX4_wipe 0 = .ok (.aload_n 0, 1) := by decide +kernel
theorem dX4_wipe_1 : decode cX4_wipe 1 = .ok (.getfield 26, 3) := by decide +kernel
theorem dX4_wipe_4 : decode cX4_wipe 4 = .ok (.getfield 124, 3) := by decide +kernel
theorem dX4_wipe_7 : decode cX4_wipe 7 = .ok (.istore_n 1, 1) := by decide +kernel
theorem dX4_wipe_8 : decode cX4_wipe 8 = .ok (.aload_n 0, 1) := by decide +kernel
theorem dX4_wipe_9 : decode cX4_wipe 9 = .ok (.getfield 26, 3) := by decide +kernel
theorem dX4_wipe_12 : decode cX4_wipe 12 = .ok (.iconst 0, 1) := by decide +kernel
theorem dX4_wipe_13 : decode cX4_wipe 13 = .ok (.putfield 124, 3) := by decide +kernel
theorem dX4_wipe_16 : decode cX4_wipe 16 = .ok (.iload_n 1, 1) := by decide +kernel
theorem dX4_wipe_17 : decode cX4_wipe 17 = .ok (.ireturn, 1) := by decide +kernel
theorem dX4_fault_0 : decode cX4_fault 0 = .ok (.aload_n 0, 1) := by decide +kernel
theorem dX4_fault_1 : decode cX4_fault 1 = .ok (.getfield 26, 3) := by decide +kernel
theorem dX4_fault_4 : decode cX4_fault 4 = .ok (.invokevirtual 130, 3) := by decide +kernel
theorem dX4_fault_7 : decode cX4_fault 7 = .ok (.ireturn, 1) := by decide +kernel
theorem dX4_judge_0 : decode cX4_judge 0 = .ok (.iload_n 1, 1) := by decide +kernel
theorem dX4_judge_1 : decode cX4_judge 1 = .ok (.iconst 0, 1) := by decide +kernel
theorem dX4_judge_2 : decode cX4_judge 2 = .ok (.iconst 4, 1) := by decide +kernel
theorem dX4_judge_3 : decode cX4_judge 3 = .ok (.invokestatic 44, 3) := by decide +kernel
theorem dX4_judge_6 : decode cX4_judge 6 = .ok (.ifCond .ne 6, 3) := by decide +kernel
theorem dX4_judge_9 : decode cX4_judge 9 = .ok (.bipush (-2), 2) := by decide +kernel
theorem dX4_judge_11 : decode cX4_judge 11 = .ok (.ireturn, 1) := by decide +kernel
theorem dX4_judge_12 : decode cX4_judge 12 = .ok (.aload_n 0, 1) := by decide +kernel
theorem dX4_judge_13 : decode cX4_judge 13 = .ok (.getfield 33, 3) := by decide +kernel
theorem dX4_judge_16 : decode cX4_judge 16 = .ok (.aload_n 0, 1) := by decide +kernel
theorem dX4_judge_17 : decode cX4_judge 17 = .ok (.getfield 26, 3) := by decide +kernel
theorem dX4_judge_20 : decode cX4_judge 20 = .ok (.aload_n 0, 1) := by decide +kernel
theorem dX4_judge_21 : decode cX4_judge 21 = .ok (.getfield 10, 3) := by decide +kernel
theorem dX4_judge_24 : decode cX4_judge 24 = .ok (.aload_n 0, 1) := by decide +kernel
theorem dX4_judge_25 : decode cX4_judge 25 = .ok (.getfield 16, 3) := by decide +kernel
theorem dX4_judge_28 : decode cX4_judge 28 = .ok (.invokevirtual 134, 3) := by decide +kernel
theorem dX4_judge_31 : decode cX4_judge 31 = .ok (.aload_n 0, 1) := by decide +kernel
theorem dX4_judge_32 : decode cX4_judge 32 = .ok (.getfield 33, 3) := by decide +kernel
theorem dX4_judge_35 : decode cX4_judge 35 = .ok (.getfield 138, 3) := by decide +kernel
theorem dX4_judge_38 : decode cX4_judge 38 = .ok (.bipush (-5), 2) := by decide +kernel
theorem dX4_judge_40 : decode cX4_judge 40 = .ok (.if_icmp .eq 20, 3) := by decide +kernel
theorem dX4_judge_43 : decode cX4_judge 43 = .ok (.aload_n 0, 1) := by decide +kernel
theorem dX4_judge_44 : decode cX4_judge 44 = .ok (.getfield 33, 3) := by decide +kernel
theorem dX4_judge_47 : decode cX4_judge 47 = .ok (.getfield 138, 3) := by decide +kernel
theorem dX4_judge_50 : decode cX4_judge 50 = .ok (.bipush (-3), 2) := by decide +kernel
theorem dX4_judge_52 : decode cX4_judge 52 = .ok (.if_icmp .ne 16, 3) := by decide +kernel
theorem dX4_judge_55 : decode cX4_judge 55 = .ok (.iload_n 1, 1) := by decide +kernel
theorem dX4_judge_56 : decode cX4_judge 56 = .ok (.iconst 2, 1) := by decide +kernel
theorem dX4_judge_57 : decode cX4_judge 57 = .ok (.if_icmp .lt 11, 3) := by decide +kernel
theorem dX4_judge_60 : decode cX4_judge 60 = .ok (.aload_n 0, 1) := by decide +kernel
theorem dX4_judge_61 : decode cX4_judge 61 = .ok (.getfield 33, 3) := by decide +kernel
theorem dX4_judge_64 : decode cX4_judge 64 = .ok (.getfield 138, 3) := by decide +kernel
theorem dX4_judge_67 : decode cX4_judge 67 = .ok (.ireturn, 1) := by decide +kernel
theorem dX4_judge_68 : decode cX4_judge 68 = .ok (.iload_n 1, 1) := by decide +kernel
theorem dX4_judge_69 : decode cX4_judge 69 = .ok (.tableswitch 97 0 3 #[31, 56, 81, 89], 31) := by decide +kernel
theorem dX4_judge_100 : decode cX4_judge 100 = .ok (.aload_n 0, 1) := by decide +kernel
theorem dX4_judge_101 : decode cX4_judge 101 = .ok (.getfield 33, 3) := by decide +kernel
theorem dX4_judge_104 : decode cX4_judge 104 = .ok (.getfield 138, 3) := by decide +kernel
theorem dX4_judge_107 : decode cX4_judge 107 = .ok (.bipush (-3), 2) := by decide +kernel
theorem dX4_judge_109 : decode cX4_judge 109 = .ok (.if_icmp .ne 13, 3) := by decide +kernel
theorem dX4_judge_112 : decode cX4_judge 112 = .ok (.aload_n 0, 1) := by decide +kernel
theorem dX4_judge_113 : decode cX4_judge 113 = .ok (.getfield 33, 3) := by decide +kernel
theorem dX4_judge_116 : decode cX4_judge 116 = .ok (.getfield 141, 3) := by decide +kernel
theorem dX4_judge_119 : decode cX4_judge 119 = .ok (.goto 5, 3) := by decide +kernel
theorem dX4_judge_122 : decode cX4_judge 122 = .ok (.bipush (-6), 2) := by decide +kernel
theorem dX4_judge_124 : decode cX4_judge 124 = .ok (.ireturn, 1) := by decide +kernel
theorem dX4_judge_125 : decode cX4_judge 125 = .ok (.aload_n 0, 1) := by decide +kernel
theorem dX4_judge_126 : decode cX4_judge 126 = .ok (.getfield 33, 3) := by decide +kernel
theorem dX4_judge_129 : decode cX4_judge 129 = .ok (.getfield 138, 3) := by decide +kernel
theorem dX4_judge_132 : decode cX4_judge 132 = .ok (.bipush (-3), 2) := by decide +kernel
theorem dX4_judge_134 : decode cX4_judge 134 = .ok (.if_icmp .ne 13, 3) := by decide +kernel
theorem dX4_judge_137 : decode cX4_judge 137 = .ok (.aload_n 0, 1) := by decide +kernel
theorem dX4_judge_138 : decode cX4_judge 138 = .ok (.getfield 33, 3) := by decide +kernel
theorem dX4_judge_141 : decode cX4_judge 141 = .ok (.getfield 144, 3) := by decide +kernel
theorem dX4_judge_144 : decode cX4_judge 144 = .ok (.goto 5, 3) := by decide +kernel
theorem dX4_judge_147 : decode cX4_judge 147 = .ok (.bipush (-6), 2) := by decide +kernel
theorem dX4_judge_149 : decode cX4_judge 149 = .ok (.ireturn, 1) := by decide +kernel
theorem dX4_judge_150 : decode cX4_judge 150 = .ok (.aload_n 0, 1) := by decide +kernel
theorem dX4_judge_151 : decode cX4_judge 151 = .ok (.getfield 33, 3) := by decide +kernel
theorem dX4_judge_154 : decode cX4_judge 154 = .ok (.getfield 147, 3) := by decide +kernel
theorem dX4_judge_157 : decode cX4_judge 157 = .ok (.ireturn, 1) := by decide +kernel
theorem dX4_judge_158 : decode cX4_judge 158 = .ok (.aload_n 0, 1) := by decide +kernel
theorem dX4_judge_159 : decode cX4_judge 159 = .ok (.getfield 33, 3) := by decide +kernel
theorem dX4_judge_162 : decode cX4_judge 162 = .ok (.getfield 150, 3) := by decide +kernel
theorem dX4_judge_165 : decode cX4_judge 165 = .ok (.ireturn, 1) := by decide +kernel
theorem dX4_judge_166 : decode cX4_judge 166 = .ok (.aload_n 0, 1) := by decide +kernel
theorem dX4_judge_167 : decode cX4_judge 167 = .ok (.getfield 33, 3) := by decide +kernel
theorem dX4_judge_170 : decode cX4_judge 170 = .ok (.getfield 153, 3) := by decide +kernel
theorem dX4_judge_173 : decode cX4_judge 173 = .ok (.ireturn, 1) := by decide +kernel
theorem dX4_behind_0 : decode cX4_behind 0 = .ok (.aload_n 0, 1) := by decide +kernel
theorem dX4_behind_1 : decode cX4_behind 1 = .ok (.getfield 10, 3) := by decide +kernel
theorem dX4_behind_4 : decode cX4_behind 4 = .ok (.iload_n 1, 1) := by decide +kernel
theorem dX4_behind_5 : decode cX4_behind 5 = .ok (.invokevirtual 106, 3) := by decide +kernel
theorem dX4_behind_8 : decode cX4_behind 8 = .ok (.ifCond .ne 5, 3) := by decide +kernel
theorem dX4_behind_11 : decode cX4_behind 11 = .ok (.iconst (-1), 1) := by decide +kernel
theorem dX4_behind_12 : decode cX4_behind 12 = .ok (.ireturn, 1) := by decide +kernel
theorem dX4_behind_13 : decode cX4_behind 13 = .ok (.iload_n 2, 1) := by decide +kernel
theorem dX4_behind_14 : decode cX4_behind 14 = .ok (.iconst 0, 1) := by decide +kernel
theorem dX4_behind_15 : decode cX4_behind 15 = .ok (.iconst 2, 1) := by decide +kernel
theorem dX4_behind_16 : decode cX4_behind 16 = .ok (.invokestatic 44, 3) := by decide +kernel
theorem dX4_behind_19 : decode cX4_behind 19 = .ok (.ifCond .ne 6, 3) := by decide +kernel
theorem dX4_behind_22 : decode cX4_behind 22 = .ok (.bipush (-2), 2) := by decide +kernel
theorem dX4_behind_24 : decode cX4_behind 24 = .ok (.ireturn, 1) := by decide +kernel
theorem dX4_behind_25 : decode cX4_behind 25 = .ok (.aload_n 0, 1) := by decide +kernel
theorem dX4_behind_26 : decode cX4_behind 26 = .ok (.getfield 33, 3) := by decide +kernel
theorem dX4_behind_29 : decode cX4_behind 29 = .ok (.aload_n 0, 1) := by decide +kernel
theorem dX4_behind_30 : decode cX4_behind 30 = .ok (.getfield 26, 3) := by decide +kernel
theorem dX4_behind_33 : decode cX4_behind 33 = .ok (.aload_n 0, 1) := by decide +kernel
theorem dX4_behind_34 : decode cX4_behind 34 = .ok (.getfield 10, 3) := by decide +kernel
theorem dX4_behind_37 : decode cX4_behind 37 = .ok (.aload_n 0, 1) := by decide +kernel
theorem dX4_behind_38 : decode cX4_behind 38 = .ok (.getfield 16, 3) := by decide +kernel
theorem dX4_behind_41 : decode cX4_behind 41 = .ok (.invokevirtual 134, 3) := by decide +kernel
theorem dX4_behind_44 : decode cX4_behind 44 = .ok (.aload_n 0, 1) := by decide +kernel
theorem dX4_behind_45 : decode cX4_behind 45 = .ok (.getfield 33, 3) := by decide +kernel
theorem dX4_behind_48 : decode cX4_behind 48 = .ok (.getfield 138, 3) := by decide +kernel
theorem dX4_behind_51 : decode cX4_behind 51 = .ok (.ifCond .eq 11, 3) := by decide +kernel
theorem dX4_behind_54 : decode cX4_behind 54 = .ok (.aload_n 0, 1) := by decide +kernel
theorem dX4_behind_55 : decode cX4_behind 55 = .ok (.getfield 33, 3) := by decide +kernel
theorem dX4_behind_58 : decode cX4_behind 58 = .ok (.getfield 138, 3) := by decide +kernel
theorem dX4_behind_61 : decode cX4_behind 61 = .ok (.ireturn, 1) := by decide +kernel
theorem dX4_behind_62 : decode cX4_behind 62 = .ok (.iload_n 2, 1) := by decide +kernel
theorem dX4_behind_63 : decode cX4_behind 63 = .ok (.lookupswitch 44 #[(0, 25), (1, 35)], 25) := by decide +kernel
theorem dX4_behind_88 : decode cX4_behind 88 = .ok (.aload_n 0, 1) := by decide +kernel
theorem dX4_behind_89 : decode cX4_behind 89 = .ok (.getfield 16, 3) := by decide +kernel
theorem dX4_behind_92 : decode cX4_behind 92 = .ok (.getfield 97, 3) := by decide +kernel
theorem dX4_behind_95 : decode cX4_behind 95 = .ok (.iload_n 1, 1) := by decide +kernel
theorem dX4_behind_96 : decode cX4_behind 96 = .ok (.iaload, 1) := by decide +kernel
theorem dX4_behind_97 : decode cX4_behind 97 = .ok (.ireturn, 1) := by decide +kernel
theorem dX4_behind_98 : decode cX4_behind 98 = .ok (.aload_n 0, 1) := by decide +kernel
theorem dX4_behind_99 : decode cX4_behind 99 = .ok (.getfield 16, 3) := by decide +kernel
theorem dX4_behind_102 : decode cX4_behind 102 = .ok (.iload_n 1, 1) := by decide +kernel
theorem dX4_behind_103 : decode cX4_behind 103 = .ok (.invokevirtual 156, 3) := by decide +kernel
theorem dX4_behind_106 : decode cX4_behind 106 = .ok (.ireturn, 1) := by decide +kernel
theorem dX4_behind_107 : decode cX4_behind 107 = .ok (.aload_n 0, 1) := by decide +kernel
theorem dX4_behind_108 : decode cX4_behind 108 = .ok (.getfield 16, 3) := by decide +kernel
theorem dX4_behind_111 : decode cX4_behind 111 = .ok (.getfield 103, 3) := by decide +kernel
theorem dX4_behind_114 : decode cX4_behind 114 = .ok (.iload_n 1, 1) := by decide +kernel
theorem dX4_behind_115 : decode cX4_behind 115 = .ok (.iaload, 1) := by decide +kernel
theorem dX4_behind_116 : decode cX4_behind 116 = .ok (.ireturn, 1) := by decide +kernel
theorem dX4_done_0 : decode cX4_done 0 = .ok (.aload_n 0, 1) := by decide +kernel
theorem dX4_done_1 : decode cX4_done 1 = .ok (.getfield 33, 3) := by decide +kernel
theorem dX4_done_4 : decode cX4_done 4 = .ok (.aload_n 0, 1) := by decide +kernel
theorem dX4_done_5 : decode cX4_done 5 = .ok (.getfield 26, 3) := by decide +kernel
theorem dX4_done_8 : decode cX4_done 8 = .ok (.aload_n 0, 1) := by decide +kernel
theorem dX4_done_9 : decode cX4_done 9 = .ok (.getfield 10, 3) := by decide +kernel
theorem dX4_done_12 : decode cX4_done 12 = .ok (.aload_n 0, 1) := by decide +kernel
theorem dX4_done_13 : decode cX4_done 13 = .ok (.getfield 16, 3) := by decide +kernel
theorem dX4_done_16 : decode cX4_done 16 = .ok (.invokevirtual 134, 3) := by decide +kernel
theorem dX4_done_19 : decode cX4_done 19 = .ok (.aload_n 0, 1) := by decide +kernel
theorem dX4_done_20 : decode cX4_done 20 = .ok (.getfield 33, 3) := by decide +kernel
theorem dX4_done_23 : decode cX4_done 23 = .ok (.getfield 138, 3) := by decide +kernel
theorem dX4_done_26 : decode cX4_done 26 = .ok (.ifCond .eq 11, 3) := by decide +kernel
theorem dX4_done_29 : decode cX4_done 29 = .ok (.aload_n 0, 1) := by decide +kernel
theorem dX4_done_30 : decode cX4_done 30 = .ok (.getfield 33, 3) := by decide +kernel
theorem dX4_done_33 : decode cX4_done 33 = .ok (.getfield 138, 3) := by decide +kernel
theorem dX4_done_36 : decode cX4_done 36 = .ok (.ireturn, 1) := by decide +kernel
theorem dX4_done_37 : decode cX4_done 37 = .ok (.aload_n 0, 1) := by decide +kernel
theorem dX4_done_38 : decode cX4_done 38 = .ok (.getfield 10, 3) := by decide +kernel
theorem dX4_done_41 : decode cX4_done 41 = .ok (.aload_n 0, 1) := by decide +kernel
theorem dX4_done_42 : decode cX4_done 42 = .ok (.getfield 16, 3) := by decide +kernel
theorem dX4_done_45 : decode cX4_done 45 = .ok (.invokevirtual 159, 3) := by decide +kernel
theorem dX4_done_48 : decode cX4_done 48 = .ok (.aload_n 0, 1) := by decide +kernel
theorem dX4_done_49 : decode cX4_done 49 = .ok (.getfield 26, 3) := by decide +kernel
theorem dX4_done_52 : decode cX4_done 52 = .ok (.iconst 0, 1) := by decide +kernel
theorem dX4_done_53 : decode cX4_done 53 = .ok (.putfield 124, 3) := by decide +kernel
theorem dX4_done_56 : decode cX4_done 56 = .ok (.aload_n 0, 1) := by decide +kernel
theorem dX4_done_57 : decode cX4_done 57 = .ok (.getfield 33, 3) := by decide +kernel
theorem dX4_done_60 : decode cX4_done 60 = .ok (.getfield 141, 3) := by decide +kernel
theorem dX4_done_63 : decode cX4_done 63 = .ok (.ireturn, 1) := by decide +kernel
theorem dX4_heavy_0 : decode cX4_heavy 0 = .ok (.aload_n 0, 1) := by decide +kernel
theorem dX4_heavy_1 : decode cX4_heavy 1 = .ok (.getfield 10, 3) := by decide +kernel
theorem dX4_heavy_4 : decode cX4_heavy 4 = .ok (.iload_n 1, 1) := by decide +kernel
theorem dX4_heavy_5 : decode cX4_heavy 5 = .ok (.invokevirtual 106, 3) := by decide +kernel
theorem dX4_heavy_8 : decode cX4_heavy 8 = .ok (.ifCond .eq 10, 3) := by decide +kernel
theorem dX4_heavy_11 : decode cX4_heavy 11 = .ok (.iload_n 2, 1) := by decide +kernel
theorem dX4_heavy_12 : decode cX4_heavy 12 = .ok (.invokestatic 109, 3) := by decide +kernel
theorem dX4_heavy_15 : decode cX4_heavy 15 = .ok (.ifCond .ne 5, 3) := by decide +kernel
theorem dX4_heavy_18 : decode cX4_heavy 18 = .ok (.iconst (-1), 1) := by decide +kernel
theorem dX4_heavy_19 : decode cX4_heavy 19 = .ok (.ireturn, 1) := by decide +kernel
theorem dX4_heavy_20 : decode cX4_heavy 20 = .ok (.aload_n 0, 1) := by decide +kernel
theorem dX4_heavy_21 : decode cX4_heavy 21 = .ok (.getfield 10, 3) := by decide +kernel
theorem dX4_heavy_24 : decode cX4_heavy 24 = .ok (.getfield 103, 3) := by decide +kernel
theorem dX4_heavy_27 : decode cX4_heavy 27 = .ok (.iload_n 1, 1) := by decide +kernel
theorem dX4_heavy_28 : decode cX4_heavy 28 = .ok (.iaload, 1) := by decide +kernel
theorem dX4_heavy_29 : decode cX4_heavy 29 = .ok (.iload_n 2, 1) := by decide +kernel
theorem dX4_heavy_30 : decode cX4_heavy 30 = .ok (.invokestatic 163, 3) := by decide +kernel
theorem dX4_heavy_33 : decode cX4_heavy 33 = .ok (.ifCond .eq 19, 3) := by decide +kernel
theorem dX4_heavy_36 : decode cX4_heavy 36 = .ok (.aload_n 0, 1) := by decide +kernel
theorem dX4_heavy_37 : decode cX4_heavy 37 = .ok (.getfield 10, 3) := by decide +kernel
theorem dX4_heavy_40 : decode cX4_heavy 40 = .ok (.iload_n 1, 1) := by decide +kernel
theorem dX4_heavy_41 : decode cX4_heavy 41 = .ok (.iload_n 2, 1) := by decide +kernel
theorem dX4_heavy_42 : decode cX4_heavy 42 = .ok (.invokevirtual 167, 3) := by decide +kernel
theorem dX4_heavy_45 : decode cX4_heavy 45 = .ok (.sipush 1000, 3) := by decide +kernel
theorem dX4_heavy_48 : decode cX4_heavy 48 = .ok (.iadd, 1) := by decide +kernel
theorem dX4_heavy_49 : decode cX4_heavy 49 = .ok (.goto 5, 3) := by decide +kernel
theorem dX4_heavy_52 : decode cX4_heavy 52 = .ok (.bipush (-6), 2) := by decide +kernel
theorem dX4_heavy_54 : decode cX4_heavy 54 = .ok (.ireturn, 1) := by decide +kernel
theorem dX4_carries_0 : decode cX4_carries 0 = .ok (.aload_n 0, 1) := by decide +kernel
theorem dX4_carries_1 : decode cX4_carries 1 = .ok (.getfield 10, 3) := by decide +kernel
theorem dX4_carries_4 : decode cX4_carries 4 = .ok (.iload_n 1, 1) := by decide +kernel
theorem dX4_carries_5 : decode cX4_carries 5 = .ok (.invokevirtual 106, 3) := by decide +kernel
theorem dX4_carries_8 : decode cX4_carries 8 = .ok (.ifCond .eq 14, 3) := by decide +kernel
theorem dX4_carries_11 : decode cX4_carries 11 = .ok (.aload_n 0, 1) := by decide +kernel
theorem dX4_carries_12 : decode cX4_carries 12 = .ok (.getfield 10, 3) := by decide +kernel
theorem dX4_carries_15 : decode cX4_carries 15 = .ok (.iload_n 1, 1) := by decide +kernel
theorem dX4_carries_16 : decode cX4_carries 16 = .ok (.invokevirtual 156, 3) := by decide +kernel
theorem dX4_carries_19 : decode cX4_carries 19 = .ok (.goto 4, 3) := by decide +kernel
theorem dX4_carries_22 : decode cX4_carries 22 = .ok (.iconst (-1), 1) := by decide +kernel
theorem dX4_carries_23 : decode cX4_carries 23 = .ok (.ireturn, 1) := by decide +kernel
theorem dX4_bent_0 : decode cX4_bent 0 = .ok (.aload_n 0, 1) := by decide +kernel
theorem dX4_bent_1 : decode cX4_bent 1 = .ok (.getfield 10, 3) := by decide +kernel
theorem dX4_bent_4 : decode cX4_bent 4 = .ok (.iload_n 1, 1) := by decide +kernel
theorem dX4_bent_5 : decode cX4_bent 5 = .ok (.invokevirtual 91, 3) := by decide +kernel
theorem dX4_bent_8 : decode cX4_bent 8 = .ok (.ifCond .eq 15, 3) := by decide +kernel
theorem dX4_bent_11 : decode cX4_bent 11 = .ok (.aload_n 0, 1) := by decide +kernel
theorem dX4_bent_12 : decode cX4_bent 12 = .ok (.getfield 10, 3) := by decide +kernel
theorem dX4_bent_15 : decode cX4_bent 15 = .ok (.getfield 82, 3) := by decide +kernel
theorem dX4_bent_18 : decode cX4_bent 18 = .ok (.iload_n 1, 1) := by decide +kernel
theorem dX4_bent_19 : decode cX4_bent 19 = .ok (.iaload, 1) := by decide +kernel
theorem dX4_bent_20 : decode cX4_bent 20 = .ok (.goto 4, 3) := by decide +kernel
theorem dX4_bent_23 : decode cX4_bent 23 = .ok (.iconst (-1), 1) := by decide +kernel
theorem dX4_bent_24 : decode cX4_bent 24 = .ok (.ireturn, 1) := by decide +kernel
theorem dX4_way_0 : decode cX4_way 0 = .ok (.aload_n 0, 1) := by decide +kernel
theorem dX4_way_1 : decode cX4_way 1 = .ok (.getfield 10, 3) := by decide +kernel
theorem dX4_way_4 : decode cX4_way 4 = .ok (.iload_n 1, 1) := by decide +kernel
theorem dX4_way_5 : decode cX4_way 5 = .ok (.invokevirtual 106, 3) := by decide +kernel
theorem dX4_way_8 : decode cX4_way 8 = .ok (.ifCond .eq 14, 3) := by decide +kernel
theorem dX4_way_11 : decode cX4_way 11 = .ok (.aload_n 0, 1) := by decide +kernel
theorem dX4_way_12 : decode cX4_way 12 = .ok (.getfield 10, 3) := by decide +kernel
theorem dX4_way_15 : decode cX4_way 15 = .ok (.iload_n 2, 1) := by decide +kernel
theorem dX4_way_16 : decode cX4_way 16 = .ok (.invokevirtual 56, 3) := by decide +kernel
theorem dX4_way_19 : decode cX4_way 19 = .ok (.ifCond .ne 5, 3) := by decide +kernel
theorem dX4_way_22 : decode cX4_way 22 = .ok (.iconst (-1), 1) := by decide +kernel
theorem dX4_way_23 : decode cX4_way 23 = .ok (.ireturn, 1) := by decide +kernel
theorem dX4_way_24 : decode cX4_way 24 = .ok (.aload_n 0, 1) := by decide +kernel
theorem dX4_way_25 : decode cX4_way 25 = .ok (.getfield 10, 3) := by decide +kernel
theorem dX4_way_28 : decode cX4_way 28 = .ok (.aload_n 0, 1) := by decide +kernel
theorem dX4_way_29 : decode cX4_way 29 = .ok (.getfield 10, 3) := by decide +kernel
theorem dX4_way_32 : decode cX4_way 32 = .ok (.iload_n 1, 1) := by decide +kernel
theorem dX4_way_33 : decode cX4_way 33 = .ok (.invokevirtual 156, 3) := by decide +kernel
theorem dX4_way_36 : decode cX4_way 36 = .ok (.invokevirtual 170, 3) := by decide +kernel
theorem dX4_way_39 : decode cX4_way 39 = .ok (.istore 4, 2) := by decide +kernel
theorem dX4_way_41 : decode cX4_way 41 = .ok (.aload_n 0, 1) := by decide +kernel
theorem dX4_way_42 : decode cX4_way 42 = .ok (.getfield 10, 3) := by decide +kernel
theorem dX4_way_45 : decode cX4_way 45 = .ok (.getfield 97, 3) := by decide +kernel
theorem dX4_way_48 : decode cX4_way 48 = .ok (.iload_n 1, 1) := by decide +kernel
theorem dX4_way_49 : decode cX4_way 49 = .ok (.iaload, 1) := by decide +kernel
theorem dX4_way_50 : decode cX4_way 50 = .ok (.istore 5, 2) := by decide +kernel
theorem dX4_way_52 : decode cX4_way 52 = .ok (.iload_n 3, 1) := by decide +kernel
theorem dX4_way_53 : decode cX4_way 53 = .ok (.iconst (-1), 1) := by decide +kernel
theorem dX4_way_54 : decode cX4_way 54 = .ok (.if_icmp .ne 18, 3) := by decide +kernel
theorem dX4_way_57 : decode cX4_way 57 = .ok (.aload_n 0, 1) := by decide +kernel
theorem dX4_way_58 : decode cX4_way 58 = .ok (.getfield 10, 3) := by decide +kernel
theorem dX4_way_61 : decode cX4_way 61 = .ok (.iload 5, 2) := by decide +kernel
theorem dX4_way_63 : decode cX4_way 63 = .ok (.iload_n 2, 1) := by decide +kernel
theorem dX4_way_64 : decode cX4_way 64 = .ok (.iload 4, 2) := by decide +kernel
theorem dX4_way_66 : decode cX4_way 66 = .ok (.invokevirtual 173, 3) := by decide +kernel
theorem dX4_way_69 : decode cX4_way 69 = .ok (.goto 16, 3) := by decide +kernel
theorem dX4_way_72 : decode cX4_way 72 = .ok (.aload_n 0, 1) := by decide +kernel
theorem dX4_way_73 : decode cX4_way 73 = .ok (.getfield 10, 3) := by decide +kernel
theorem dX4_way_76 : decode cX4_way 76 = .ok (.iload 5, 2) := by decide +kernel
theorem dX4_way_78 : decode cX4_way 78 = .ok (.iload_n 2, 1) := by decide +kernel
theorem dX4_way_79 : decode cX4_way 79 = .ok (.iload 4, 2) := by decide +kernel
theorem dX4_way_81 : decode cX4_way 81 = .ok (.iload_n 3, 1) := by decide +kernel
theorem dX4_way_82 : decode cX4_way 82 = .ok (.invokevirtual 177, 3) := by decide +kernel
theorem dX4_way_85 : decode cX4_way 85 = .ok (.ireturn, 1) := by decide +kernel
theorem dX4_left_0 : decode cX4_left 0 = .ok (.aload_n 0, 1) := by decide +kernel
theorem dX4_left_1 : decode cX4_left 1 = .ok (.iload_n 1, 1) := by decide +kernel
theorem dX4_left_2 : decode cX4_left 2 = .ok (.iload_n 2, 1) := by decide +kernel
theorem dX4_left_3 : decode cX4_left 3 = .ok (.iload_n 3, 1) := by decide +kernel
theorem dX4_left_4 : decode cX4_left 4 = .ok (.invokevirtual 181, 3) := by decide +kernel
theorem dX4_left_7 : decode cX4_left 7 = .ok (.istore 4, 2) := by decide +kernel
theorem dX4_left_9 : decode cX4_left 9 = .ok (.iload 4, 2) := by decide +kernel
theorem dX4_left_11 : decode cX4_left 11 = .ok (.ifCond .eq 8, 3) := by decide +kernel
theorem dX4_left_14 : decode cX4_left 14 = .ok (.iload 4, 2) := by decide +kernel
theorem dX4_left_16 : decode cX4_left 16 = .ok (.goto 22, 3) := by decide +kernel
theorem dX4_left_19 : decode cX4_left 19 = .ok (.aload_n 0, 1) := by decide +kernel
theorem dX4_left_20 : decode cX4_left 20 = .ok (.iload_n 1, 1) := by decide +kernel
theorem dX4_left_21 : decode cX4_left 21 = .ok (.iload_n 2, 1) := by decide +kernel
theorem dX4_left_22 : decode cX4_left 22 = .ok (.aload_n 0, 1) := by decide +kernel
theorem dX4_left_23 : decode cX4_left 23 = .ok (.getfield 10, 3) := by decide +kernel
theorem dX4_left_26 : decode cX4_left 26 = .ok (.getfield 103, 3) := by decide +kernel
theorem dX4_left_29 : decode cX4_left 29 = .ok (.iload_n 1, 1) := by decide +kernel
theorem dX4_left_30 : decode cX4_left 30 = .ok (.iaload, 1) := by decide +kernel
theorem dX4_left_31 : decode cX4_left 31 = .ok (.invokevirtual 184, 3) := by decide +kernel
theorem dX4_left_34 : decode cX4_left 34 = .ok (.iload_n 3, 1) := by decide +kernel
theorem dX4_left_35 : decode cX4_left 35 = .ok (.invokestatic 187, 3) := by decide +kernel
theorem dX4_left_38 : decode cX4_left 38 = .ok (.ireturn, 1) := by decide +kernel
theorem dX4_cried_0 : decode cX4_cried 0 = .ok (.aload_n 0, 1) := by decide +kernel
theorem dX4_cried_1 : decode cX4_cried 1 = .ok (.iload_n 1, 1) := by decide +kernel
theorem dX4_cried_2 : decode cX4_cried 2 = .ok (.iload_n 2, 1) := by decide +kernel
theorem dX4_cried_3 : decode cX4_cried 3 = .ok (.iload_n 3, 1) := by decide +kernel
theorem dX4_cried_4 : decode cX4_cried 4 = .ok (.invokevirtual 181, 3) := by decide +kernel
theorem dX4_cried_7 : decode cX4_cried 7 = .ok (.istore 4, 2) := by decide +kernel
theorem dX4_cried_9 : decode cX4_cried 9 = .ok (.iload 4, 2) := by decide +kernel
theorem dX4_cried_11 : decode cX4_cried 11 = .ok (.ifCond .eq 8, 3) := by decide +kernel
theorem dX4_cried_14 : decode cX4_cried 14 = .ok (.iload 4, 2) := by decide +kernel
theorem dX4_cried_16 : decode cX4_cried 16 = .ok (.goto 22, 3) := by decide +kernel
theorem dX4_cried_19 : decode cX4_cried 19 = .ok (.aload_n 0, 1) := by decide +kernel
theorem dX4_cried_20 : decode cX4_cried 20 = .ok (.iload_n 1, 1) := by decide +kernel
theorem dX4_cried_21 : decode cX4_cried 21 = .ok (.iload_n 2, 1) := by decide +kernel
theorem dX4_cried_22 : decode cX4_cried 22 = .ok (.aload_n 0, 1) := by decide +kernel
theorem dX4_cried_23 : decode cX4_cried 23 = .ok (.getfield 10, 3) := by decide +kernel
theorem dX4_cried_26 : decode cX4_cried 26 = .ok (.getfield 103, 3) := by decide +kernel
theorem dX4_cried_29 : decode cX4_cried 29 = .ok (.iload_n 1, 1) := by decide +kernel
theorem dX4_cried_30 : decode cX4_cried 30 = .ok (.iaload, 1) := by decide +kernel
theorem dX4_cried_31 : decode cX4_cried 31 = .ok (.invokevirtual 184, 3) := by decide +kernel
theorem dX4_cried_34 : decode cX4_cried 34 = .ok (.iload_n 3, 1) := by decide +kernel
theorem dX4_cried_35 : decode cX4_cried 35 = .ok (.invokestatic 187, 3) := by decide +kernel
theorem dX4_cried_38 : decode cX4_cried 38 = .ok (.ireturn, 1) := by decide +kernel
theorem dX4_floated_0 : decode cX4_floated 0 = .ok (.aload_n 0, 1) := by decide +kernel
theorem dX4_floated_1 : decode cX4_floated 1 = .ok (.iload_n 1, 1) := by decide +kernel
theorem dX4_floated_2 : decode cX4_floated 2 = .ok (.iload_n 2, 1) := by decide +kernel
theorem dX4_floated_3 : decode cX4_floated 3 = .ok (.iload_n 3, 1) := by decide +kernel
theorem dX4_floated_4 : decode cX4_floated 4 = .ok (.invokevirtual 181, 3) := by decide +kernel
theorem dX4_floated_7 : decode cX4_floated 7 = .ok (.istore 4, 2) := by decide +kernel
theorem dX4_floated_9 : decode cX4_floated 9 = .ok (.iload 4, 2) := by decide +kernel
theorem dX4_floated_11 : decode cX4_floated 11 = .ok (.ifCond .eq 6, 3) := by decide +kernel
theorem dX4_floated_14 : decode cX4_floated 14 = .ok (.iload 4, 2) := by decide +kernel
theorem dX4_floated_16 : decode cX4_floated 16 = .ok (.ireturn, 1) := by decide +kernel
theorem dX4_floated_17 : decode cX4_floated 17 = .ok (.aload_n 0, 1) := by decide +kernel
theorem dX4_floated_18 : decode cX4_floated 18 = .ok (.getfield 10, 3) := by decide +kernel
theorem dX4_floated_21 : decode cX4_floated 21 = .ok (.invokevirtual 190, 3) := by decide +kernel
theorem dX4_floated_24 : decode cX4_floated 24 = .ok (.aload_n 0, 1) := by decide +kernel
theorem dX4_floated_25 : decode cX4_floated 25 = .ok (.getfield 10, 3) := by decide +kernel
theorem dX4_floated_28 : decode cX4_floated 28 = .ok (.getfield 118, 3) := by decide +kernel
theorem dX4_floated_31 : decode cX4_floated 31 = .ok (.iconst (-1), 1) := by decide +kernel
theorem dX4_floated_32 : decode cX4_floated 32 = .ok (.ixor, 1) := by decide +kernel
theorem dX4_floated_33 : decode cX4_floated 33 = .ok (.iand, 1) := by decide +kernel
theorem dX4_floated_34 : decode cX4_floated 34 = .ok (.aload_n 0, 1) := by decide +kernel
theorem dX4_floated_35 : decode cX4_floated 35 = .ok (.getfield 10, 3) := by decide +kernel
theorem dX4_floated_38 : decode cX4_floated 38 = .ok (.getfield 103, 3) := by decide +kernel
theorem dX4_floated_41 : decode cX4_floated 41 = .ok (.iload_n 1, 1) := by decide +kernel
theorem dX4_floated_42 : decode cX4_floated 42 = .ok (.iaload, 1) := by decide +kernel
theorem dX4_floated_43 : decode cX4_floated 43 = .ok (.iconst (-1), 1) := by decide +kernel
theorem dX4_floated_44 : decode cX4_floated 44 = .ok (.ixor, 1) := by decide +kernel
theorem dX4_floated_45 : decode cX4_floated 45 = .ok (.iand, 1) := by decide +kernel
theorem dX4_floated_46 : decode cX4_floated 46 = .ok (.istore 5, 2) := by decide +kernel
theorem dX4_floated_48 : decode cX4_floated 48 = .ok (.aload_n 0, 1) := by decide +kernel
theorem dX4_floated_49 : decode cX4_floated 49 = .ok (.iload_n 1, 1) := by decide +kernel
theorem dX4_floated_50 : decode cX4_floated 50 = .ok (.iload_n 2, 1) := by decide +kernel
theorem dX4_floated_51 : decode cX4_floated 51 = .ok (.iload 5, 2) := by decide +kernel
theorem dX4_floated_53 : decode cX4_floated 53 = .ok (.invokevirtual 184, 3) := by decide +kernel
theorem dX4_floated_56 : decode cX4_floated 56 = .ok (.iload_n 3, 1) := by decide +kernel
theorem dX4_floated_57 : decode cX4_floated 57 = .ok (.invokestatic 187, 3) := by decide +kernel
theorem dX4_floated_60 : decode cX4_floated 60 = .ok (.ireturn, 1) := by decide +kernel
theorem dX4_mended_0 : decode cX4_mended 0 = .ok (.aload_n 0, 1) := by decide +kernel
theorem dX4_mended_1 : decode cX4_mended 1 = .ok (.iload_n 1, 1) := by decide +kernel
theorem dX4_mended_2 : decode cX4_mended 2 = .ok (.iload_n 2, 1) := by decide +kernel
theorem dX4_mended_3 : decode cX4_mended 3 = .ok (.iload_n 3, 1) := by decide +kernel
theorem dX4_mended_4 : decode cX4_mended 4 = .ok (.invokevirtual 181, 3) := by decide +kernel
theorem dX4_mended_7 : decode cX4_mended 7 = .ok (.istore 4, 2) := by decide +kernel
theorem dX4_mended_9 : decode cX4_mended 9 = .ok (.iload 4, 2) := by decide +kernel
theorem dX4_mended_11 : decode cX4_mended 11 = .ok (.ifCond .eq 6, 3) := by decide +kernel
theorem dX4_mended_14 : decode cX4_mended 14 = .ok (.iload 4, 2) := by decide +kernel
theorem dX4_mended_16 : decode cX4_mended 16 = .ok (.ireturn, 1) := by decide +kernel
theorem dX4_mended_17 : decode cX4_mended 17 = .ok (.aload_n 0, 1) := by decide +kernel
theorem dX4_mended_18 : decode cX4_mended 18 = .ok (.getfield 10, 3) := by decide +kernel
theorem dX4_mended_21 : decode cX4_mended 21 = .ok (.iload_n 1, 1) := by decide +kernel
theorem dX4_mended_22 : decode cX4_mended 22 = .ok (.invokevirtual 156, 3) := by decide +kernel
theorem dX4_mended_25 : decode cX4_mended 25 = .ok (.istore 5, 2) := by decide +kernel
theorem dX4_mended_27 : decode cX4_mended 27 = .ok (.aload_n 0, 1) := by decide +kernel
theorem dX4_mended_28 : decode cX4_mended 28 = .ok (.aload_n 0, 1) := by decide +kernel
theorem dX4_mended_29 : decode cX4_mended 29 = .ok (.getfield 10, 3) := by decide +kernel
theorem dX4_mended_32 : decode cX4_mended 32 = .ok (.getfield 97, 3) := by decide +kernel
theorem dX4_mended_35 : decode cX4_mended 35 = .ok (.iload_n 1, 1) := by decide +kernel
theorem dX4_mended_36 : decode cX4_mended 36 = .ok (.iaload, 1) := by decide +kernel
theorem dX4_mended_37 : decode cX4_mended 37 = .ok (.iload_n 2, 1) := by decide +kernel
theorem dX4_mended_38 : decode cX4_mended 38 = .ok (.iload 5, 2) := by decide +kernel
theorem dX4_mended_40 : decode cX4_mended 40 = .ok (.invokevirtual 193, 3) := by decide +kernel
theorem dX4_mended_43 : decode cX4_mended 43 = .ok (.istore 6, 2) := by decide +kernel
theorem dX4_mended_45 : decode cX4_mended 45 = .ok (.iload 6, 2) := by decide +kernel
theorem dX4_mended_47 : decode cX4_mended 47 = .ok (.bipush (-6), 2) := by decide +kernel
theorem dX4_mended_49 : decode cX4_mended 49 = .ok (.if_icmp .ne 6, 3) := by decide +kernel
theorem dX4_mended_52 : decode cX4_mended 52 = .ok (.bipush (-6), 2) := by decide +kernel
theorem dX4_mended_54 : decode cX4_mended 54 = .ok (.ireturn, 1) := by decide +kernel
theorem dX4_mended_55 : decode cX4_mended 55 = .ok (.iload_n 3, 1) := by decide +kernel
theorem dX4_mended_56 : decode cX4_mended 56 = .ok (.ifCond .ne 8, 3) := by decide +kernel
theorem dX4_mended_59 : decode cX4_mended 59 = .ok (.iload 6, 2) := by decide +kernel
theorem dX4_mended_61 : decode cX4_mended 61 = .ok (.goto 16, 3) := by decide +kernel
theorem dX4_mended_64 : decode cX4_mended 64 = .ok (.iload 5, 2) := by decide +kernel
theorem dX4_mended_66 : decode cX4_mended 66 = .ok (.aload_n 0, 1) := by decide +kernel
theorem dX4_mended_67 : decode cX4_mended 67 = .ok (.getfield 10, 3) := by decide +kernel
theorem dX4_mended_70 : decode cX4_mended 70 = .ok (.getfield 79, 3) := by decide +kernel
theorem dX4_mended_73 : decode cX4_mended 73 = .ok (.iload 6, 2) := by decide +kernel
theorem dX4_mended_75 : decode cX4_mended 75 = .ok (.iaload, 1) := by decide +kernel
theorem dX4_mended_76 : decode cX4_mended 76 = .ok (.isub, 1) := by decide +kernel
theorem dX4_mended_77 : decode cX4_mended 77 = .ok (.ireturn, 1) := by decide +kernel
theorem dX4_rumour_0 : decode cX4_rumour 0 = .ok (.iload_n 1, 1) := by decide +kernel
theorem dX4_rumour_1 : decode cX4_rumour 1 = .ok (.invokestatic 109, 3) := by decide +kernel
theorem dX4_rumour_4 : decode cX4_rumour 4 = .ok (.ifCond .ne 5, 3) := by decide +kernel
theorem dX4_rumour_7 : decode cX4_rumour 7 = .ok (.iconst (-1), 1) := by decide +kernel
theorem dX4_rumour_8 : decode cX4_rumour 8 = .ok (.ireturn, 1) := by decide +kernel
theorem dX4_rumour_9 : decode cX4_rumour 9 = .ok (.aload_n 0, 1) := by decide +kernel
theorem dX4_rumour_10 : decode cX4_rumour 10 = .ok (.getfield 16, 3) := by decide +kernel
theorem dX4_rumour_13 : decode cX4_rumour 13 = .ok (.aload_n 0, 1) := by decide +kernel
theorem dX4_rumour_14 : decode cX4_rumour 14 = .ok (.getfield 10, 3) := by decide +kernel
theorem dX4_rumour_17 : decode cX4_rumour 17 = .ok (.invokevirtual 159, 3) := by decide +kernel
theorem dX4_rumour_20 : decode cX4_rumour 20 = .ok (.iconst 0, 1) := by decide +kernel
theorem dX4_rumour_21 : decode cX4_rumour 21 = .ok (.istore_n 2, 1) := by decide +kernel
theorem dX4_rumour_22 : decode cX4_rumour 22 = .ok (.iload_n 2, 1) := by decide +kernel
theorem dX4_rumour_23 : decode cX4_rumour 23 = .ok (.bipush 6, 2) := by decide +kernel
theorem dX4_rumour_25 : decode cX4_rumour 25 = .ok (.if_icmp .gt 36, 3) := by decide +kernel
theorem dX4_rumour_28 : decode cX4_rumour 28 = .ok (.aload_n 0, 1) := by decide +kernel
theorem dX4_rumour_29 : decode cX4_rumour 29 = .ok (.getfield 16, 3) := by decide +kernel
theorem dX4_rumour_32 : decode cX4_rumour 32 = .ok (.iload_n 1, 1) := by decide +kernel
theorem dX4_rumour_33 : decode cX4_rumour 33 = .ok (.invokevirtual 196, 3) := by decide +kernel
theorem dX4_rumour_36 : decode cX4_rumour 36 = .ok (.istore_n 3, 1) := by decide +kernel
theorem dX4_rumour_37 : decode cX4_rumour 37 = .ok (.iload_n 3, 1) := by decide +kernel
theorem dX4_rumour_38 : decode cX4_rumour 38 = .ok (.ifCond .ne 6, 3) := by decide +kernel
theorem dX4_rumour_41 : decode cX4_rumour 41 = .ok (.goto 20, 3) := by decide +kernel
theorem dX4_rumour_44 : decode cX4_rumour 44 = .ok (.aload_n 0, 1) := by decide +kernel
theorem dX4_rumour_45 : decode cX4_rumour 45 = .ok (.getfield 16, 3) := by decide +kernel
theorem dX4_rumour_48 : decode cX4_rumour 48 = .ok (.iload_n 3, 1) := by decide +kernel
theorem dX4_rumour_49 : decode cX4_rumour 49 = .ok (.iconst 1, 1) := by decide +kernel
theorem dX4_rumour_50 : decode cX4_rumour 50 = .ok (.iload_n 1, 1) := by decide +kernel
theorem dX4_rumour_51 : decode cX4_rumour 51 = .ok (.ishl, 1) := by decide +kernel
theorem dX4_rumour_52 : decode cX4_rumour 52 = .ok (.invokevirtual 199, 3) := by decide +kernel
theorem dX4_rumour_55 : decode cX4_rumour 55 = .ok (.iinc 2 1, 3) := by decide +kernel
theorem dX4_rumour_58 : decode cX4_rumour 58 = .ok (.goto (-36), 3) := by decide +kernel
theorem dX4_rumour_61 : decode cX4_rumour 61 = .ok (.aload_n 0, 1) := by decide +kernel
theorem dX4_rumour_62 : decode cX4_rumour 62 = .ok (.getfield 16, 3) := by decide +kernel
theorem dX4_rumour_65 : decode cX4_rumour 65 = .ok (.iload_n 1, 1) := by decide +kernel
theorem dX4_rumour_66 : decode cX4_rumour 66 = .ok (.invokevirtual 203, 3) := by decide +kernel
theorem dX4_rumour_69 : decode cX4_rumour 69 = .ok (.ireturn, 1) := by decide +kernel
theorem dX4_errands_0 : decode cX4_errands 0 = .ok (.iload_n 1, 1) := by decide +kernel
theorem dX4_errands_1 : decode cX4_errands 1 = .ok (.aload_n 0, 1) := by decide +kernel
theorem dX4_errands_2 : decode cX4_errands 2 = .ok (.getfield 10, 3) := by decide +kernel
theorem dX4_errands_5 : decode cX4_errands 5 = .ok (.getfield 94, 3) := by decide +kernel
theorem dX4_errands_8 : decode cX4_errands 8 = .ok (.iconst (-1), 1) := by decide +kernel
theorem dX4_errands_9 : decode cX4_errands 9 = .ok (.ixor, 1) := by decide +kernel
theorem dX4_errands_10 : decode cX4_errands 10 = .ok (.iand, 1) := by decide +kernel
theorem dX4_errands_11 : decode cX4_errands 11 = .ok (.ifCond .ne 22, 3) := by decide +kernel
theorem dX4_errands_14 : decode cX4_errands 14 = .ok (.aload_n 0, 1) := by decide +kernel
theorem dX4_errands_15 : decode cX4_errands 15 = .ok (.getfield 40, 3) := by decide +kernel
theorem dX4_errands_18 : decode cX4_errands 18 = .ok (.iload_n 1, 1) := by decide +kernel
theorem dX4_errands_19 : decode cX4_errands 19 = .ok (.iload_n 2, 1) := by decide +kernel
theorem dX4_errands_20 : decode cX4_errands 20 = .ok (.aload_n 0, 1) := by decide +kernel
theorem dX4_errands_21 : decode cX4_errands 21 = .ok (.getfield 10, 3) := by decide +kernel
theorem dX4_errands_24 : decode cX4_errands 24 = .ok (.getfield 48, 3) := by decide +kernel
theorem dX4_errands_27 : decode cX4_errands 27 = .ok (.invokevirtual 206, 3) := by decide +kernel
theorem dX4_errands_30 : decode cX4_errands 30 = .ok (.ifCond .ne 6, 3) := by decide +kernel
theorem dX4_errands_33 : decode cX4_errands 33 = .ok (.bipush (-2), 2) := by decide +kernel
theorem dX4_errands_35 : decode cX4_errands 35 = .ok (.ireturn, 1) := by decide +kernel
theorem dX4_errands_36 : decode cX4_errands 36 = .ok (.iload_n 3, 1) := by decide +kernel
theorem dX4_errands_37 : decode cX4_errands 37 = .ok (.iconst 0, 1) := by decide +kernel
theorem dX4_errands_38 : decode cX4_errands 38 = .ok (.iload_n 1, 1) := by decide +kernel
theorem dX4_errands_39 : decode cX4_errands 39 = .ok (.invokestatic 85, 3) := by decide +kernel
theorem dX4_errands_42 : decode cX4_errands 42 = .ok (.iconst 1, 1) := by decide +kernel
theorem dX4_errands_43 : decode cX4_errands 43 = .ok (.isub, 1) := by decide +kernel
theorem dX4_errands_44 : decode cX4_errands 44 = .ok (.invokestatic 44, 3) := by decide +kernel
theorem dX4_errands_47 : decode cX4_errands 47 = .ok (.ifCond .ne 6, 3) := by decide +kernel
theorem dX4_errands_50 : decode cX4_errands 50 = .ok (.bipush (-6), 2) := by decide +kernel
theorem dX4_errands_52 : decode cX4_errands 52 = .ok (.ireturn, 1) := by decide +kernel
theorem dX4_errands_53 : decode cX4_errands 53 = .ok (.aload_n 0, 1) := by decide +kernel
theorem dX4_errands_54 : decode cX4_errands 54 = .ok (.getfield 16, 3) := by decide +kernel
theorem dX4_errands_57 : decode cX4_errands 57 = .ok (.aload_n 0, 1) := by decide +kernel
theorem dX4_errands_58 : decode cX4_errands 58 = .ok (.getfield 10, 3) := by decide +kernel
theorem dX4_errands_61 : decode cX4_errands 61 = .ok (.invokevirtual 159, 3) := by decide +kernel
theorem dX4_errands_64 : decode cX4_errands 64 = .ok (.aload_n 0, 1) := by decide +kernel
theorem dX4_errands_65 : decode cX4_errands 65 = .ok (.getfield 40, 3) := by decide +kernel
theorem dX4_errands_68 : decode cX4_errands 68 = .ok (.aload_n 0, 1) := by decide +kernel
theorem dX4_errands_69 : decode cX4_errands 69 = .ok (.getfield 16, 3) := by decide +kernel
theorem dX4_errands_72 : decode cX4_errands 72 = .ok (.iload_n 1, 1) := by decide +kernel
theorem dX4_errands_73 : decode cX4_errands 73 = .ok (.iconst 0, 1) := by decide +kernel
theorem dX4_errands_74 : decode cX4_errands 74 = .ok (.invokestatic 209, 3) := by decide +kernel
theorem dX4_errands_77 : decode cX4_errands 77 = .ok (.ifCond .eq 15, 3) := by decide +kernel
theorem dX4_errands_80 : decode cX4_errands 80 = .ok (.aload_n 0, 1) := by decide +kernel
theorem dX4_errands_81 : decode cX4_errands 81 = .ok (.getfield 40, 3) := by decide +kernel
theorem dX4_errands_84 : decode cX4_errands 84 = .ok (.getfield 213, 3) := by decide +kernel
theorem dX4_errands_87 : decode cX4_errands 87 = .ok (.iload_n 3, 1) := by decide +kernel
theorem dX4_errands_88 : decode cX4_errands 88 = .ok (.iaload, 1) := by decide +kernel
theorem dX4_errands_89 : decode cX4_errands 89 = .ok (.goto 5, 3) := by decide +kernel
theorem dX4_errands_92 : decode cX4_errands 92 = .ok (.bipush (-6), 2) := by decide +kernel
theorem dX4_errands_94 : decode cX4_errands 94 = .ok (.ireturn, 1) := by decide +kernel
theorem dX4_two_0 : decode cX4_two 0 = .ok (.iload_n 1, 1) := by decide +kernel
theorem dX4_two_1 : decode cX4_two 1 = .ok (.invokestatic 109, 3) := by decide +kernel
theorem dX4_two_4 : decode cX4_two 4 = .ok (.ifCond .eq 14, 3) := by decide +kernel
theorem dX4_two_7 : decode cX4_two 7 = .ok (.aload_n 0, 1) := by decide +kernel
theorem dX4_two_8 : decode cX4_two 8 = .ok (.getfield 10, 3) := by decide +kernel
theorem dX4_two_11 : decode cX4_two 11 = .ok (.iload_n 2, 1) := by decide +kernel
theorem dX4_two_12 : decode cX4_two 12 = .ok (.invokevirtual 56, 3) := by decide +kernel
theorem dX4_two_15 : decode cX4_two 15 = .ok (.ifCond .ne 5, 3) := by decide +kernel
theorem dX4_two_18 : decode cX4_two 18 = .ok (.iconst (-1), 1) := by decide +kernel
theorem dX4_two_19 : decode cX4_two 19 = .ok (.ireturn, 1) := by decide +kernel
theorem dX4_two_20 : decode cX4_two 20 = .ok (.aload_n 0, 1) := by decide +kernel
theorem dX4_two_21 : decode cX4_two 21 = .ok (.getfield 10, 3) := by decide +kernel
theorem dX4_two_24 : decode cX4_two 24 = .ok (.getfield 112, 3) := by decide +kernel
theorem dX4_two_27 : decode cX4_two 27 = .ok (.iload_n 1, 1) := by decide +kernel
theorem dX4_two_28 : decode cX4_two 28 = .ok (.iaload, 1) := by decide +kernel
theorem dX4_two_29 : decode cX4_two 29 = .ok (.iconst 2, 1) := by decide +kernel
theorem dX4_two_30 : decode cX4_two 30 = .ok (.invokestatic 216, 3) := by decide +kernel
theorem dX4_two_33 : decode cX4_two 33 = .ok (.istore 4, 2) := by decide +kernel
theorem dX4_two_35 : decode cX4_two 35 = .ok (.aload_n 0, 1) := by decide +kernel
theorem dX4_two_36 : decode cX4_two 36 = .ok (.iload_n 2, 1) := by decide +kernel
theorem dX4_two_37 : decode cX4_two 37 = .ok (.iload 4, 2) := by decide +kernel
theorem dX4_two_39 : decode cX4_two 39 = .ok (.invokevirtual 219, 3) := by decide +kernel
theorem dX4_two_42 : decode cX4_two 42 = .ok (.istore 5, 2) := by decide +kernel
theorem dX4_two_44 : decode cX4_two 44 = .ok (.aload_n 0, 1) := by decide +kernel
theorem dX4_two_45 : decode cX4_two 45 = .ok (.iload_n 2, 1) := by decide +kernel
theorem dX4_two_46 : decode cX4_two 46 = .ok (.aload_n 0, 1) := by decide +kernel
theorem dX4_two_47 : decode cX4_two 47 = .ok (.getfield 10, 3) := by decide +kernel
theorem dX4_two_50 : decode cX4_two 50 = .ok (.getfield 112, 3) := by decide +kernel
theorem dX4_two_53 : decode cX4_two 53 = .ok (.iload_n 1, 1) := by decide +kernel
theorem dX4_two_54 : decode cX4_two 54 = .ok (.iaload, 1) := by decide +kernel
theorem dX4_two_55 : decode cX4_two 55 = .ok (.iload 4, 2) := by decide +kernel
theorem dX4_two_57 : decode cX4_two 57 = .ok (.isub, 1) := by decide +kernel
theorem dX4_two_58 : decode cX4_two 58 = .ok (.invokevirtual 219, 3) := by decide +kernel
theorem dX4_two_61 : decode cX4_two 61 = .ok (.istore 6, 2) := by decide +kernel
theorem dX4_two_63 : decode cX4_two 63 = .ok (.iconst 0, 1) := by decide +kernel
theorem dX4_two_64 : decode cX4_two 64 = .ok (.istore 7, 2) := by decide +kernel
theorem dX4_two_66 : decode cX4_two 66 = .ok (.iconst 0, 1) := by decide +kernel
theorem dX4_two_67 : decode cX4_two 67 = .ok (.istore 8, 2) := by decide +kernel
theorem dX4_two_69 : decode cX4_two 69 = .ok (.iload 8, 2) := by decide +kernel
theorem dX4_two_71 : decode cX4_two 71 = .ok (.bipush 6, 2) := by decide +kernel
theorem dX4_two_73 : decode cX4_two 73 = .ok (.if_icmp .ge 66, 3) := by decide +kernel
theorem dX4_two_76 : decode cX4_two 76 = .ok (.iload 8, 2) := by decide +kernel
theorem dX4_two_78 : decode cX4_two 78 = .ok (.iconst 1, 1) := by decide +kernel
theorem dX4_two_79 : decode cX4_two 79 = .ok (.iadd, 1) := by decide +kernel
theorem dX4_two_80 : decode cX4_two 80 = .ok (.istore 9, 2) := by decide +kernel
theorem dX4_two_82 : decode cX4_two 82 = .ok (.iload 9, 2) := by decide +kernel
theorem dX4_two_84 : decode cX4_two 84 = .ok (.bipush 6, 2) := by decide +kernel
theorem dX4_two_86 : decode cX4_two 86 = .ok (.if_icmp .ge 47, 3) := by decide +kernel
theorem dX4_two_89 : decode cX4_two 89 = .ok (.iload 5, 2) := by decide +kernel
theorem dX4_two_91 : decode cX4_two 91 = .ok (.iload 8, 2) := by decide +kernel
theorem dX4_two_93 : decode cX4_two 93 = .ok (.invokestatic 163, 3) := by decide +kernel
theorem dX4_two_96 : decode cX4_two 96 = .ok (.ifCond .eq 31, 3) := by decide +kernel
theorem dX4_two_99 : decode cX4_two 99 = .ok (.iload 6, 2) := by decide +kernel
theorem dX4_two_101 : decode cX4_two 101 = .ok (.iload 9, 2) := by decide +kernel
theorem dX4_two_103 : decode cX4_two 103 = .ok (.invokestatic 163, 3) := by decide +kernel
theorem dX4_two_106 : decode cX4_two 106 = .ok (.ifCond .eq 21, 3) := by decide +kernel
theorem dX4_two_109 : decode cX4_two 109 = .ok (.iload 7, 2) := by decide +kernel
theorem dX4_two_111 : decode cX4_two 111 = .ok (.iload_n 3, 1) := by decide +kernel
theorem dX4_two_112 : decode cX4_two 112 = .ok (.if_icmp .ne 12, 3) := by decide +kernel
theorem dX4_two_115 : decode cX4_two 115 = .ok (.bipush 10, 2) := by decide +kernel
theorem dX4_two_117 : decode cX4_two 117 = .ok (.iload 8, 2) := by decide +kernel
theorem dX4_two_119 : decode cX4_two 119 = .ok (.imul, 1) := by decide +kernel
theorem dX4_two_120 : decode cX4_two 120 = .ok (.iload 9, 2) := by decide +kernel
theorem dX4_two_122 : decode cX4_two 122 = .ok (.iadd, 1) := by decide +kernel
theorem dX4_two_123 : decode cX4_two 123 = .ok (.ireturn, 1) := by decide +kernel
theorem dX4_two_124 : decode cX4_two 124 = .ok (.iinc 7 1, 3) := by decide +kernel
theorem dX4_two_127 : decode cX4_two 127 = .ok (.iinc 9 1, 3) := by decide +kernel
theorem dX4_two_130 : decode cX4_two 130 = .ok (.goto (-48), 3) := by decide +kernel
theorem dX4_two_133 : decode cX4_two 133 = .ok (.iinc 8 1, 3) := by decide +kernel
theorem dX4_two_136 : decode cX4_two 136 = .ok (.goto (-67), 3) := by decide +kernel
theorem dX4_two_139 : decode cX4_two 139 = .ok (.iload_n 3, 1) := by decide +kernel
theorem dX4_two_140 : decode cX4_two 140 = .ok (.iconst (-1), 1) := by decide +kernel
theorem dX4_two_141 : decode cX4_two 141 = .ok (.if_icmp .ne 8, 3) := by decide +kernel
theorem dX4_two_144 : decode cX4_two 144 = .ok (.iload 7, 2) := by decide +kernel
theorem dX4_two_146 : decode cX4_two 146 = .ok (.goto 5, 3) := by decide +kernel
theorem dX4_two_149 : decode cX4_two 149 = .ok (.bipush (-6), 2) := by decide +kernel
theorem dX4_two_151 : decode cX4_two 151 = .ok (.ireturn, 1) := by decide +kernel
theorem dX4_fee_0 : decode cX4_fee 0 = .ok (.aload_n 0, 1) := by decide +kernel
theorem dX4_fee_1 : decode cX4_fee 1 = .ok (.getfield 10, 3) := by decide +kernel
theorem dX4_fee_4 : decode cX4_fee 4 = .ok (.iload_n 1, 1) := by decide +kernel
theorem dX4_fee_5 : decode cX4_fee 5 = .ok (.invokevirtual 106, 3) := by decide +kernel
theorem dX4_fee_8 : decode cX4_fee 8 = .ok (.ifCond .eq 14, 3) := by decide +kernel
theorem dX4_fee_11 : decode cX4_fee 11 = .ok (.aload_n 0, 1) := by decide +kernel
theorem dX4_fee_12 : decode cX4_fee 12 = .ok (.getfield 10, 3) := by decide +kernel
theorem dX4_fee_15 : decode cX4_fee 15 = .ok (.iload_n 2, 1) := by decide +kernel
theorem dX4_fee_16 : decode cX4_fee 16 = .ok (.invokevirtual 56, 3) := by decide +kernel
theorem dX4_fee_19 : decode cX4_fee 19 = .ok (.ifCond .ne 5, 3) := by decide +kernel
theorem dX4_fee_22 : decode cX4_fee 22 = .ok (.iconst (-1), 1) := by decide +kernel
theorem dX4_fee_23 : decode cX4_fee 23 = .ok (.ireturn, 1) := by decide +kernel
theorem dX4_fee_24 : decode cX4_fee 24 = .ok (.aload_n 0, 1) := by decide +kernel
theorem dX4_fee_25 : decode cX4_fee 25 = .ok (.iload_n 1, 1) := by decide +kernel
theorem dX4_fee_26 : decode cX4_fee 26 = .ok (.iload_n 2, 1) := by decide +kernel
theorem dX4_fee_27 : decode cX4_fee 27 = .ok (.invokevirtual 222, 3) := by decide +kernel
theorem dX4_fee_30 : decode cX4_fee 30 = .ok (.ireturn, 1) := by decide +kernel
theorem dX4_fees_0 : decode cX4_fees 0 = .ok (.aload_n 0, 1) := by decide +kernel
theorem dX4_fees_1 : decode cX4_fees 1 = .ok (.getfield 10, 3) := by decide +kernel
theorem dX4_fees_4 : decode cX4_fees 4 = .ok (.iload_n 1, 1) := by decide +kernel
theorem dX4_fees_5 : decode cX4_fees 5 = .ok (.invokevirtual 56, 3) := by decide +kernel
theorem dX4_fees_8 : decode cX4_fees 8 = .ok (.ifCond .ne 5, 3) := by decide +kernel
theorem dX4_fees_11 : decode cX4_fees 11 = .ok (.iconst (-1), 1) := by decide +kernel
theorem dX4_fees_12 : decode cX4_fees 12 = .ok (.ireturn, 1) := by decide +kernel
theorem dX4_fees_13 : decode cX4_fees 13 = .ok (.iload_n 2, 1) := by decide +kernel
theorem dX4_fees_14 : decode cX4_fees 14 = .ok (.iconst 0, 1) := by decide +kernel
theorem dX4_fees_15 : decode cX4_fees 15 = .ok (.iconst 1, 1) := by decide +kernel
theorem dX4_fees_16 : decode cX4_fees 16 = .ok (.invokestatic 44, 3) := by decide +kernel
theorem dX4_fees_19 : decode cX4_fees 19 = .ok (.ifCond .ne 6, 3) := by decide +kernel
theorem dX4_fees_22 : decode cX4_fees 22 = .ok (.bipush (-2), 2) := by decide +kernel
theorem dX4_fees_24 : decode cX4_fees 24 = .ok (.ireturn, 1) := by decide +kernel
theorem dX4_fees_25 : decode cX4_fees 25 = .ok (.iconst 0, 1) := by decide +kernel
theorem dX4_fees_26 : decode cX4_fees 26 = .ok (.istore_n 3, 1) := by decide +kernel
theorem dX4_fees_27 : decode cX4_fees 27 = .ok (.iconst 0, 1) := by decide +kernel
theorem dX4_fees_28 : decode cX4_fees 28 = .ok (.istore 4, 2) := by decide +kernel
theorem dX4_fees_30 : decode cX4_fees 30 = .ok (.iconst 0, 1) := by decide +kernel
theorem dX4_fees_31 : decode cX4_fees 31 = .ok (.istore 5, 2) := by decide +kernel
theorem dX4_fees_33 : decode cX4_fees 33 = .ok (.iload 5, 2) := by decide +kernel
theorem dX4_fees_35 : decode cX4_fees 35 = .ok (.bipush 6, 2) := by decide +kernel
theorem dX4_fees_37 : decode cX4_fees 37 = .ok (.if_icmp .ge 50, 3) := by decide +kernel
theorem dX4_fees_40 : decode cX4_fees 40 = .ok (.aload_n 0, 1) := by decide +kernel
theorem dX4_fees_41 : decode cX4_fees 41 = .ok (.getfield 10, 3) := by decide +kernel
theorem dX4_fees_44 : decode cX4_fees 44 = .ok (.iload 5, 2) := by decide +kernel
theorem dX4_fees_46 : decode cX4_fees 46 = .ok (.invokevirtual 106, 3) := by decide +kernel
theorem dX4_fees_49 : decode cX4_fees 49 = .ok (.ifCond .eq 13, 3) := by decide +kernel
theorem dX4_fees_52 : decode cX4_fees 52 = .ok (.aload_n 0, 1) := by decide +kernel
theorem dX4_fees_53 : decode cX4_fees 53 = .ok (.iload 5, 2) := by decide +kernel
theorem dX4_fees_55 : decode cX4_fees 55 = .ok (.iload_n 1, 1) := by decide +kernel
theorem dX4_fees_56 : decode cX4_fees 56 = .ok (.invokevirtual 222, 3) := by decide +kernel
theorem dX4_fees_59 : decode cX4_fees 59 = .ok (.goto 5, 3) := by decide +kernel
theorem dX4_fees_62 : decode cX4_fees 62 = .ok (.bipush (-6), 2) := by decide +kernel
theorem dX4_fees_64 : decode cX4_fees 64 = .ok (.istore 6, 2) := by decide +kernel
theorem dX4_fees_66 : decode cX4_fees 66 = .ok (.iload 6, 2) := by decide +kernel
theorem dX4_fees_68 : decode cX4_fees 68 = .ok (.bipush (-6), 2) := by decide +kernel
theorem dX4_fees_70 : decode cX4_fees 70 = .ok (.if_icmp .eq 11, 3) := by decide +kernel
theorem dX4_fees_73 : decode cX4_fees 73 = .ok (.iload_n 3, 1) := by decide +kernel
theorem dX4_fees_74 : decode cX4_fees 74 = .ok (.iload 6, 2) := by decide +kernel
theorem dX4_fees_76 : decode cX4_fees 76 = .ok (.iadd, 1) := by decide +kernel
theorem dX4_fees_77 : decode cX4_fees 77 = .ok (.istore_n 3, 1) := by decide +kernel
theorem dX4_fees_78 : decode cX4_fees 78 = .ok (.iinc 4 1, 3) := by decide +kernel
theorem dX4_fees_81 : decode cX4_fees 81 = .ok (.iinc 5 1, 3) := by decide +kernel
theorem dX4_fees_84 : decode cX4_fees 84 = .ok (.goto (-51), 3) := by decide +kernel
theorem dX4_fees_87 : decode cX4_fees 87 = .ok (.iload_n 2, 1) := by decide +kernel
theorem dX4_fees_88 : decode cX4_fees 88 = .ok (.ifCond .ne 7, 3) := by decide +kernel
theorem dX4_fees_91 : decode cX4_fees 91 = .ok (.iload_n 3, 1) := by decide +kernel
theorem dX4_fees_92 : decode cX4_fees 92 = .ok (.goto 5, 3) := by decide +kernel
theorem dX4_fees_95 : decode cX4_fees 95 = .ok (.iload 4, 2) := by decide +kernel
theorem dX4_fees_97 : decode cX4_fees 97 = .ok (.ireturn, 1) := by decide +kernel
theorem dX4_seen_0 : decode cX4_seen 0 = .ok (.iload_n 1, 1) := by decide +kernel
theorem dX4_seen_1 : decode cX4_seen 1 = .ok (.iconst 0, 1) := by decide +kernel
theorem dX4_seen_2 : decode cX4_seen 2 = .ok (.bipush 7, 2) := by decide +kernel
theorem dX4_seen_4 : decode cX4_seen 4 = .ok (.invokestatic 44, 3) := by decide +kernel
theorem dX4_seen_7 : decode cX4_seen 7 = .ok (.ifCond .ne 5, 3) := by decide +kernel
theorem dX4_seen_10 : decode cX4_seen 10 = .ok (.iconst (-1), 1) := by decide +kernel
theorem dX4_seen_11 : decode cX4_seen 11 = .ok (.ireturn, 1) := by decide +kernel
theorem dX4_seen_12 : decode cX4_seen 12 = .ok (.iload_n 2, 1) := by decide +kernel
theorem dX4_seen_13 : decode cX4_seen 13 = .ok (.iconst 0, 1) := by decide +kernel
theorem dX4_seen_14 : decode cX4_seen 14 = .ok (.sipush 999, 3) := by decide +kernel
theorem dX4_seen_17 : decode cX4_seen 17 = .ok (.invokestatic 44, 3) := by decide +kernel
theorem dX4_seen_20 : decode cX4_seen 20 = .ok (.ifCond .ne 6, 3) := by decide +kernel
theorem dX4_seen_23 : decode cX4_seen 23 = .ok (.bipush (-2), 2) := by decide +kernel
theorem dX4_seen_25 : decode cX4_seen 25 = .ok (.ireturn, 1) := by decide +kernel
theorem dX4_seen_26 : decode cX4_seen 26 = .ok (.aload_n 0, 1) := by decide +kernel
theorem dX4_seen_27 : decode cX4_seen 27 = .ok (.getfield 10, 3) := by decide +kernel
theorem dX4_seen_30 : decode cX4_seen 30 = .ok (.getfield 225, 3) := by decide +kernel
theorem dX4_seen_33 : decode cX4_seen 33 = .ok (.bipush 6, 2) := by decide +kernel
theorem dX4_seen_35 : decode cX4_seen 35 = .ok (.if_icmp .lt 6, 3) := by decide +kernel
theorem dX4_seen_38 : decode cX4_seen 38 = .ok (.bipush (-4), 2) := by decide +kernel
theorem dX4_seen_40 : decode cX4_seen 40 = .ok (.ireturn, 1) := by decide +kernel
theorem dX4_seen_41 : decode cX4_seen 41 = .ok (.aload_n 0, 1) := by decide +kernel
theorem dX4_seen_42 : decode cX4_seen 42 = .ok (.getfield 10, 3) := by decide +kernel
theorem dX4_seen_45 : decode cX4_seen 45 = .ok (.getfield 228, 3) := by decide +kernel
theorem dX4_seen_48 : decode cX4_seen 48 = .ok (.aload_n 0, 1) := by decide +kernel
theorem dX4_seen_49 : decode cX4_seen 49 = .ok (.getfield 10, 3) := by decide +kernel
theorem dX4_seen_52 : decode cX4_seen 52 = .ok (.getfield 225, 3) := by decide +kernel
theorem dX4_seen_55 : decode cX4_seen 55 = .ok (.iload_n 1, 1) := by decide +kernel
theorem dX4_seen_56 : decode cX4_seen 56 = .ok (.iastore, 1) := by decide +kernel
theorem dX4_seen_57 : decode cX4_seen 57 = .ok (.aload_n 0, 1) := by decide +kernel
theorem dX4_seen_58 : decode cX4_seen 58 = .ok (.getfield 10, 3) := by decide +kernel
theorem dX4_seen_61 : decode cX4_seen 61 = .ok (.getfield 231, 3) := by decide +kernel
theorem dX4_seen_64 : decode cX4_seen 64 = .ok (.aload_n 0, 1) := by decide +kernel
theorem dX4_seen_65 : decode cX4_seen 65 = .ok (.getfield 10, 3) := by decide +kernel
theorem dX4_seen_68 : decode cX4_seen 68 = .ok (.getfield 225, 3) := by decide +kernel
theorem dX4_seen_71 : decode cX4_seen 71 = .ok (.iload_n 2, 1) := by decide +kernel
theorem dX4_seen_72 : decode cX4_seen 72 = .ok (.iastore, 1) := by decide +kernel
theorem dX4_seen_73 : decode cX4_seen 73 = .ok (.aload_n 0, 1) := by decide +kernel
theorem dX4_seen_74 : decode cX4_seen 74 = .ok (.getfield 10, 3) := by decide +kernel
theorem dX4_seen_77 : decode cX4_seen 77 = .ok (.dup, 1) := by decide +kernel
theorem dX4_seen_78 : decode cX4_seen 78 = .ok (.getfield 225, 3) := by decide +kernel
theorem dX4_seen_81 : decode cX4_seen 81 = .ok (.iconst 1, 1) := by decide +kernel
theorem dX4_seen_82 : decode cX4_seen 82 = .ok (.iadd, 1) := by decide +kernel
theorem dX4_seen_83 : decode cX4_seen 83 = .ok (.putfield 225, 3) := by decide +kernel
theorem dX4_seen_86 : decode cX4_seen 86 = .ok (.aload_n 0, 1) := by decide +kernel
theorem dX4_seen_87 : decode cX4_seen 87 = .ok (.getfield 10, 3) := by decide +kernel
theorem dX4_seen_90 : decode cX4_seen 90 = .ok (.getfield 225, 3) := by decide +kernel
theorem dX4_seen_93 : decode cX4_seen 93 = .ok (.ireturn, 1) := by decide +kernel
theorem dX4_forget_0 : decode cX4_forget 0 = .ok (.aload_n 0, 1) := by decide +kernel
theorem dX4_forget_1 : decode cX4_forget 1 = .ok (.getfield 10, 3) := by decide +kernel
theorem dX4_forget_4 : decode cX4_forget 4 = .ok (.getfield 225, 3) := by decide +kernel
theorem dX4_forget_7 : decode cX4_forget 7 = .ok (.istore_n 1, 1) := by decide +kernel
theorem dX4_forget_8 : decode cX4_forget 8 = .ok (.aload_n 0, 1) := by decide +kernel
theorem dX4_forget_9 : decode cX4_forget 9 = .ok (.getfield 10, 3) := by decide +kernel
theorem dX4_forget_12 : decode cX4_forget 12 = .ok (.iconst 0, 1) := by decide +kernel
theorem dX4_forget_13 : decode cX4_forget 13 = .ok (.putfield 225, 3) := by decide +kernel
theorem dX4_forget_16 : decode cX4_forget 16 = .ok (.iload_n 1, 1) := by decide +kernel
theorem dX4_forget_17 : decode cX4_forget 17 = .ok (.ireturn, 1) := by decide +kernel
theorem dX4_who_0 : decode cX4_who 0 = .ok (.iload_n 1, 1) := by decide +kernel
theorem dX4_who_1 : decode cX4_who 1 = .ok (.iconst 0, 1) := by decide +kernel
theorem dX4_who_2 : decode cX4_who 2 = .ok (.aload_n 0, 1) := by decide +kernel
theorem dX4_who_3 : decode cX4_who 3 = .ok (.getfield 10, 3) := by decide +kernel
theorem dX4_who_6 : decode cX4_who 6 = .ok (.getfield 225, 3) := by decide +kernel
theorem dX4_who_9 : decode cX4_who 9 = .ok (.iconst 1, 1) := by decide +kernel
theorem dX4_who_10 : decode cX4_who 10 = .ok (.isub, 1) := by decide +kernel
theorem dX4_who_11 : decode cX4_who 11 = .ok (.invokestatic 44, 3) := by decide +kernel
theorem dX4_who_14 : decode cX4_who 14 = .ok (.ifCond .eq 22, 3) := by decide +kernel
theorem dX4_who_17 : decode cX4_who 17 = .ok (.aload_n 0, 1) := by decide +kernel
theorem dX4_who_18 : decode cX4_who 18 = .ok (.getfield 10, 3) := by decide +kernel
theorem dX4_who_21 : decode cX4_who 21 = .ok (.aload_n 0, 1) := by decide +kernel
theorem dX4_who_22 : decode cX4_who 22 = .ok (.getfield 10, 3) := by decide +kernel
theorem dX4_who_25 : decode cX4_who 25 = .ok (.getfield 231, 3) := by decide +kernel
theorem dX4_who_28 : decode cX4_who 28 = .ok (.iload_n 1, 1) := by decide +kernel
theorem dX4_who_29 : decode cX4_who 29 = .ok (.iaload, 1) := by decide +kernel
theorem dX4_who_30 : decode cX4_who 30 = .ok (.invokevirtual 234, 3) := by decide +kernel
theorem dX4_who_33 : decode cX4_who 33 = .ok (.goto 5, 3) := by decide +kernel
theorem dX4_who_36 : decode cX4_who 36 = .ok (.bipush (-2), 2) := by decide +kernel
theorem dX4_who_38 : decode cX4_who 38 = .ok (.ireturn, 1) := by decide +kernel
theorem dX4_fit_0 : decode cX4_fit 0 = .ok (.iconst 1, 1) := by decide +kernel
theorem dX4_fit_1 : decode cX4_fit 1 = .ok (.istore_n 1, 1) := by decide +kernel
theorem dX4_fit_2 : decode cX4_fit 2 = .ok (.iconst 0, 1) := by decide +kernel
theorem dX4_fit_3 : decode cX4_fit 3 = .ok (.istore_n 2, 1) := by decide +kernel
theorem dX4_fit_4 : decode cX4_fit 4 = .ok (.iload_n 2, 1) := by decide +kernel
theorem dX4_fit_5 : decode cX4_fit 5 = .ok (.aload_n 0, 1) := by decide +kernel
theorem dX4_fit_6 : decode cX4_fit 6 = .ok (.getfield 10, 3) := by decide +kernel
theorem dX4_fit_9 : decode cX4_fit 9 = .ok (.getfield 225, 3) := by decide +kernel
theorem dX4_fit_12 : decode cX4_fit 12 = .ok (.if_icmp .ge 46, 3) := by decide +kernel
theorem dX4_fit_15 : decode cX4_fit 15 = .ok (.aload_n 0, 1) := by decide +kernel
theorem dX4_fit_16 : decode cX4_fit 16 = .ok (.getfield 10, 3) := by decide +kernel
theorem dX4_fit_19 : decode cX4_fit 19 = .ok (.aload_n 0, 1) := by decide +kernel
theorem dX4_fit_20 : decode cX4_fit 20 = .ok (.getfield 10, 3) := by decide +kernel
theorem dX4_fit_23 : decode cX4_fit 23 = .ok (.getfield 231, 3) := by decide +kernel
theorem dX4_fit_26 : decode cX4_fit 26 = .ok (.iload_n 2, 1) := by decide +kernel
theorem dX4_fit_27 : decode cX4_fit 27 = .ok (.iaload, 1) := by decide +kernel
theorem dX4_fit_28 : decode cX4_fit 28 = .ok (.invokevirtual 234, 3) := by decide +kernel
theorem dX4_fit_31 : decode cX4_fit 31 = .ok (.invokestatic 85, 3) := by decide +kernel
theorem dX4_fit_34 : decode cX4_fit 34 = .ok (.aload_n 0, 1) := by decide +kernel
theorem dX4_fit_35 : decode cX4_fit 35 = .ok (.getfield 10, 3) := by decide +kernel
theorem dX4_fit_38 : decode cX4_fit 38 = .ok (.iload_n 2, 1) := by decide +kernel
theorem dX4_fit_39 : decode cX4_fit 39 = .ok (.invokevirtual 237, 3) := by decide +kernel
theorem dX4_fit_42 : decode cX4_fit 42 = .ok (.isub, 1) := by decide +kernel
theorem dX4_fit_43 : decode cX4_fit 43 = .ok (.istore_n 3, 1) := by decide +kernel
theorem dX4_fit_44 : decode cX4_fit 44 = .ok (.iload_n 1, 1) := by decide +kernel
theorem dX4_fit_45 : decode cX4_fit 45 = .ok (.iconst 0, 1) := by decide +kernel
theorem dX4_fit_46 : decode cX4_fit 46 = .ok (.iload_n 3, 1) := by decide +kernel
theorem dX4_fit_47 : decode cX4_fit 47 = .ok (.invokestatic 76, 3) := by decide +kernel
theorem dX4_fit_50 : decode cX4_fit 50 = .ok (.imul, 1) := by decide +kernel
theorem dX4_fit_51 : decode cX4_fit 51 = .ok (.istore_n 1, 1) := by decide +kernel
theorem dX4_fit_52 : decode cX4_fit 52 = .ok (.iinc 2 1, 3) := by decide +kernel
theorem dX4_fit_55 : decode cX4_fit 55 = .ok (.goto (-51), 3) := by decide +kernel
theorem dX4_fit_58 : decode cX4_fit 58 = .ok (.iload_n 1, 1) := by decide +kernel
theorem dX4_fit_59 : decode cX4_fit 59 = .ok (.ireturn, 1) := by decide +kernel
theorem dX4_chance_0 : decode cX4_chance 0 = .ok (.aload_n 0, 1) := by decide +kernel
theorem dX4_chance_1 : decode cX4_chance 1 = .ok (.getfield 10, 3) := by decide +kernel
theorem dX4_chance_4 : decode cX4_chance 4 = .ok (.iload_n 1, 1) := by decide +kernel
theorem dX4_chance_5 : decode cX4_chance 5 = .ok (.invokevirtual 106, 3) := by decide +kernel
theorem dX4_chance_8 : decode cX4_chance 8 = .ok (.ifCond .eq 14, 3) := by decide +kernel
theorem dX4_chance_11 : decode cX4_chance 11 = .ok (.aload_n 0, 1) := by decide +kernel
theorem dX4_chance_12 : decode cX4_chance 12 = .ok (.getfield 10, 3) := by decide +kernel
theorem dX4_chance_15 : decode cX4_chance 15 = .ok (.iload_n 2, 1) := by decide +kernel
theorem dX4_chance_16 : decode cX4_chance 16 = .ok (.invokevirtual 56, 3) := by decide +kernel
theorem dX4_chance_19 : decode cX4_chance 19 = .ok (.ifCond .ne 7, 3) := by decide +kernel
theorem dX4_chance_22 : decode cX4_chance 22 = .ok (.ldc2_w 240, 3) := by decide +kernel
theorem dX4_chance_25 : decode cX4_chance 25 = .ok (.lreturn, 1) := by decide +kernel
theorem dX4_chance_26 : decode cX4_chance 26 = .ok (.iload_n 3, 1) := by decide +kernel
theorem dX4_chance_27 : decode cX4_chance 27 = .ok (.iconst 0, 1) := by decide +kernel
theorem dX4_chance_28 : decode cX4_chance 28 = .ok (.bipush 10, 2) := by decide +kernel
theorem dX4_chance_30 : decode cX4_chance 30 = .ok (.invokestatic 44, 3) := by decide +kernel
theorem dX4_chance_33 : decode cX4_chance 33 = .ok (.ifCond .eq 13, 3) := by decide +kernel
theorem dX4_chance_36 : decode cX4_chance 36 = .ok (.iload 4, 2) := by decide +kernel
theorem dX4_chance_38 : decode cX4_chance 38 = .ok (.iconst 0, 1) := by decide +kernel
theorem dX4_chance_39 : decode cX4_chance 39 = .ok (.iconst 1, 1) := by decide +kernel
theorem dX4_chance_40 : decode cX4_chance 40 = .ok (.invokestatic 44, 3) := by decide +kernel
theorem dX4_chance_43 : decode cX4_chance 43 = .ok (.ifCond .ne 7, 3) := by decide +kernel
theorem dX4_chance_46 : decode cX4_chance 46 = .ok (.ldc2_w 242, 3) := by decide +kernel
theorem dX4_chance_49 : decode cX4_chance 49 = .ok (.lreturn, 1) := by decide +kernel
theorem dX4_chance_50 : decode cX4_chance 50 = .ok (.aload_n 0, 1) := by decide +kernel
theorem dX4_chance_51 : decode cX4_chance 51 = .ok (.getfield 10, 3) := by decide +kernel
theorem dX4_chance_54 : decode cX4_chance 54 = .ok (.aload_n 0, 1) := by decide +kernel
theorem dX4_chance_55 : decode cX4_chance 55 = .ok (.getfield 10, 3) := by decide +kernel
theorem dX4_chance_58 : decode cX4_chance 58 = .ok (.iload_n 1, 1) := by decide +kernel
theorem dX4_chance_59 : decode cX4_chance 59 = .ok (.invokevirtual 156, 3) := by decide +kernel
theorem dX4_chance_62 : decode cX4_chance 62 = .ok (.invokevirtual 170, 3) := by decide +kernel
theorem dX4_chance_65 : decode cX4_chance 65 = .ok (.istore 5, 2) := by decide +kernel
theorem dX4_chance_67 : decode cX4_chance 67 = .ok (.lconst 0, 1) := by decide +kernel
theorem dX4_chance_68 : decode cX4_chance 68 = .ok (.lstore 6, 2) := by decide +kernel
theorem dX4_chance_70 : decode cX4_chance 70 = .ok (.iconst 0, 1) := by decide +kernel
theorem dX4_chance_71 : decode cX4_chance 71 = .ok (.istore 8, 2) := by decide +kernel
theorem dX4_chance_73 : decode cX4_chance 73 = .ok (.iload 8, 2) := by decide +kernel
theorem dX4_chance_75 : decode cX4_chance 75 = .ok (.sipush 256, 3) := by decide +kernel
theorem dX4_chance_78 : decode cX4_chance 78 = .ok (.if_icmp .ge 77, 3) := by decide +kernel
theorem dX4_chance_81 : decode cX4_chance 81 = .ok (.iload 8, 2) := by decide +kernel
theorem dX4_chance_83 : decode cX4_chance 83 = .ok (.iload 5, 2) := by decide +kernel
theorem dX4_chance_85 : decode cX4_chance 85 = .ok (.iconst (-1), 1) := by decide +kernel
theorem dX4_chance_86 : decode cX4_chance 86 = .ok (.ixor, 1) := by decide +kernel
theorem dX4_chance_87 : decode cX4_chance 87 = .ok (.iand, 1) := by decide +kernel
theorem dX4_chance_88 : decode cX4_chance 88 = .ok (.ifCond .ne 61, 3) := by decide +kernel
theorem dX4_chance_91 : decode cX4_chance 91 = .ok (.aload_n 0, 1) := by decide +kernel
theorem dX4_chance_92 : decode cX4_chance 92 = .ok (.getfield 10, 3) := by decide +kernel
theorem dX4_chance_95 : decode cX4_chance 95 = .ok (.aload_n 0, 1) := by decide +kernel
theorem dX4_chance_96 : decode cX4_chance 96 = .ok (.getfield 10, 3) := by decide +kernel
theorem dX4_chance_99 : decode cX4_chance 99 = .ok (.getfield 97, 3) := by decide +kernel
theorem dX4_chance_102 : decode cX4_chance 102 = .ok (.iload_n 1, 1) := by decide +kernel
theorem dX4_chance_103 : decode cX4_chance 103 = .ok (.iaload, 1) := by decide +kernel
theorem dX4_chance_104 : decode cX4_chance 104 = .ok (.iload_n 2, 1) := by decide +kernel
theorem dX4_chance_105 : decode cX4_chance 105 = .ok (.iload 8, 2) := by decide +kernel
theorem dX4_chance_107 : decode cX4_chance 107 = .ok (.invokevirtual 173, 3) := by decide +kernel
theorem dX4_chance_110 : decode cX4_chance 110 = .ok (.bipush (-6), 2) := by decide +kernel
theorem dX4_chance_112 : decode cX4_chance 112 = .ok (.if_icmp .eq 37, 3) := by decide +kernel
theorem dX4_chance_115 : decode cX4_chance 115 = .ok (.iload 8, 2) := by decide +kernel
theorem dX4_chance_117 : decode cX4_chance 117 = .ok (.invokestatic 85, 3) := by decide +kernel
theorem dX4_chance_120 : decode cX4_chance 120 = .ok (.istore 9, 2) := by decide +kernel
theorem dX4_chance_122 : decode cX4_chance 122 = .ok (.lload 6, 2) := by decide +kernel
theorem dX4_chance_124 : decode cX4_chance 124 = .ok (.iload_n 3, 1) := by decide +kernel
theorem dX4_chance_125 : decode cX4_chance 125 = .ok (.iload 9, 2) := by decide +kernel
theorem dX4_chance_127 : decode cX4_chance 127 = .ok (.invokestatic 244, 3) := by decide +kernel
theorem dX4_chance_130 : decode cX4_chance 130 = .ok (.bipush 10, 2) := by decide +kernel
theorem dX4_chance_132 : decode cX4_chance 132 = .ok (.iload_n 3, 1) := by decide +kernel
theorem dX4_chance_133 : decode cX4_chance 133 = .ok (.isub, 1) := by decide +kernel
theorem dX4_chance_134 : decode cX4_chance 134 = .ok (.iload 5, 2) := by decide +kernel
theorem dX4_chance_136 : decode cX4_chance 136 = .ok (.invokestatic 85, 3) := by decide +kernel
theorem dX4_chance_139 : decode cX4_chance 139 = .ok (.iload 9, 2) := by decide +kernel
theorem dX4_chance_141 : decode cX4_chance 141 = .ok (.isub, 1) := by decide +kernel
theorem dX4_chance_142 : decode cX4_chance 142 = .ok (.invokestatic 244, 3) := by decide +kernel
theorem dX4_chance_145 : decode cX4_chance 145 = .ok (.lmul, 1) := by decide +kernel
theorem dX4_chance_146 : decode cX4_chance 146 = .ok (.ladd, 1) := by decide +kernel
theorem dX4_chance_147 : decode cX4_chance 147 = .ok (.lstore 6, 2) := by decide +kernel
theorem dX4_chance_149 : decode cX4_chance 149 = .ok (.iinc 8 1, 3) := by decide +kernel
theorem dX4_chance_152 : decode cX4_chance 152 = .ok (.goto (-79), 3) := by decide +kernel
theorem dX4_chance_155 : decode cX4_chance 155 = .ok (.bipush 10, 2) := by decide +kernel
theorem dX4_chance_157 : decode cX4_chance 157 = .ok (.iload 5, 2) := by decide +kernel
theorem dX4_chance_159 : decode cX4_chance 159 = .ok (.invokestatic 85, 3) := by decide +kernel
theorem dX4_chance_162 : decode cX4_chance 162 = .ok (.invokestatic 244, 3) := by decide +kernel
theorem dX4_chance_165 : decode cX4_chance 165 = .ok (.lstore 8, 2) := by decide +kernel
theorem dX4_chance_167 : decode cX4_chance 167 = .ok (.lload 6, 2) := by decide +kernel
theorem dX4_chance_169 : decode cX4_chance 169 = .ok (.lload 8, 2) := by decide +kernel
theorem dX4_chance_171 : decode cX4_chance 171 = .ok (.invokestatic 248, 3) := by decide +kernel
theorem dX4_chance_174 : decode cX4_chance 174 = .ok (.lstore 10, 2) := by decide +kernel
theorem dX4_chance_176 : decode cX4_chance 176 = .ok (.iload 4, 2) := by decide +kernel
theorem dX4_chance_178 : decode cX4_chance 178 = .ok (.ifCond .ne 8, 3) := by decide +kernel
theorem dX4_chance_181 : decode cX4_chance 181 = .ok (.lload 6, 2) := by decide +kernel
theorem dX4_chance_183 : decode cX4_chance 183 = .ok (.goto 5, 3) := by decide +kernel
theorem dX4_chance_186 : decode cX4_chance 186 = .ok (.lload 8, 2) := by decide +kernel
theorem dX4_chance_188 : decode cX4_chance 188 = .ok (.lconst 1, 1) := by decide +kernel
theorem dX4_chance_189 : decode cX4_chance 189 = .ok (.lload 10, 2) := by decide +kernel
theorem dX4_chance_191 : decode cX4_chance 191 = .ok (.invokestatic 252, 3) := by decide +kernel
theorem dX4_chance_194 : decode cX4_chance 194 = .ok (.ldiv, 1) := by decide +kernel
theorem dX4_chance_195 : decode cX4_chance 195 = .ok (.lreturn, 1) := by decide +kernel
theorem dX4_year_0 : decode cX4_year 0 = .ok (.iload_n 1, 1) := by decide +kernel
theorem dX4_year_1 : decode cX4_year 1 = .ok (.iconst 0, 1) := by decide +kernel
theorem dX4_year_2 : decode cX4_year 2 = .ok (.sipush 9999, 3) := by decide +kernel
theorem dX4_year_5 : decode cX4_year 5 = .ok (.invokestatic 44, 3) := by decide +kernel
theorem dX4_year_8 : decode cX4_year 8 = .ok (.ifCond .eq 22, 3) := by decide +kernel
theorem dX4_year_11 : decode cX4_year 11 = .ok (.iload_n 2, 1) := by decide +kernel
theorem dX4_year_12 : decode cX4_year 12 = .ok (.iconst 1, 1) := by decide +kernel
theorem dX4_year_13 : decode cX4_year 13 = .ok (.bipush 99, 2) := by decide +kernel
theorem dX4_year_15 : decode cX4_year 15 = .ok (.invokestatic 44, 3) := by decide +kernel
theorem dX4_year_18 : decode cX4_year 18 = .ok (.ifCond .eq 12, 3) := by decide +kernel
theorem dX4_year_21 : decode cX4_year 21 = .ok (.iload_n 3, 1) := by decide +kernel
theorem dX4_year_22 : decode cX4_year 22 = .ok (.iconst 0, 1) := by decide +kernel
theorem dX4_year_23 : decode cX4_year 23 = .ok (.iconst 2, 1) := by decide +kernel
theorem dX4_year_24 : decode cX4_year 24 = .ok (.invokestatic 44, 3) := by decide +kernel
theorem dX4_year_27 : decode cX4_year 27 = .ok (.ifCond .ne 6, 3) := by decide +kernel
theorem dX4_year_30 : decode cX4_year 30 = .ok (.bipush (-2), 2) := by decide +kernel
theorem dX4_year_32 : decode cX4_year 32 = .ok (.ireturn, 1) := by decide +kernel
theorem dX4_year_33 : decode cX4_year 33 = .ok (.aload_n 0, 1) := by decide +kernel
theorem dX4_year_34 : decode cX4_year 34 = .ok (.getfield 16, 3) := by decide +kernel
theorem dX4_year_37 : decode cX4_year 37 = .ok (.aload_n 0, 1) := by decide +kernel
theorem dX4_year_38 : decode cX4_year 38 = .ok (.getfield 10, 3) := by decide +kernel
theorem dX4_year_41 : decode cX4_year 41 = .ok (.invokevirtual 159, 3) := by decide +kernel
theorem dX4_year_44 : decode cX4_year 44 = .ok (.iconst 0, 1) := by decide +kernel
theorem dX4_year_45 : decode cX4_year 45 = .ok (.istore 4, 2) := by decide +kernel
theorem dX4_year_47 : decode cX4_year 47 = .ok (.iload_n 1, 1) := by decide +kernel
theorem dX4_year_48 : decode cX4_year 48 = .ok (.istore 5, 2) := by decide +kernel
theorem dX4_year_50 : decode cX4_year 50 = .ok (.iconst 1, 1) := by decide +kernel
theorem dX4_year_51 : decode cX4_year 51 = .ok (.istore 6, 2) := by decide +kernel
theorem dX4_year_53 : decode cX4_year 53 = .ok (.iload 6, 2) := by decide +kernel
theorem dX4_year_55 : decode cX4_year 55 = .ok (.iload_n 2, 1) := by decide +kernel
theorem dX4_year_56 : decode cX4_year 56 = .ok (.if_icmp .gt 71, 3) := by decide +kernel
theorem dX4_year_59 : decode cX4_year 59 = .ok (.bipush 75, 2) := by decide +kernel
theorem dX4_year_61 : decode cX4_year 61 = .ok (.iload 5, 2) := by decide +kernel
theorem dX4_year_63 : decode cX4_year 63 = .ok (.imul, 1) := by decide +kernel
theorem dX4_year_64 : decode cX4_year 64 = .ok (.bipush 74, 2) := by decide +kernel
theorem dX4_year_66 : decode cX4_year 66 = .ok (.iadd, 1) := by decide +kernel
theorem dX4_year_67 : decode cX4_year 67 = .ok (.ldc 254, 2) := by decide +kernel
theorem dX4_year_69 : decode cX4_year 69 = .ok (.irem, 1) := by decide +kernel
theorem dX4_year_70 : decode cX4_year 70 = .ok (.istore 5, 2) := by decide +kernel
theorem dX4_year_72 : decode cX4_year 72 = .ok (.aload_n 0, 1) := by decide +kernel
theorem dX4_year_73 : decode cX4_year 73 = .ok (.getfield 16, 3) := by decide +kernel
theorem dX4_year_76 : decode cX4_year 76 = .ok (.iload 5, 2) := by decide +kernel
theorem dX4_year_78 : decode cX4_year 78 = .ok (.bipush 6, 2) := by decide +kernel
theorem dX4_year_80 : decode cX4_year 80 = .ok (.irem, 1) := by decide +kernel
theorem dX4_year_81 : decode cX4_year 81 = .ok (.iload 5, 2) := by decide +kernel
theorem dX4_year_83 : decode cX4_year 83 = .ok (.bipush 6, 2) := by decide +kernel
theorem dX4_year_85 : decode cX4_year 85 = .ok (.idiv, 1) := by decide +kernel
theorem dX4_year_86 : decode cX4_year 86 = .ok (.bipush 6, 2) := by decide +kernel
theorem dX4_year_88 : decode cX4_year 88 = .ok (.irem, 1) := by decide +kernel
theorem dX4_year_89 : decode cX4_year 89 = .ok (.iload 5, 2) := by decide +kernel
theorem dX4_year_91 : decode cX4_year 91 = .ok (.bipush 36, 2) := by decide +kernel
theorem dX4_year_93 : decode cX4_year 93 = .ok (.idiv, 1) := by decide +kernel
theorem dX4_year_94 : decode cX4_year 94 = .ok (.bipush 8, 2) := by decide +kernel
theorem dX4_year_96 : decode cX4_year 96 = .ok (.irem, 1) := by decide +kernel
theorem dX4_year_97 : decode cX4_year 97 = .ok (.invokevirtual 255, 3) := by decide +kernel
theorem dX4_year_100 : decode cX4_year 100 = .ok (.ifCond .ne 6, 3) := by decide +kernel
theorem dX4_year_103 : decode cX4_year 103 = .ok (.iinc 4 1, 3) := by decide +kernel
theorem dX4_year_106 : decode cX4_year 106 = .ok (.iload 6, 2) := by decide +kernel
theorem dX4_year_108 : decode cX4_year 108 = .ok (.bipush 7, 2) := by decide +kernel
theorem dX4_year_110 : decode cX4_year 110 = .ok (.irem, 1) := by decide +kernel
theorem dX4_year_111 : decode cX4_year 111 = .ok (.ifCond .ne 10, 3) := by decide +kernel
theorem dX4_year_114 : decode cX4_year 114 = .ok (.aload_n 0, 1) := by decide +kernel
theorem dX4_year_115 : decode cX4_year 115 = .ok (.getfield 16, 3) := by decide +kernel
theorem dX4_year_118 : decode cX4_year 118 = .ok (.invokevirtual 258, 3) := by decide +kernel
theorem dX4_year_121 : decode cX4_year 121 = .ok (.iinc 6 1, 3) := by decide +kernel
theorem dX4_year_124 : decode cX4_year 124 = .ok (.goto (-71), 3) := by decide +kernel
theorem dX4_year_127 : decode cX4_year 127 = .ok (.iload_n 3, 1) := by decide +kernel
theorem dX4_year_128 : decode cX4_year 128 = .ok (.lookupswitch 39 #[(0, 28), (1, 31)], 28) := by decide +kernel
theorem dX4_year_156 : decode cX4_year 156 = .ok (.iload 4, 2) := by decide +kernel
theorem dX4_year_158 : decode cX4_year 158 = .ok (.ireturn, 1) := by decide +kernel
theorem dX4_year_159 : decode cX4_year 159 = .ok (.aload_n 0, 1) := by decide +kernel
theorem dX4_year_160 : decode cX4_year 160 = .ok (.getfield 16, 3) := by decide +kernel
theorem dX4_year_163 : decode cX4_year 163 = .ok (.invokevirtual 261, 3) := by decide +kernel
theorem dX4_year_166 : decode cX4_year 166 = .ok (.ireturn, 1) := by decide +kernel
theorem dX4_year_167 : decode cX4_year 167 = .ok (.aload_n 0, 1) := by decide +kernel
theorem dX4_year_168 : decode cX4_year 168 = .ok (.getfield 16, 3) := by decide +kernel
theorem dX4_year_171 : decode cX4_year 171 = .ok (.invokevirtual 264, 3) := by decide +kernel
theorem dX4_year_174 : decode cX4_year 174 = .ok (.ireturn, 1) := by decide +kernel
theorem dX4_image_0 : decode cX4_image 0 = .ok (.iload_n 1, 1) := by decide +kernel
theorem dX4_image_1 : decode cX4_image 1 = .ok (.iconst 0, 1) := by decide +kernel
theorem dX4_image_2 : decode cX4_image 2 = .ok (.iconst 1, 1) := by decide +kernel
theorem dX4_image_3 : decode cX4_image 3 = .ok (.invokestatic 44, 3) := by decide +kernel
theorem dX4_image_6 : decode cX4_image 6 = .ok (.ifCond .ne 6, 3) := by decide +kernel
theorem dX4_image_9 : decode cX4_image 9 = .ok (.bipush (-2), 2) := by decide +kernel
theorem dX4_image_11 : decode cX4_image 11 = .ok (.ireturn, 1) := by decide +kernel
theorem dX4_image_12 : decode cX4_image 12 = .ok (.aload_n 0, 1) := by decide +kernel
theorem dX4_image_13 : decode cX4_image 13 = .ok (.getfield 19, 3) := by decide +kernel
theorem dX4_image_16 : decode cX4_image 16 = .ok (.iload_n 1, 1) := by decide +kernel
theorem dX4_image_17 : decode cX4_image 17 = .ok (.aaload, 1) := by decide +kernel
theorem dX4_image_18 : decode cX4_image 18 = .ok (.ifnonnull 16, 3) := by decide +kernel
theorem dX4_image_21 : decode cX4_image 21 = .ok (.aload_n 0, 1) := by decide +kernel
theorem dX4_image_22 : decode cX4_image 22 = .ok (.getfield 19, 3) := by decide +kernel
theorem dX4_image_25 : decode cX4_image 25 = .ok (.iload_n 1, 1) := by decide +kernel
theorem dX4_image_26 : decode cX4_image 26 = .ok (.new 7, 3) := by decide +kernel
theorem dX4_image_29 : decode cX4_image 29 = .ok (.dup, 1) := by decide +kernel
theorem dX4_image_30 : decode cX4_image 30 = .ok (.invokespecial 9, 3) := by decide +kernel
theorem dX4_image_33 : decode cX4_image 33 = .ok (.aastore, 1) := by decide +kernel
theorem dX4_image_34 : decode cX4_image 34 = .ok (.aload_n 0, 1) := by decide +kernel
theorem dX4_image_35 : decode cX4_image 35 = .ok (.getfield 19, 3) := by decide +kernel
theorem dX4_image_38 : decode cX4_image 38 = .ok (.iload_n 1, 1) := by decide +kernel
theorem dX4_image_39 : decode cX4_image 39 = .ok (.aaload, 1) := by decide +kernel
theorem dX4_image_40 : decode cX4_image 40 = .ok (.aload_n 0, 1) := by decide +kernel
theorem dX4_image_41 : decode cX4_image 41 = .ok (.getfield 10, 3) := by decide +kernel
theorem dX4_image_44 : decode cX4_image 44 = .ok (.invokevirtual 159, 3) := by decide +kernel
theorem dX4_image_47 : decode cX4_image 47 = .ok (.iconst 1, 1) := by decide +kernel
theorem dX4_image_48 : decode cX4_image 48 = .ok (.ireturn, 1) := by decide +kernel
theorem dX4_restore_0 : decode cX4_restore 0 = .ok (.iload_n 1, 1) := by decide +kernel
theorem dX4_restore_1 : decode cX4_restore 1 = .ok (.iconst 0, 1) := by decide +kernel
theorem dX4_restore_2 : decode cX4_restore 2 = .ok (.iconst 1, 1) := by decide +kernel
theorem dX4_restore_3 : decode cX4_restore 3 = .ok (.invokestatic 44, 3) := by decide +kernel
theorem dX4_restore_6 : decode cX4_restore 6 = .ok (.ifCond .ne 6, 3) := by decide +kernel
theorem dX4_restore_9 : decode cX4_restore 9 = .ok (.bipush (-2), 2) := by decide +kernel
theorem dX4_restore_11 : decode cX4_restore 11 = .ok (.ireturn, 1) := by decide +kernel
theorem dX4_restore_12 : decode cX4_restore 12 = .ok (.aload_n 0, 1) := by decide +kernel
theorem dX4_restore_13 : decode cX4_restore 13 = .ok (.getfield 19, 3) := by decide +kernel
theorem dX4_restore_16 : decode cX4_restore 16 = .ok (.iload_n 1, 1) := by decide +kernel
theorem dX4_restore_17 : decode cX4_restore 17 = .ok (.aaload, 1) := by decide +kernel
theorem dX4_restore_18 : decode cX4_restore 18 = .ok (.ifnonnull 6, 3) := by decide +kernel
theorem dX4_restore_21 : decode cX4_restore 21 = .ok (.bipush (-3), 2) := by decide +kernel
theorem dX4_restore_23 : decode cX4_restore 23 = .ok (.ireturn, 1) := by decide +kernel
theorem dX4_restore_24 : decode cX4_restore 24 = .ok (.aload_n 0, 1) := by decide +kernel
theorem dX4_restore_25 : decode cX4_restore 25 = .ok (.getfield 10, 3) := by decide +kernel
theorem dX4_restore_28 : decode cX4_restore 28 = .ok (.aload_n 0, 1) := by decide +kernel
theorem dX4_restore_29 : decode cX4_restore 29 = .ok (.getfield 19, 3) := by decide +kernel
theorem dX4_restore_32 : decode cX4_restore 32 = .ok (.iload_n 1, 1) := by decide +kernel
theorem dX4_restore_33 : decode cX4_restore 33 = .ok (.aaload, 1) := by decide +kernel
theorem dX4_restore_34 : decode cX4_restore 34 = .ok (.invokevirtual 159, 3) := by decide +kernel
theorem dX4_restore_37 : decode cX4_restore 37 = .ok (.iconst 1, 1) := by decide +kernel
theorem dX4_restore_38 : decode cX4_restore 38 = .ok (.ireturn, 1) := by decide +kernel
theorem dX4_told_0 : decode cX4_told 0 = .ok (.iload_n 1, 1) := by decide +kernel
theorem dX4_told_1 : decode cX4_told 1 = .ok (.bipush 10, 2) := by decide +kernel
theorem dX4_told_3 : decode cX4_told 3 = .ok (.bipush 17, 2) := by decide +kernel
theorem dX4_told_5 : decode cX4_told 5 = .ok (.invokestatic 44, 3) := by decide +kernel
theorem dX4_told_8 : decode cX4_told 8 = .ok (.ifCond .eq 20, 3) := by decide +kernel
theorem dX4_told_11 : decode cX4_told 11 = .ok (.aload_n 0, 1) := by decide +kernel
theorem dX4_told_12 : decode cX4_told 12 = .ok (.getfield 10, 3) := by decide +kernel
theorem dX4_told_15 : decode cX4_told 15 = .ok (.getfield 112, 3) := by decide +kernel
theorem dX4_told_18 : decode cX4_told 18 = .ok (.iload_n 1, 1) := by decide +kernel
theorem dX4_told_19 : decode cX4_told 19 = .ok (.bipush 10, 2) := by decide +kernel
theorem dX4_told_21 : decode cX4_told 21 = .ok (.isub, 1) := by decide +kernel
theorem dX4_told_22 : decode cX4_told 22 = .ok (.iaload, 1) := by decide +kernel
theorem dX4_told_23 : decode cX4_told 23 = .ok (.sipush 1000, 3) := by decide +kernel
theorem dX4_told_26 : decode cX4_told 26 = .ok (.iadd, 1) := by decide +kernel
theorem dX4_told_27 : decode cX4_told 27 = .ok (.ireturn, 1) := by decide +kernel
theorem dX4_told_28 : decode cX4_told 28 = .ok (.iload_n 1, 1) := by decide +kernel
theorem dX4_told_29 : decode cX4_told 29 = .ok (.bipush 20, 2) := by decide +kernel
theorem dX4_told_31 : decode cX4_told 31 = .ok (.bipush 27, 2) := by decide +kernel
theorem dX4_told_33 : decode cX4_told 33 = .ok (.invokestatic 44, 3) := by decide +kernel
theorem dX4_told_36 : decode cX4_told 36 = .ok (.ifCond .eq 16, 3) := by decide +kernel
theorem dX4_told_39 : decode cX4_told 39 = .ok (.aload_n 0, 1) := by decide +kernel
theorem dX4_told_40 : decode cX4_told 40 = .ok (.getfield 10, 3) := by decide +kernel
theorem dX4_told_43 : decode cX4_told 43 = .ok (.getfield 115, 3) := by decide +kernel
theorem dX4_told_46 : decode cX4_told 46 = .ok (.iload_n 1, 1) := by decide +kernel
theorem dX4_told_47 : decode cX4_told 47 = .ok (.bipush 20, 2) := by decide +kernel
theorem dX4_told_49 : decode cX4_told 49 = .ok (.isub, 1) := by decide +kernel
theorem dX4_told_50 : decode cX4_told 50 = .ok (.iaload, 1) := by decide +kernel
theorem dX4_told_51 : decode cX4_told 51 = .ok (.ireturn, 1) := by decide +kernel
theorem dX4_told_52 : decode cX4_told 52 = .ok (.iload_n 1, 1) := by decide +kernel
theorem dX4_told_53 : decode cX4_told 53 = .ok (.sipush 1000, 3) := by decide +kernel
theorem dX4_told_56 : decode cX4_told 56 = .ok (.if_icmp .lt 20, 3) := by decide +kernel
theorem dX4_told_59 : decode cX4_told 59 = .ok (.aload_n 0, 1) := by decide +kernel
theorem dX4_told_60 : decode cX4_told 60 = .ok (.iload_n 1, 1) := by decide +kernel
theorem dX4_told_61 : decode cX4_told 61 = .ok (.sipush 1000, 3) := by decide +kernel
theorem dX4_told_64 : decode cX4_told 64 = .ok (.idiv, 1) := by decide +kernel
theorem dX4_told_65 : decode cX4_told 65 = .ok (.iconst 1, 1) := by decide +kernel
theorem dX4_told_66 : decode cX4_told 66 = .ok (.isub, 1) := by decide +kernel
theorem dX4_told_67 : decode cX4_told 67 = .ok (.iload_n 1, 1) := by decide +kernel
theorem dX4_told_68 : decode cX4_told 68 = .ok (.sipush 1000, 3) := by decide +kernel
theorem dX4_told_71 : decode cX4_told 71 = .ok (.irem, 1) := by decide +kernel
theorem dX4_told_72 : decode cX4_told 72 = .ok (.invokevirtual 267, 3) := by decide +kernel
theorem dX4_told_75 : decode cX4_told 75 = .ok (.ireturn, 1) := by decide +kernel
theorem dX4_told_76 : decode cX4_told 76 = .ok (.iload_n 1, 1) := by decide +kernel
theorem dX4_told_77 : decode cX4_told 77 = .ok (.bipush 100, 2) := by decide +kernel
theorem dX4_told_79 : decode cX4_told 79 = .ok (.if_icmp .lt 18, 3) := by decide +kernel
theorem dX4_told_82 : decode cX4_told 82 = .ok (.aload_n 0, 1) := by decide +kernel
theorem dX4_told_83 : decode cX4_told 83 = .ok (.iload_n 1, 1) := by decide +kernel
theorem dX4_told_84 : decode cX4_told 84 = .ok (.bipush 100, 2) := by decide +kernel
theorem dX4_told_86 : decode cX4_told 86 = .ok (.idiv, 1) := by decide +kernel
theorem dX4_told_87 : decode cX4_told 87 = .ok (.iconst 1, 1) := by decide +kernel
theorem dX4_told_88 : decode cX4_told 88 = .ok (.isub, 1) := by decide +kernel
theorem dX4_told_89 : decode cX4_told 89 = .ok (.iload_n 1, 1) := by decide +kernel
theorem dX4_told_90 : decode cX4_told 90 = .ok (.bipush 100, 2) := by decide +kernel
theorem dX4_told_92 : decode cX4_told 92 = .ok (.irem, 1) := by decide +kernel
theorem dX4_told_93 : decode cX4_told 93 = .ok (.invokevirtual 270, 3) := by decide +kernel
theorem dX4_told_96 : decode cX4_told 96 = .ok (.ireturn, 1) := by decide +kernel
theorem dX4_told_97 : decode cX4_told 97 = .ok (.iload_n 1, 1) := by decide +kernel
theorem dX4_told_98 : decode cX4_told 98 = .ok (.tableswitch 98 0 6 #[42, 50, 58, 66, 74, 82, 90], 42) := by decide +kernel
theorem dX4_told_140 : decode cX4_told 140 = .ok (.aload_n 0, 1) := by decide +kernel
theorem dX4_told_141 : decode cX4_told 141 = .ok (.getfield 26, 3) := by decide +kernel
theorem dX4_told_144 : decode cX4_told 144 = .ok (.getfield 124, 3) := by decide +kernel
theorem dX4_told_147 : decode cX4_told 147 = .ok (.ireturn, 1) := by decide +kernel
theorem dX4_told_148 : decode cX4_told 148 = .ok (.aload_n 0, 1) := by decide +kernel
theorem dX4_told_149 : decode cX4_told 149 = .ok (.getfield 10, 3) := by decide +kernel
theorem dX4_told_152 : decode cX4_told 152 = .ok (.getfield 48, 3) := by decide +kernel
theorem dX4_told_155 : decode cX4_told 155 = .ok (.ireturn, 1) := by decide +kernel
theorem dX4_told_156 : decode cX4_told 156 = .ok (.aload_n 0, 1) := by decide +kernel
theorem dX4_told_157 : decode cX4_told 157 = .ok (.getfield 10, 3) := by decide +kernel
theorem dX4_told_160 : decode cX4_told 160 = .ok (.getfield 60, 3) := by decide +kernel
theorem dX4_told_163 : decode cX4_told 163 = .ok (.ireturn, 1) := by decide +kernel
theorem dX4_told_164 : decode cX4_told 164 = .ok (.aload_n 0, 1) := by decide +kernel
theorem dX4_told_165 : decode cX4_told 165 = .ok (.getfield 10, 3) := by decide +kernel
theorem dX4_told_168 : decode cX4_told 168 = .ok (.getfield 94, 3) := by decide +kernel
theorem dX4_told_171 : decode cX4_told 171 = .ok (.ireturn, 1) := by decide +kernel
theorem dX4_told_172 : decode cX4_told 172 = .ok (.aload_n 0, 1) := by decide +kernel
theorem dX4_told_173 : decode cX4_told 173 = .ok (.getfield 10, 3) := by decide +kernel
theorem dX4_told_176 : decode cX4_told 176 = .ok (.getfield 121, 3) := by decide +kernel
theorem dX4_told_179 : decode cX4_told 179 = .ok (.ireturn, 1) := by decide +kernel
theorem dX4_told_180 : decode cX4_told 180 = .ok (.aload_n 0, 1) := by decide +kernel
theorem dX4_told_181 : decode cX4_told 181 = .ok (.getfield 10, 3) := by decide +kernel
theorem dX4_told_184 : decode cX4_told 184 = .ok (.getfield 225, 3) := by decide +kernel
theorem dX4_told_187 : decode cX4_told 187 = .ok (.ireturn, 1) := by decide +kernel
theorem dX4_told_188 : decode cX4_told 188 = .ok (.aload_n 0, 1) := by decide +kernel
theorem dX4_told_189 : decode cX4_told 189 = .ok (.getfield 10, 3) := by decide +kernel
theorem dX4_told_192 : decode cX4_told 192 = .ok (.getfield 118, 3) := by decide +kernel
theorem dX4_told_195 : decode cX4_told 195 = .ok (.ireturn, 1) := by decide +kernel
theorem dX4_told_196 : decode cX4_told 196 = .ok (.bipush (-2), 2) := by decide +kernel
theorem dX4_told_198 : decode cX4_told 198 = .ok (.ireturn, 1) := by decide +kernel
theorem dX4_within_0 : decode cX4_within 0 = .ok (.iload_n 0, 1) := by decide +kernel
theorem dX4_within_1 : decode cX4_within 1 = .ok (.iload_n 1, 1) := by decide +kernel
theorem dX4_within_2 : decode cX4_within 2 = .ok (.if_icmp .lt 12, 3) := by decide +kernel
theorem dX4_within_5 : decode cX4_within 5 = .ok (.iload_n 0, 1) := by decide +kernel
theorem dX4_within_6 : decode cX4_within 6 = .ok (.iload_n 2, 1) := by decide +kernel
theorem dX4_within_7 : decode cX4_within 7 = .ok (.if_icmp .gt 7, 3) := by decide +kernel
theorem dX4_within_10 : decode cX4_within 10 = .ok (.iconst 1, 1) := by decide +kernel
theorem dX4_within_11 : decode cX4_within 11 = .ok (.goto 4, 3) := by decide +kernel
theorem dX4_within_14 : decode cX4_within 14 = .ok (.iconst 0, 1) := by decide +kernel
theorem dX4_within_15 : decode cX4_within 15 = .ok (.ireturn, 1) := by decide +kernel
theorem dX4_has_0 : decode cX4_has 0 = .ok (.iload_n 0, 1) := by decide +kernel
theorem dX4_has_1 : decode cX4_has 1 = .ok (.iload_n 1, 1) := by decide +kernel
theorem dX4_has_2 : decode cX4_has 2 = .ok (.ishr, 1) := by decide +kernel
theorem dX4_has_3 : decode cX4_has 3 = .ok (.iconst 1, 1) := by decide +kernel
theorem dX4_has_4 : decode cX4_has 4 = .ok (.iand, 1) := by decide +kernel
theorem dX4_has_5 : decode cX4_has 5 = .ok (.iconst 1, 1) := by decide +kernel
theorem dX4_has_6 : decode cX4_has 6 = .ok (.if_icmp .ne 7, 3) := by decide +kernel
theorem dX4_has_9 : decode cX4_has 9 = .ok (.iconst 1, 1) := by decide +kernel
theorem dX4_has_10 : decode cX4_has 10 = .ok (.goto 4, 3) := by decide +kernel
theorem dX4_has_13 : decode cX4_has 13 = .ok (.iconst 0, 1) := by decide +kernel
theorem dX4_has_14 : decode cX4_has 14 = .ok (.ireturn, 1) := by decide +kernel
theorem dX4_isNews_0 : decode cX4_isNews 0 = .ok (.iload_n 0, 1) := by decide +kernel
theorem dX4_isNews_1 : decode cX4_isNews 1 = .ok (.iconst 0, 1) := by decide +kernel
theorem dX4_isNews_2 : decode cX4_isNews 2 = .ok (.bipush 7, 2) := by decide +kernel
theorem dX4_isNews_4 : decode cX4_isNews 4 = .ok (.invokestatic 44, 3) := by decide +kernel
theorem dX4_isNews_7 : decode cX4_isNews 7 = .ok (.ireturn, 1) := by decide +kernel
theorem dX4_refuseTrip_0 : decode cX4_refuseTrip 0 = .ok (.aload_n 0, 1) := by decide +kernel
theorem dX4_refuseTrip_1 : decode cX4_refuseTrip 1 = .ok (.getfield 10, 3) := by decide +kernel
theorem dX4_refuseTrip_4 : decode cX4_refuseTrip 4 = .ok (.iload_n 1, 1) := by decide +kernel
theorem dX4_refuseTrip_5 : decode cX4_refuseTrip 5 = .ok (.invokevirtual 106, 3) := by decide +kernel
theorem dX4_refuseTrip_8 : decode cX4_refuseTrip 8 = .ok (.ifCond .eq 14, 3) := by decide +kernel
theorem dX4_refuseTrip_11 : decode cX4_refuseTrip 11 = .ok (.aload_n 0, 1) := by decide +kernel
theorem dX4_refuseTrip_12 : decode cX4_refuseTrip 12 = .ok (.getfield 10, 3) := by decide +kernel
theorem dX4_refuseTrip_15 : decode cX4_refuseTrip 15 = .ok (.iload_n 2, 1) := by decide +kernel
theorem dX4_refuseTrip_16 : decode cX4_refuseTrip 16 = .ok (.invokevirtual 56, 3) := by decide +kernel
theorem dX4_refuseTrip_19 : decode cX4_refuseTrip 19 = .ok (.ifCond .ne 5, 3) := by decide +kernel
theorem dX4_refuseTrip_22 : decode cX4_refuseTrip 22 = .ok (.iconst (-1), 1) := by decide +kernel
theorem dX4_refuseTrip_23 : decode cX4_refuseTrip 23 = .ok (.ireturn, 1) := by decide +kernel
theorem dX4_refuseTrip_24 : decode cX4_refuseTrip 24 = .ok (.iload_n 3, 1) := by decide +kernel
theorem dX4_refuseTrip_25 : decode cX4_refuseTrip 25 = .ok (.iconst 0, 1) := by decide +kernel
theorem dX4_refuseTrip_26 : decode cX4_refuseTrip 26 = .ok (.iconst 1, 1) := by decide +kernel
theorem dX4_refuseTrip_27 : decode cX4_refuseTrip 27 = .ok (.invokestatic 44, 3) := by decide +kernel
theorem dX4_refuseTrip_30 : decode cX4_refuseTrip 30 = .ok (.ifCond .eq 7, 3) := by decide +kernel
theorem dX4_refuseTrip_33 : decode cX4_refuseTrip 33 = .ok (.iconst 0, 1) := by decide +kernel
theorem dX4_refuseTrip_34 : decode cX4_refuseTrip 34 = .ok (.goto 5, 3) := by decide +kernel
theorem dX4_refuseTrip_37 : decode cX4_refuseTrip 37 = .ok (.bipush (-2), 2) := by decide +kernel
theorem dX4_refuseTrip_39 : decode cX4_refuseTrip 39 = .ok (.ireturn, 1) := by decide +kernel
theorem dX4_countOrBits_0 : decode cX4_countOrBits 0 = .ok (.iload_n 0, 1) := by decide +kernel
theorem dX4_countOrBits_1 : decode cX4_countOrBits 1 = .ok (.bipush (-6), 2) := by decide +kernel
theorem dX4_countOrBits_3 : decode cX4_countOrBits 3 = .ok (.if_icmp .eq 8, 3) := by decide +kernel
theorem dX4_countOrBits_6 : decode cX4_countOrBits 6 = .ok (.iload_n 1, 1) := by decide +kernel
theorem dX4_countOrBits_7 : decode cX4_countOrBits 7 = .ok (.iconst 1, 1) := by decide +kernel
theorem dX4_countOrBits_8 : decode cX4_countOrBits 8 = .ok (.if_icmp .ne 7, 3) := by decide +kernel
theorem dX4_countOrBits_11 : decode cX4_countOrBits 11 = .ok (.iload_n 0, 1) := by decide +kernel
theorem dX4_countOrBits_12 : decode cX4_countOrBits 12 = .ok (.goto 7, 3) := by decide +kernel
theorem dX4_countOrBits_15 : decode cX4_countOrBits 15 = .ok (.iload_n 0, 1) := by decide +kernel
theorem dX4_countOrBits_16 : decode cX4_countOrBits 16 = .ok (.invokestatic 85, 3) := by decide +kernel
theorem dX4_countOrBits_19 : decode cX4_countOrBits 19 = .ok (.ireturn, 1) := by decide +kernel
theorem dX4_fewest_0 : decode cX4_fewest 0 = .ok (.bipush (-6), 2) := by decide +kernel
theorem dX4_fewest_2 : decode cX4_fewest 2 = .ok (.istore 4, 2) := by decide +kernel
theorem dX4_fewest_4 : decode cX4_fewest 4 = .ok (.iconst 0, 1) := by decide +kernel
theorem dX4_fewest_5 : decode cX4_fewest 5 = .ok (.istore 5, 2) := by decide +kernel
theorem dX4_fewest_7 : decode cX4_fewest 7 = .ok (.iload 5, 2) := by decide +kernel
theorem dX4_fewest_9 : decode cX4_fewest 9 = .ok (.sipush 256, 3) := by decide +kernel
theorem dX4_fewest_12 : decode cX4_fewest 12 = .ok (.if_icmp .ge 111, 3) := by decide +kernel
theorem dX4_fewest_15 : decode cX4_fewest 15 = .ok (.iload 4, 2) := by decide +kernel
theorem dX4_fewest_17 : decode cX4_fewest 17 = .ok (.bipush (-6), 2) := by decide +kernel
theorem dX4_fewest_19 : decode cX4_fewest 19 = .ok (.if_icmp .eq 16, 3) := by decide +kernel
theorem dX4_fewest_22 : decode cX4_fewest 22 = .ok (.iload 5, 2) := by decide +kernel
theorem dX4_fewest_24 : decode cX4_fewest 24 = .ok (.invokestatic 85, 3) := by decide +kernel
theorem dX4_fewest_27 : decode cX4_fewest 27 = .ok (.iload 4, 2) := by decide +kernel
theorem dX4_fewest_29 : decode cX4_fewest 29 = .ok (.invokestatic 85, 3) := by decide +kernel
theorem dX4_fewest_32 : decode cX4_fewest 32 = .ok (.if_icmp .ge 7, 3) := by decide +kernel
theorem dX4_fewest_35 : decode cX4_fewest 35 = .ok (.iconst 1, 1) := by decide +kernel
theorem dX4_fewest_36 : decode cX4_fewest 36 = .ok (.goto 4, 3) := by decide +kernel
theorem dX4_fewest_39 : decode cX4_fewest 39 = .ok (.iconst 0, 1) := by decide +kernel
theorem dX4_fewest_40 : decode cX4_fewest 40 = .ok (.istore 6, 2) := by decide +kernel
theorem dX4_fewest_42 : decode cX4_fewest 42 = .ok (.iload 6, 2) := by decide +kernel
theorem dX4_fewest_44 : decode cX4_fewest 44 = .ok (.ifCond .eq 73, 3) := by decide +kernel
theorem dX4_fewest_47 : decode cX4_fewest 47 = .ok (.iload 5, 2) := by decide +kernel
theorem dX4_fewest_49 : decode cX4_fewest 49 = .ok (.iload_n 3, 1) := by decide +kernel
theorem dX4_fewest_50 : decode cX4_fewest 50 = .ok (.iconst (-1), 1) := by decide +kernel
theorem dX4_fewest_51 : decode cX4_fewest 51 = .ok (.ixor, 1) := by decide +kernel
theorem dX4_fewest_52 : decode cX4_fewest 52 = .ok (.iand, 1) := by decide +kernel
theorem dX4_fewest_53 : decode cX4_fewest 53 = .ok (.ifCond .ne 64, 3) := by decide +kernel
theorem dX4_fewest_56 : decode cX4_fewest 56 = .ok (.iconst 0, 1) := by decide +kernel
theorem dX4_fewest_57 : decode cX4_fewest 57 = .ok (.aload_n 0, 1) := by decide +kernel
theorem dX4_fewest_58 : decode cX4_fewest 58 = .ok (.getfield 10, 3) := by decide +kernel
theorem dX4_fewest_61 : decode cX4_fewest 61 = .ok (.iload_n 1, 1) := by decide +kernel
theorem dX4_fewest_62 : decode cX4_fewest 62 = .ok (.aload_n 0, 1) := by decide +kernel
theorem dX4_fewest_63 : decode cX4_fewest 63 = .ok (.getfield 10, 3) := by decide +kernel
theorem dX4_fewest_66 : decode cX4_fewest 66 = .ok (.getfield 103, 3) := by decide +kernel
theorem dX4_fewest_69 : decode cX4_fewest 69 = .ok (.iload_n 1, 1) := by decide +kernel
theorem dX4_fewest_70 : decode cX4_fewest 70 = .ok (.iaload, 1) := by decide +kernel
theorem dX4_fewest_71 : decode cX4_fewest 71 = .ok (.iload 5, 2) := by decide +kernel
theorem dX4_fewest_73 : decode cX4_fewest 73 = .ok (.ixor, 1) := by decide +kernel
theorem dX4_fewest_74 : decode cX4_fewest 74 = .ok (.invokevirtual 273, 3) := by decide +kernel
theorem dX4_fewest_77 : decode cX4_fewest 77 = .ok (.invokestatic 76, 3) := by decide +kernel
theorem dX4_fewest_80 : decode cX4_fewest 80 = .ok (.istore 7, 2) := by decide +kernel
theorem dX4_fewest_82 : decode cX4_fewest 82 = .ok (.aload_n 0, 1) := by decide +kernel
theorem dX4_fewest_83 : decode cX4_fewest 83 = .ok (.getfield 10, 3) := by decide +kernel
theorem dX4_fewest_86 : decode cX4_fewest 86 = .ok (.aload_n 0, 1) := by decide +kernel
theorem dX4_fewest_87 : decode cX4_fewest 87 = .ok (.getfield 10, 3) := by decide +kernel
theorem dX4_fewest_90 : decode cX4_fewest 90 = .ok (.getfield 97, 3) := by decide +kernel
theorem dX4_fewest_93 : decode cX4_fewest 93 = .ok (.iload_n 1, 1) := by decide +kernel
theorem dX4_fewest_94 : decode cX4_fewest 94 = .ok (.iaload, 1) := by decide +kernel
theorem dX4_fewest_95 : decode cX4_fewest 95 = .ok (.iload_n 2, 1) := by decide +kernel
theorem dX4_fewest_96 : decode cX4_fewest 96 = .ok (.aload_n 0, 1) := by decide +kernel
theorem dX4_fewest_97 : decode cX4_fewest 97 = .ok (.getfield 10, 3) := by decide +kernel
theorem dX4_fewest_100 : decode cX4_fewest 100 = .ok (.iload 7, 2) := by decide +kernel
theorem dX4_fewest_102 : decode cX4_fewest 102 = .ok (.invokevirtual 170, 3) := by decide +kernel
theorem dX4_fewest_105 : decode cX4_fewest 105 = .ok (.invokevirtual 173, 3) := by decide +kernel
theorem dX4_fewest_108 : decode cX4_fewest 108 = .ok (.bipush (-6), 2) := by decide +kernel
theorem dX4_fewest_110 : decode cX4_fewest 110 = .ok (.if_icmp .eq 7, 3) := by decide +kernel
theorem dX4_fewest_113 : decode cX4_fewest 113 = .ok (.iload 5, 2) := by decide +kernel
theorem dX4_fewest_115 : decode cX4_fewest 115 = .ok (.istore 4, 2) := by decide +kernel
theorem dX4_fewest_117 : decode cX4_fewest 117 = .ok (.iinc 5 1, 3) := by decide +kernel
theorem dX4_fewest_120 : decode cX4_fewest 120 = .ok (.goto (-113), 3) := by decide +kernel
theorem dX4_fewest_123 : decode cX4_fewest 123 = .ok (.iload 4, 2) := by decide +kernel
theorem dX4_fewest_125 : decode cX4_fewest 125 = .ok (.ireturn, 1) := by decide +kernel
theorem dX4_weakestBridge_0 : decode cX4_weakestBridge 0 = .ok (.aload_n 0, 1) := by decide +kernel
theorem dX4_weakestBridge_1 : decode cX4_weakestBridge 1 = .ok (.getfield 10, 3) := by decide +kernel
theorem dX4_weakestBridge_4 : decode cX4_weakestBridge 4 = .ok (.iload_n 3, 1) := by decide +kernel
theorem dX4_weakestBridge_5 : decode cX4_weakestBridge 5 = .ok (.invokevirtual 170, 3) := by decide +kernel
theorem dX4_weakestBridge_8 : decode cX4_weakestBridge 8 = .ok (.istore 4, 2) := by decide +kernel
theorem dX4_weakestBridge_10 : decode cX4_weakestBridge 10 = .ok (.aload_n 0, 1) := by decide +kernel
theorem dX4_weakestBridge_11 : decode cX4_weakestBridge 11 = .ok (.getfield 10, 3) := by decide +kernel
theorem dX4_weakestBridge_14 : decode cX4_weakestBridge 14 = .ok (.iload_n 1, 1) := by decide +kernel
theorem dX4_weakestBridge_15 : decode cX4_weakestBridge 15 = .ok (.iload_n 2, 1) := by decide +kernel
theorem dX4_weakestBridge_16 : decode cX4_weakestBridge 16 = .ok (.iload 4, 2) := by decide +kernel
theorem dX4_weakestBridge_18 : decode cX4_weakestBridge 18 = .ok (.invokevirtual 173, 3) := by decide +kernel
theorem dX4_weakestBridge_21 : decode cX4_weakestBridge 21 = .ok (.bipush (-6), 2) := by decide +kernel
theorem dX4_weakestBridge_23 : decode cX4_weakestBridge 23 = .ok (.if_icmp .eq 6, 3) := by decide +kernel
theorem dX4_weakestBridge_26 : decode cX4_weakestBridge 26 = .ok (.bipush (-6), 2) := by decide +kernel
theorem dX4_weakestBridge_28 : decode cX4_weakestBridge 28 = .ok (.ireturn, 1) := by decide +kernel
theorem dX4_weakestBridge_29 : decode cX4_weakestBridge 29 = .ok (.bipush (-6), 2) := by decide +kernel
theorem dX4_weakestBridge_31 : decode cX4_weakestBridge 31 = .ok (.istore 5, 2) := by decide +kernel
theorem dX4_weakestBridge_33 : decode cX4_weakestBridge 33 = .ok (.iconst 0, 1) := by decide +kernel
theorem dX4_weakestBridge_34 : decode cX4_weakestBridge 34 = .ok (.istore 6, 2) := by decide +kernel
theorem dX4_weakestBridge_36 : decode cX4_weakestBridge 36 = .ok (.iload 6, 2) := by decide +kernel
theorem dX4_weakestBridge_38 : decode cX4_weakestBridge 38 = .ok (.bipush 8, 2) := by decide +kernel
theorem dX4_weakestBridge_40 : decode cX4_weakestBridge 40 = .ok (.if_icmp .ge 88, 3) := by decide +kernel
theorem dX4_weakestBridge_43 : decode cX4_weakestBridge 43 = .ok (.iload 5, 2) := by decide +kernel
theorem dX4_weakestBridge_45 : decode cX4_weakestBridge 45 = .ok (.bipush (-6), 2) := by decide +kernel
theorem dX4_weakestBridge_47 : decode cX4_weakestBridge 47 = .ok (.if_icmp .eq 26, 3) := by decide +kernel
theorem dX4_weakestBridge_50 : decode cX4_weakestBridge 50 = .ok (.aload_n 0, 1) := by decide +kernel
theorem dX4_weakestBridge_51 : decode cX4_weakestBridge 51 = .ok (.getfield 10, 3) := by decide +kernel
theorem dX4_weakestBridge_54 : decode cX4_weakestBridge 54 = .ok (.getfield 79, 3) := by decide +kernel
theorem dX4_weakestBridge_57 : decode cX4_weakestBridge 57 = .ok (.iload 6, 2) := by decide +kernel
theorem dX4_weakestBridge_59 : decode cX4_weakestBridge 59 = .ok (.iaload, 1) := by decide +kernel
theorem dX4_weakestBridge_60 : decode cX4_weakestBridge 60 = .ok (.aload_n 0, 1) := by decide +kernel
theorem dX4_weakestBridge_61 : decode cX4_weakestBridge 61 = .ok (.getfield 10, 3) := by decide +kernel
theorem dX4_weakestBridge_64 : decode cX4_weakestBridge 64 = .ok (.getfield 79, 3) := by decide +kernel
theorem dX4_weakestBridge_67 : decode cX4_weakestBridge 67 = .ok (.iload 5, 2) := by decide +kernel
theorem dX4_weakestBridge_69 : decode cX4_weakestBridge 69 = .ok (.iaload, 1) := by decide +kernel
theorem dX4_weakestBridge_70 : decode cX4_weakestBridge 70 = .ok (.if_icmp .le 7, 3) := by decide +kernel
theorem dX4_weakestBridge_73 : decode cX4_weakestBridge 73 = .ok (.iconst 1, 1) := by decide +kernel
theorem dX4_weakestBridge_74 : decode cX4_weakestBridge 74 = .ok (.goto 4, 3) := by decide +kernel
theorem dX4_weakestBridge_77 : decode cX4_weakestBridge 77 = .ok (.iconst 0, 1) := by decide +kernel
theorem dX4_weakestBridge_78 : decode cX4_weakestBridge 78 = .ok (.istore 7, 2) := by decide +kernel
theorem dX4_weakestBridge_80 : decode cX4_weakestBridge 80 = .ok (.aload_n 0, 1) := by decide +kernel
theorem dX4_weakestBridge_81 : decode cX4_weakestBridge 81 = .ok (.getfield 10, 3) := by decide +kernel
theorem dX4_weakestBridge_84 : decode cX4_weakestBridge 84 = .ok (.iload 6, 2) := by decide +kernel
theorem dX4_weakestBridge_86 : decode cX4_weakestBridge 86 = .ok (.invokevirtual 91, 3) := by decide +kernel
theorem dX4_weakestBridge_89 : decode cX4_weakestBridge 89 = .ok (.ifCond .eq 33, 3) := by decide +kernel
theorem dX4_weakestBridge_92 : decode cX4_weakestBridge 92 = .ok (.iload 7, 2) := by decide +kernel
theorem dX4_weakestBridge_94 : decode cX4_weakestBridge 94 = .ok (.ifCond .eq 28, 3) := by decide +kernel
theorem dX4_weakestBridge_97 : decode cX4_weakestBridge 97 = .ok (.aload_n 0, 1) := by decide +kernel
theorem dX4_weakestBridge_98 : decode cX4_weakestBridge 98 = .ok (.getfield 10, 3) := by decide +kernel
theorem dX4_weakestBridge_101 : decode cX4_weakestBridge 101 = .ok (.iload_n 1, 1) := by decide +kernel
theorem dX4_weakestBridge_102 : decode cX4_weakestBridge 102 = .ok (.iload_n 2, 1) := by decide +kernel
theorem dX4_weakestBridge_103 : decode cX4_weakestBridge 103 = .ok (.iload 4, 2) := by decide +kernel
theorem dX4_weakestBridge_105 : decode cX4_weakestBridge 105 = .ok (.iconst 1, 1) := by decide +kernel
theorem dX4_weakestBridge_106 : decode cX4_weakestBridge 106 = .ok (.iload 6, 2) := by decide +kernel
theorem dX4_weakestBridge_108 : decode cX4_weakestBridge 108 = .ok (.ishl, 1) := by decide +kernel
theorem dX4_weakestBridge_109 : decode cX4_weakestBridge 109 = .ok (.ior, 1) := by decide +kernel
theorem dX4_weakestBridge_110 : decode cX4_weakestBridge 110 = .ok (.invokevirtual 173, 3) := by decide +kernel
theorem dX4_weakestBridge_113 : decode cX4_weakestBridge 113 = .ok (.bipush (-6), 2) := by decide +kernel
theorem dX4_weakestBridge_115 : decode cX4_weakestBridge 115 = .ok (.if_icmp .eq 7, 3) := by decide +kernel
theorem dX4_weakestBridge_118 : decode cX4_weakestBridge 118 = .ok (.iload 6, 2) := by decide +kernel
theorem dX4_weakestBridge_120 : decode cX4_weakestBridge 120 = .ok (.istore 5, 2) := by decide +kernel
theorem dX4_weakestBridge_122 : decode cX4_weakestBridge 122 = .ok (.iinc 6 1, 3) := by decide +kernel
theorem dX4_weakestBridge_125 : decode cX4_weakestBridge 125 = .ok (.goto (-89), 3) := by decide +kernel
theorem dX4_weakestBridge_128 : decode cX4_weakestBridge 128 = .ok (.iload 5, 2) := by decide +kernel
theorem dX4_weakestBridge_130 : decode cX4_weakestBridge 130 = .ok (.ireturn, 1) := by decide +kernel
theorem dX4_arrivers_0 : decode cX4_arrivers 0 = .ok (.iconst 0, 1) := by decide +kernel
theorem dX4_arrivers_1 : decode cX4_arrivers 1 = .ok (.istore_n 3, 1) := by decide +kernel
theorem dX4_arrivers_2 : decode cX4_arrivers 2 = .ok (.iconst 0, 1) := by decide +kernel
theorem dX4_arrivers_3 : decode cX4_arrivers 3 = .ok (.istore 4, 2) := by decide +kernel
theorem dX4_arrivers_5 : decode cX4_arrivers 5 = .ok (.iload 4, 2) := by decide +kernel
theorem dX4_arrivers_7 : decode cX4_arrivers 7 = .ok (.bipush 6, 2) := by decide +kernel
theorem dX4_arrivers_9 : decode cX4_arrivers 9 = .ok (.if_icmp .ge 77, 3) := by decide +kernel
theorem dX4_arrivers_12 : decode cX4_arrivers 12 = .ok (.aload_n 0, 1) := by decide +kernel
theorem dX4_arrivers_13 : decode cX4_arrivers 13 = .ok (.getfield 10, 3) := by decide +kernel
theorem dX4_arrivers_16 : decode cX4_arrivers 16 = .ok (.iload 4, 2) := by decide +kernel
theorem dX4_arrivers_18 : decode cX4_arrivers 18 = .ok (.invokevirtual 106, 3) := by decide +kernel
theorem dX4_arrivers_21 : decode cX4_arrivers 21 = .ok (.ifCond .eq 59, 3) := by decide +kernel
theorem dX4_arrivers_24 : decode cX4_arrivers 24 = .ok (.iconst 0, 1) := by decide +kernel
theorem dX4_arrivers_25 : decode cX4_arrivers 25 = .ok (.aload_n 0, 1) := by decide +kernel
theorem dX4_arrivers_26 : decode cX4_arrivers 26 = .ok (.getfield 10, 3) := by decide +kernel
theorem dX4_arrivers_29 : decode cX4_arrivers 29 = .ok (.iload 4, 2) := by decide +kernel
theorem dX4_arrivers_31 : decode cX4_arrivers 31 = .ok (.invokevirtual 156, 3) := by decide +kernel
theorem dX4_arrivers_34 : decode cX4_arrivers 34 = .ok (.iload_n 2, 1) := by decide +kernel
theorem dX4_arrivers_35 : decode cX4_arrivers 35 = .ok (.iadd, 1) := by decide +kernel
theorem dX4_arrivers_36 : decode cX4_arrivers 36 = .ok (.invokestatic 76, 3) := by decide +kernel
theorem dX4_arrivers_39 : decode cX4_arrivers 39 = .ok (.istore 5, 2) := by decide +kernel
theorem dX4_arrivers_41 : decode cX4_arrivers 41 = .ok (.aload_n 0, 1) := by decide +kernel
theorem dX4_arrivers_42 : decode cX4_arrivers 42 = .ok (.getfield 10, 3) := by decide +kernel
theorem dX4_arrivers_45 : decode cX4_arrivers 45 = .ok (.aload_n 0, 1) := by decide +kernel
theorem dX4_arrivers_46 : decode cX4_arrivers 46 = .ok (.getfield 10, 3) := by decide +kernel
theorem dX4_arrivers_49 : decode cX4_arrivers 49 = .ok (.getfield 97, 3) := by decide +kernel
theorem dX4_arrivers_52 : decode cX4_arrivers 52 = .ok (.iload 4, 2) := by decide +kernel
theorem dX4_arrivers_54 : decode cX4_arrivers 54 = .ok (.iaload, 1) := by decide +kernel
theorem dX4_arrivers_55 : decode cX4_arrivers 55 = .ok (.iload_n 1, 1) := by decide +kernel
theorem dX4_arrivers_56 : decode cX4_arrivers 56 = .ok (.aload_n 0, 1) := by decide +kernel
theorem dX4_arrivers_57 : decode cX4_arrivers 57 = .ok (.getfield 10, 3) := by decide +kernel
theorem dX4_arrivers_60 : decode cX4_arrivers 60 = .ok (.iload 5, 2) := by decide +kernel
theorem dX4_arrivers_62 : decode cX4_arrivers 62 = .ok (.invokevirtual 170, 3) := by decide +kernel
theorem dX4_arrivers_65 : decode cX4_arrivers 65 = .ok (.invokevirtual 173, 3) := by decide +kernel
theorem dX4_arrivers_68 : decode cX4_arrivers 68 = .ok (.bipush (-6), 2) := by decide +kernel
theorem dX4_arrivers_70 : decode cX4_arrivers 70 = .ok (.if_icmp .eq 10, 3) := by decide +kernel
theorem dX4_arrivers_73 : decode cX4_arrivers 73 = .ok (.iload_n 3, 1) := by decide +kernel
theorem dX4_arrivers_74 : decode cX4_arrivers 74 = .ok (.iconst 1, 1) := by decide +kernel
theorem dX4_arrivers_75 : decode cX4_arrivers 75 = .ok (.iload 4, 2) := by decide +kernel
theorem dX4_arrivers_77 : decode cX4_arrivers 77 = .ok (.ishl, 1) := by decide +kernel
theorem dX4_arrivers_78 : decode cX4_arrivers 78 = .ok (.ior, 1) := by decide +kernel
theorem dX4_arrivers_79 : decode cX4_arrivers 79 = .ok (.istore_n 3, 1) := by decide +kernel
theorem dX4_arrivers_80 : decode cX4_arrivers 80 = .ok (.iinc 4 1, 3) := by decide +kernel
theorem dX4_arrivers_83 : decode cX4_arrivers 83 = .ok (.goto (-78), 3) := by decide +kernel
theorem dX4_arrivers_86 : decode cX4_arrivers 86 = .ok (.iload_n 3, 1) := by decide +kernel
theorem dX4_arrivers_87 : decode cX4_arrivers 87 = .ok (.ireturn, 1) := by decide +kernel
theorem dX4_feeOf_0 : decode cX4_feeOf 0 = .ok (.aload_n 0, 1) := by decide +kernel
theorem dX4_feeOf_1 : decode cX4_feeOf 1 = .ok (.getfield 10, 3) := by decide +kernel
theorem dX4_feeOf_4 : decode cX4_feeOf 4 = .ok (.iload_n 1, 1) := by decide +kernel
theorem dX4_feeOf_5 : decode cX4_feeOf 5 = .ok (.invokevirtual 156, 3) := by decide +kernel
theorem dX4_feeOf_8 : decode cX4_feeOf 8 = .ok (.istore_n 3, 1) := by decide +kernel
theorem dX4_feeOf_9 : decode cX4_feeOf 9 = .ok (.aload_n 0, 1) := by decide +kernel
theorem dX4_feeOf_10 : decode cX4_feeOf 10 = .ok (.getfield 10, 3) := by decide +kernel
theorem dX4_feeOf_13 : decode cX4_feeOf 13 = .ok (.aload_n 0, 1) := by decide +kernel
theorem dX4_feeOf_14 : decode cX4_feeOf 14 = .ok (.getfield 10, 3) := by decide +kernel
theorem dX4_feeOf_17 : decode cX4_feeOf 17 = .ok (.getfield 97, 3) := by decide +kernel
theorem dX4_feeOf_20 : decode cX4_feeOf 20 = .ok (.iload_n 1, 1) := by decide +kernel
theorem dX4_feeOf_21 : decode cX4_feeOf 21 = .ok (.iaload, 1) := by decide +kernel
theorem dX4_feeOf_22 : decode cX4_feeOf 22 = .ok (.iload_n 2, 1) := by decide +kernel
theorem dX4_feeOf_23 : decode cX4_feeOf 23 = .ok (.aload_n 0, 1) := by decide +kernel
theorem dX4_feeOf_24 : decode cX4_feeOf 24 = .ok (.getfield 10, 3) := by decide +kernel
theorem dX4_feeOf_27 : decode cX4_feeOf 27 = .ok (.iload_n 3, 1) := by decide +kernel
theorem dX4_feeOf_28 : decode cX4_feeOf 28 = .ok (.invokevirtual 170, 3) := by decide +kernel
theorem dX4_feeOf_31 : decode cX4_feeOf 31 = .ok (.invokevirtual 173, 3) := by decide +kernel
theorem dX4_feeOf_34 : decode cX4_feeOf 34 = .ok (.istore 4, 2) := by decide +kernel
theorem dX4_feeOf_36 : decode cX4_feeOf 36 = .ok (.iload 4, 2) := by decide +kernel
theorem dX4_feeOf_38 : decode cX4_feeOf 38 = .ok (.bipush (-6), 2) := by decide +kernel
theorem dX4_feeOf_40 : decode cX4_feeOf 40 = .ok (.if_icmp .ne 8, 3) := by decide +kernel
theorem dX4_feeOf_43 : decode cX4_feeOf 43 = .ok (.bipush (-6), 2) := by decide +kernel
theorem dX4_feeOf_45 : decode cX4_feeOf 45 = .ok (.goto 7, 3) := by decide +kernel
theorem dX4_feeOf_48 : decode cX4_feeOf 48 = .ok (.iload_n 3, 1) := by decide +kernel
theorem dX4_feeOf_49 : decode cX4_feeOf 49 = .ok (.iload 4, 2) := by decide +kernel
theorem dX4_feeOf_51 : decode cX4_feeOf 51 = .ok (.imul, 1) := by decide +kernel
theorem dX4_feeOf_52 : decode cX4_feeOf 52 = .ok (.ireturn, 1) := by decide +kernel
theorem dX4_tellBridge_0 : decode cX4_tellBridge 0 = .ok (.aload_n 0, 1) := by decide +kernel
theorem dX4_tellBridge_1 : decode cX4_tellBridge 1 = .ok (.getfield 10, 3) := by decide +kernel
theorem dX4_tellBridge_4 : decode cX4_tellBridge 4 = .ok (.iload_n 1, 1) := by decide +kernel
theorem dX4_tellBridge_5 : decode cX4_tellBridge 5 = .ok (.invokevirtual 91, 3) := by decide +kernel
theorem dX4_tellBridge_8 : decode cX4_tellBridge 8 = .ok (.ifCond .ne 6, 3) := by decide +kernel
theorem dX4_tellBridge_11 : decode cX4_tellBridge 11 = .ok (.bipush (-2), 2) := by decide +kernel
theorem dX4_tellBridge_13 : decode cX4_tellBridge 13 = .ok (.ireturn, 1) := by decide +kernel
theorem dX4_tellBridge_14 : decode cX4_tellBridge 14 = .ok (.iload_n 2, 1) := by decide +kernel
theorem dX4_tellBridge_15 : decode cX4_tellBridge 15 = .ok (.tableswitch 55 0 2 #[25, 35, 45], 25) := by decide +kernel
theorem dX4_tellBridge_40 : decode cX4_tellBridge 40 = .ok (.aload_n 0, 1) := by decide +kernel
theorem dX4_tellBridge_41 : decode cX4_tellBridge 41 = .ok (.getfield 10, 3) := by decide +kernel
theorem dX4_tellBridge_44 : decode cX4_tellBridge 44 = .ok (.getfield 79, 3) := by decide +kernel
theorem dX4_tellBridge_47 : decode cX4_tellBridge 47 = .ok (.iload_n 1, 1) := by decide +kernel
theorem dX4_tellBridge_48 : decode cX4_tellBridge 48 = .ok (.iaload, 1) := by decide +kernel
theorem dX4_tellBridge_49 : decode cX4_tellBridge 49 = .ok (.ireturn, 1) := by decide +kernel
theorem dX4_tellBridge_50 : decode cX4_tellBridge 50 = .ok (.aload_n 0, 1) := by decide +kernel
theorem dX4_tellBridge_51 : decode cX4_tellBridge 51 = .ok (.getfield 10, 3) := by decide +kernel
theorem dX4_tellBridge_54 : decode cX4_tellBridge 54 = .ok (.getfield 63, 3) := by decide +kernel
theorem dX4_tellBridge_57 : decode cX4_tellBridge 57 = .ok (.iload_n 1, 1) := by decide +kernel
theorem dX4_tellBridge_58 : decode cX4_tellBridge 58 = .ok (.iaload, 1) := by decide +kernel
theorem dX4_tellBridge_59 : decode cX4_tellBridge 59 = .ok (.ireturn, 1) := by decide +kernel
theorem dX4_tellBridge_60 : decode cX4_tellBridge 60 = .ok (.aload_n 0, 1) := by decide +kernel
theorem dX4_tellBridge_61 : decode cX4_tellBridge 61 = .ok (.getfield 10, 3) := by decide +kernel
theorem dX4_tellBridge_64 : decode cX4_tellBridge 64 = .ok (.getfield 73, 3) := by decide +kernel
theorem dX4_tellBridge_67 : decode cX4_tellBridge 67 = .ok (.iload_n 1, 1) := by decide +kernel
theorem dX4_tellBridge_68 : decode cX4_tellBridge 68 = .ok (.iaload, 1) := by decide +kernel
theorem dX4_tellBridge_69 : decode cX4_tellBridge 69 = .ok (.ireturn, 1) := by decide +kernel
theorem dX4_tellBridge_70 : decode cX4_tellBridge 70 = .ok (.bipush (-2), 2) := by decide +kernel
theorem dX4_tellBridge_72 : decode cX4_tellBridge 72 = .ok (.ireturn, 1) := by decide +kernel
theorem dX4_tellPerson_0 : decode cX4_tellPerson 0 = .ok (.aload_n 0, 1) := by decide +kernel
theorem dX4_tellPerson_1 : decode cX4_tellPerson 1 = .ok (.getfield 10, 3) := by decide +kernel
theorem dX4_tellPerson_4 : decode cX4_tellPerson 4 = .ok (.iload_n 1, 1) := by decide +kernel
theorem dX4_tellPerson_5 : decode cX4_tellPerson 5 = .ok (.invokevirtual 106, 3) := by decide +kernel
theorem dX4_tellPerson_8 : decode cX4_tellPerson 8 = .ok (.ifCond .ne 6, 3) := by decide +kernel
theorem dX4_tellPerson_11 : decode cX4_tellPerson 11 = .ok (.bipush (-2), 2) := by decide +kernel
theorem dX4_tellPerson_13 : decode cX4_tellPerson 13 = .ok (.ireturn, 1) := by decide +kernel
theorem dX4_tellPerson_14 : decode cX4_tellPerson 14 = .ok (.iload_n 2, 1) := by decide +kernel
theorem dX4_tellPerson_15 : decode cX4_tellPerson 15 = .ok (.tableswitch 55 0 2 #[25, 35, 45], 25) := by decide +kernel
theorem dX4_tellPerson_40 : decode cX4_tellPerson 40 = .ok (.aload_n 0, 1) := by decide +kernel
theorem dX4_tellPerson_41 : decode cX4_tellPerson 41 = .ok (.getfield 10, 3) := by decide +kernel
theorem dX4_tellPerson_44 : decode cX4_tellPerson 44 = .ok (.getfield 97, 3) := by decide +kernel
theorem dX4_tellPerson_47 : decode cX4_tellPerson 47 = .ok (.iload_n 1, 1) := by decide +kernel
theorem dX4_tellPerson_48 : decode cX4_tellPerson 48 = .ok (.iaload, 1) := by decide +kernel
theorem dX4_tellPerson_49 : decode cX4_tellPerson 49 = .ok (.ireturn, 1) := by decide +kernel
theorem dX4_tellPerson_50 : decode cX4_tellPerson 50 = .ok (.aload_n 0, 1) := by decide +kernel
theorem dX4_tellPerson_51 : decode cX4_tellPerson 51 = .ok (.getfield 10, 3) := by decide +kernel
theorem dX4_tellPerson_54 : decode cX4_tellPerson 54 = .ok (.getfield 100, 3) := by decide +kernel
theorem dX4_tellPerson_57 : decode cX4_tellPerson 57 = .ok (.iload_n 1, 1) := by decide +kernel
theorem dX4_tellPerson_58 : decode cX4_tellPerson 58 = .ok (.iaload, 1) := by decide +kernel
theorem dX4_tellPerson_59 : decode cX4_tellPerson 59 = .ok (.ireturn, 1) := by decide +kernel
theorem dX4_tellPerson_60 : decode cX4_tellPerson 60 = .ok (.aload_n 0, 1) := by decide +kernel
theorem dX4_tellPerson_61 : decode cX4_tellPerson 61 = .ok (.getfield 10, 3) := by decide +kernel
theorem dX4_tellPerson_64 : decode cX4_tellPerson 64 = .ok (.getfield 103, 3) := by decide +kernel
theorem dX4_tellPerson_67 : decode cX4_tellPerson 67 = .ok (.iload_n 1, 1) := by decide +kernel
theorem dX4_tellPerson_68 : decode cX4_tellPerson 68 = .ok (.iaload, 1) := by decide +kernel
theorem dX4_tellPerson_69 : decode cX4_tellPerson 69 = .ok (.ireturn, 1) := by decide +kernel
theorem dX4_tellPerson_70 : decode cX4_tellPerson 70 = .ok (.bipush (-2), 2) := by decide +kernel
theorem dX4_tellPerson_72 : decode cX4_tellPerson 72 = .ok (.ireturn, 1) := by decide +kernel
theorem dX4_power_0 : decode cX4_power 0 = .ok (.lconst 1, 1) := by decide +kernel
theorem dX4_power_1 : decode cX4_power 1 = .ok (.lstore_n 2, 1) := by decide +kernel
theorem dX4_power_2 : decode cX4_power 2 = .ok (.iconst 0, 1) := by decide +kernel
theorem dX4_power_3 : decode cX4_power 3 = .ok (.istore 4, 2) := by decide +kernel
theorem dX4_power_5 : decode cX4_power 5 = .ok (.iload 4, 2) := by decide +kernel
theorem dX4_power_7 : decode cX4_power 7 = .ok (.iload_n 1, 1) := by decide +kernel
theorem dX4_power_8 : decode cX4_power 8 = .ok (.if_icmp .ge 14, 3) := by decide +kernel
theorem dX4_power_11 : decode cX4_power 11 = .ok (.lload_n 2, 1) := by decide +kernel
theorem dX4_power_12 : decode cX4_power 12 = .ok (.iload_n 0, 1) := by decide +kernel
theorem dX4_power_13 : decode cX4_power 13 = .ok (.i2l, 1) := by decide +kernel
theorem dX4_power_14 : decode cX4_power 14 = .ok (.lmul, 1) := by decide +kernel
theorem dX4_power_15 : decode cX4_power 15 = .ok (.lstore_n 2, 1) := by decide +kernel
theorem dX4_power_16 : decode cX4_power 16 = .ok (.iinc 4 1, 3) := by decide +kernel
theorem dX4_power_19 : decode cX4_power 19 = .ok (.goto (-14), 3) := by decide +kernel
theorem dX4_power_22 : decode cX4_power 22 = .ok (.lload_n 2, 1) := by decide +kernel
theorem dX4_power_23 : decode cX4_power 23 = .ok (.lreturn, 1) := by decide +kernel
theorem dX4_commonDivisor_0 : decode cX4_commonDivisor 0 = .ok (.lload_n 0, 1) := by decide +kernel
theorem dX4_commonDivisor_1 : decode cX4_commonDivisor 1 = .ok (.lstore 4, 2) := by decide +kernel
theorem dX4_commonDivisor_3 : decode cX4_commonDivisor 3 = .ok (.lload_n 2, 1) := by decide +kernel
theorem dX4_commonDivisor_4 : decode cX4_commonDivisor 4 = .ok (.lstore 6, 2) := by decide +kernel
theorem dX4_commonDivisor_6 : decode cX4_commonDivisor 6 = .ok (.iconst 0, 1) := by decide +kernel
theorem dX4_commonDivisor_7 : decode cX4_commonDivisor 7 = .ok (.istore 8, 2) := by decide +kernel
theorem dX4_commonDivisor_9 : decode cX4_commonDivisor 9 = .ok (.iload 8, 2) := by decide +kernel
theorem dX4_commonDivisor_11 : decode cX4_commonDivisor 11 = .ok (.sipush 200, 3) := by decide +kernel
theorem dX4_commonDivisor_14 : decode cX4_commonDivisor 14 = .ok (.if_icmp .ge 31, 3) := by decide +kernel
theorem dX4_commonDivisor_17 : decode cX4_commonDivisor 17 = .ok (.lload 6, 2) := by decide +kernel
theorem dX4_commonDivisor_19 : decode cX4_commonDivisor 19 = .ok (.lconst 0, 1) := by decide +kernel
theorem dX4_commonDivisor_20 : decode cX4_commonDivisor 20 = .ok (.lcmp, 1) := by decide +kernel
theorem dX4_commonDivisor_21 : decode cX4_commonDivisor 21 = .ok (.ifCond .eq 24, 3) := by decide +kernel
theorem dX4_commonDivisor_24 : decode cX4_commonDivisor 24 = .ok (.lload 4, 2) := by decide +kernel
theorem dX4_commonDivisor_26 : decode cX4_commonDivisor 26 = .ok (.lload 6, 2) := by decide +kernel
theorem dX4_commonDivisor_28 : decode cX4_commonDivisor 28 = .ok (.lrem, 1) := by decide +kernel
theorem dX4_commonDivisor_29 : decode cX4_commonDivisor 29 = .ok (.lstore 9, 2) := by decide +kernel
theorem dX4_commonDivisor_31 : decode cX4_commonDivisor 31 = .ok (.lload 6, 2) := by decide +kernel
theorem dX4_commonDivisor_33 : decode cX4_commonDivisor 33 = .ok (.lstore 4, 2) := by decide +kernel
theorem dX4_commonDivisor_35 : decode cX4_commonDivisor 35 = .ok (.lload 9, 2) := by decide +kernel
theorem dX4_commonDivisor_37 : decode cX4_commonDivisor 37 = .ok (.lstore 6, 2) := by decide +kernel
theorem dX4_commonDivisor_39 : decode cX4_commonDivisor 39 = .ok (.iinc 8 1, 3) := by decide +kernel
theorem dX4_commonDivisor_42 : decode cX4_commonDivisor 42 = .ok (.goto (-33), 3) := by decide +kernel
theorem dX4_commonDivisor_45 : decode cX4_commonDivisor 45 = .ok (.lload 4, 2) := by decide +kernel
theorem dX4_commonDivisor_47 : decode cX4_commonDivisor 47 = .ok (.lreturn, 1) := by decide +kernel
theorem dX4_findOrder_0 : decode cX4_findOrder 0 = .ok (.iload_n 2, 1) := by decide +kernel
theorem dX4_findOrder_1 : decode cX4_findOrder 1 = .ok (.ifCond .eq 9, 3) := by decide +kernel
theorem dX4_findOrder_4 : decode cX4_findOrder 4 = .ok (.iload_n 3, 1) := by decide +kernel
theorem dX4_findOrder_5 : decode cX4_findOrder 5 = .ok (.bipush 6, 2) := by decide +kernel
theorem dX4_findOrder_7 : decode cX4_findOrder 7 = .ok (.if_icmp .lt 13, 3) := by decide +kernel
theorem dX4_findOrder_10 : decode cX4_findOrder 10 = .ok (.iload_n 2, 1) := by decide +kernel
theorem dX4_findOrder_11 : decode cX4_findOrder 11 = .ok (.ifCond .ne 7, 3) := by decide +kernel
theorem dX4_findOrder_14 : decode cX4_findOrder 14 = .ok (.iconst 1, 1) := by decide +kernel
theorem dX4_findOrder_15 : decode cX4_findOrder 15 = .ok (.goto 4, 3) := by decide +kernel
theorem dX4_findOrder_18 : decode cX4_findOrder 18 = .ok (.iconst 0, 1) := by decide +kernel
theorem dX4_findOrder_19 : decode cX4_findOrder 19 = .ok (.ireturn, 1) := by decide +kernel
theorem dX4_findOrder_20 : decode cX4_findOrder 20 = .ok (.iconst 0, 1) := by decide +kernel
theorem dX4_findOrder_21 : decode cX4_findOrder 21 = .ok (.istore 4, 2) := by decide +kernel
theorem dX4_findOrder_23 : decode cX4_findOrder 23 = .ok (.iload 4, 2) := by decide +kernel
theorem dX4_findOrder_25 : decode cX4_findOrder 25 = .ok (.bipush 6, 2) := by decide +kernel
theorem dX4_findOrder_27 : decode cX4_findOrder 27 = .ok (.if_icmp .ge 130, 3) := by decide +kernel
theorem dX4_findOrder_30 : decode cX4_findOrder 30 = .ok (.aload_n 1, 1) := by decide +kernel
theorem dX4_findOrder_31 : decode cX4_findOrder 31 = .ok (.getfield 97, 3) := by decide +kernel
theorem dX4_findOrder_34 : decode cX4_findOrder 34 = .ok (.iload 4, 2) := by decide +kernel
theorem dX4_findOrder_36 : decode cX4_findOrder 36 = .ok (.iaload, 1) := by decide +kernel
theorem dX4_findOrder_37 : decode cX4_findOrder 37 = .ok (.istore 5, 2) := by decide +kernel
theorem dX4_findOrder_39 : decode cX4_findOrder 39 = .ok (.iload_n 2, 1) := by decide +kernel
theorem dX4_findOrder_40 : decode cX4_findOrder 40 = .ok (.iload 4, 2) := by decide +kernel
theorem dX4_findOrder_42 : decode cX4_findOrder 42 = .ok (.invokestatic 163, 3) := by decide +kernel
theorem dX4_findOrder_45 : decode cX4_findOrder 45 = .ok (.ifCond .eq 106, 3) := by decide +kernel
theorem dX4_findOrder_48 : decode cX4_findOrder 48 = .ok (.aload_n 1, 1) := by decide +kernel
theorem dX4_findOrder_49 : decode cX4_findOrder 49 = .ok (.iload 4, 2) := by decide +kernel
theorem dX4_findOrder_51 : decode cX4_findOrder 51 = .ok (.aload_n 0, 1) := by decide +kernel
theorem dX4_findOrder_52 : decode cX4_findOrder 52 = .ok (.getfield 276, 3) := by decide +kernel
theorem dX4_findOrder_55 : decode cX4_findOrder 55 = .ok (.iload 4, 2) := by decide +kernel
theorem dX4_findOrder_57 : decode cX4_findOrder 57 = .ok (.iaload, 1) := by decide +kernel
theorem dX4_findOrder_58 : decode cX4_findOrder 58 = .ok (.invokevirtual 279, 3) := by decide +kernel
theorem dX4_findOrder_61 : decode cX4_findOrder 61 = .ok (.ifCond .eq 90, 3) := by decide +kernel
theorem dX4_findOrder_64 : decode cX4_findOrder 64 = .ok (.aload_n 1, 1) := by decide +kernel
theorem dX4_findOrder_65 : decode cX4_findOrder 65 = .ok (.getfield 103, 3) := by decide +kernel
theorem dX4_findOrder_68 : decode cX4_findOrder 68 = .ok (.iconst 0, 1) := by decide +kernel
theorem dX4_findOrder_69 : decode cX4_findOrder 69 = .ok (.aload_n 0, 1) := by decide +kernel
theorem dX4_findOrder_70 : decode cX4_findOrder 70 = .ok (.getfield 282, 3) := by decide +kernel
theorem dX4_findOrder_73 : decode cX4_findOrder 73 = .ok (.iload_n 3, 1) := by decide +kernel
theorem dX4_findOrder_74 : decode cX4_findOrder 74 = .ok (.bipush 6, 2) := by decide +kernel
theorem dX4_findOrder_76 : decode cX4_findOrder 76 = .ok (.imul, 1) := by decide +kernel
theorem dX4_findOrder_77 : decode cX4_findOrder 77 = .ok (.bipush 6, 2) := by decide +kernel
theorem dX4_findOrder_79 : decode cX4_findOrder 79 = .ok (.invokestatic 285, 3) := by decide +kernel
theorem dX4_findOrder_82 : decode cX4_findOrder 82 = .ok (.aload_n 0, 1) := by decide +kernel
theorem dX4_findOrder_83 : decode cX4_findOrder 83 = .ok (.getfield 213, 3) := by decide +kernel
theorem dX4_findOrder_86 : decode cX4_findOrder 86 = .ok (.iload_n 3, 1) := by decide +kernel
theorem dX4_findOrder_87 : decode cX4_findOrder 87 = .ok (.iload 4, 2) := by decide +kernel
theorem dX4_findOrder_89 : decode cX4_findOrder 89 = .ok (.iastore, 1) := by decide +kernel
theorem dX4_findOrder_90 : decode cX4_findOrder 90 = .ok (.aload_n 1, 1) := by decide +kernel
theorem dX4_findOrder_91 : decode cX4_findOrder 91 = .ok (.iload 4, 2) := by decide +kernel
theorem dX4_findOrder_93 : decode cX4_findOrder 93 = .ok (.aload_n 0, 1) := by decide +kernel
theorem dX4_findOrder_94 : decode cX4_findOrder 94 = .ok (.getfield 276, 3) := by decide +kernel
theorem dX4_findOrder_97 : decode cX4_findOrder 97 = .ok (.iload 4, 2) := by decide +kernel
theorem dX4_findOrder_99 : decode cX4_findOrder 99 = .ok (.iaload, 1) := by decide +kernel
theorem dX4_findOrder_100 : decode cX4_findOrder 100 = .ok (.invokevirtual 291, 3) := by decide +kernel
theorem dX4_findOrder_103 : decode cX4_findOrder 103 = .ok (.aload_n 0, 1) := by decide +kernel
theorem dX4_findOrder_104 : decode cX4_findOrder 104 = .ok (.aload_n 1, 1) := by decide +kernel
theorem dX4_findOrder_105 : decode cX4_findOrder 105 = .ok (.iload_n 2, 1) := by decide +kernel
theorem dX4_findOrder_106 : decode cX4_findOrder 106 = .ok (.iconst 1, 1) := by decide +kernel
theorem dX4_findOrder_107 : decode cX4_findOrder 107 = .ok (.iload 4, 2) := by decide +kernel
theorem dX4_findOrder_109 : decode cX4_findOrder 109 = .ok (.ishl, 1) := by decide +kernel
theorem dX4_findOrder_110 : decode cX4_findOrder 110 = .ok (.iconst (-1), 1) := by decide +kernel
theorem dX4_findOrder_111 : decode cX4_findOrder 111 = .ok (.ixor, 1) := by decide +kernel
theorem dX4_findOrder_112 : decode cX4_findOrder 112 = .ok (.iand, 1) := by decide +kernel
theorem dX4_findOrder_113 : decode cX4_findOrder 113 = .ok (.iload_n 3, 1) := by decide +kernel
theorem dX4_findOrder_114 : decode cX4_findOrder 114 = .ok (.iconst 1, 1) := by decide +kernel
theorem dX4_findOrder_115 : decode cX4_findOrder 115 = .ok (.iadd, 1) := by decide +kernel
theorem dX4_findOrder_116 : decode cX4_findOrder 116 = .ok (.invokestatic 209, 3) := by decide +kernel
theorem dX4_findOrder_119 : decode cX4_findOrder 119 = .ok (.ifCond .eq 5, 3) := by decide +kernel
theorem dX4_findOrder_122 : decode cX4_findOrder 122 = .ok (.iconst 1, 1) := by decide +kernel
theorem dX4_findOrder_123 : decode cX4_findOrder 123 = .ok (.ireturn, 1) := by decide +kernel
theorem dX4_findOrder_124 : decode cX4_findOrder 124 = .ok (.aload_n 1, 1) := by decide +kernel
theorem dX4_findOrder_125 : decode cX4_findOrder 125 = .ok (.getfield 97, 3) := by decide +kernel
theorem dX4_findOrder_128 : decode cX4_findOrder 128 = .ok (.iload 4, 2) := by decide +kernel
theorem dX4_findOrder_130 : decode cX4_findOrder 130 = .ok (.iload 5, 2) := by decide +kernel
theorem dX4_findOrder_132 : decode cX4_findOrder 132 = .ok (.iastore, 1) := by decide +kernel
theorem dX4_findOrder_133 : decode cX4_findOrder 133 = .ok (.aload_n 0, 1) := by decide +kernel
theorem dX4_findOrder_134 : decode cX4_findOrder 134 = .ok (.getfield 282, 3) := by decide +kernel
theorem dX4_findOrder_137 : decode cX4_findOrder 137 = .ok (.iload_n 3, 1) := by decide +kernel
theorem dX4_findOrder_138 : decode cX4_findOrder 138 = .ok (.bipush 6, 2) := by decide +kernel
theorem dX4_findOrder_140 : decode cX4_findOrder 140 = .ok (.imul, 1) := by decide +kernel
theorem dX4_findOrder_141 : decode cX4_findOrder 141 = .ok (.aload_n 1, 1) := by decide +kernel
theorem dX4_findOrder_142 : decode cX4_findOrder 142 = .ok (.getfield 103, 3) := by decide +kernel
theorem dX4_findOrder_145 : decode cX4_findOrder 145 = .ok (.iconst 0, 1) := by decide +kernel
theorem dX4_findOrder_146 : decode cX4_findOrder 146 = .ok (.bipush 6, 2) := by decide +kernel
theorem dX4_findOrder_148 : decode cX4_findOrder 148 = .ok (.invokestatic 285, 3) := by decide +kernel
theorem dX4_findOrder_151 : decode cX4_findOrder 151 = .ok (.iinc 4 1, 3) := by decide +kernel
theorem dX4_findOrder_154 : decode cX4_findOrder 154 = .ok (.goto (-131), 3) := by decide +kernel
theorem dX4_findOrder_157 : decode cX4_findOrder 157 = .ok (.iconst 0, 1) := by decide +kernel
theorem dX4_findOrder_158 : decode cX4_findOrder 158 = .ok (.ireturn, 1) := by decide +kernel
end
section
theorem dX0_init_0 : decode cX0_init 0 = .ok (.aload_n 0, 1) := by decide +kernel
theorem dX0_init_1 : decode cX0_init 1 = .ok (.invokespecial 3, 3) := by decide +kernel
theorem dX0_init_4 : decode cX0_init 4 = .ok (.return_, 1) := by decide +kernel
theorem dX0_live_0 : decode cX0_live 0 = .ok (.aload_n 0, 1) := by decide +kernel
theorem dX0_live_1 : decode cX0_live 1 = .ok (.iconst 0, 1) := by decide +kernel
theorem dX0_live_2 : decode cX0_live 2 = .ok (.putfield 9, 3) := by decide +kernel
theorem dX0_live_5 : decode cX0_live 5 = .ok (.aload_n 0, 1) := by decide +kernel
theorem dX0_live_6 : decode cX0_live 6 = .ok (.iconst 0, 1) := by decide +kernel
theorem dX0_live_7 : decode cX0_live 7 = .ok (.putfield 15, 3) := by decide +kernel
theorem dX0_live_10 : decode cX0_live 10 = .ok (.aload_n 0, 1) := by decide +kernel
theorem dX0_live_11 : decode cX0_live 11 = .ok (.iconst 0, 1) := by decide +kernel
theorem dX0_live_12 : decode cX0_live 12 = .ok (.putfield 18, 3) := by decide +kernel
theorem dX0_live_15 : decode cX0_live 15 = .ok (.aload_n 0, 1) := by decide +kernel
theorem dX0_live_16 : decode cX0_live 16 = .ok (.iconst 0, 1) := by decide +kernel
theorem dX0_live_17 : decode cX0_live 17 = .ok (.putfield 21, 3) := by decide +kernel
theorem dX0_live_20 : decode cX0_live 20 = .ok (.aload_n 0, 1) := by decide +kernel
theorem dX0_live_21 : decode cX0_live 21 = .ok (.iconst 0, 1) := by decide +kernel
theorem dX0_live_22 : decode cX0_live 22 = .ok (.putfield 24, 3) := by decide +kernel
theorem dX0_live_25 : decode cX0_live 25 = .ok (.aload_n 0, 1) := by decide +kernel
theorem dX0_live_26 : decode cX0_live 26 = .ok (.aload_n 1, 1) := by decide +kernel
theorem dX0_live_27 : decode cX0_live 27 = .ok (.invokevirtual 27, 3) := by decide +kernel
theorem dX0_live_30 : decode cX0_live 30 = .ok (.bipush (-6), 2) := by decide +kernel
theorem dX0_live_32 : decode cX0_live 32 = .ok (.if_icmp .ne 7, 3) := by decide +kernel
theorem dX0_live_35 : decode cX0_live 35 = .ok (.iconst 0, 1) := by decide +kernel
theorem dX0_live_36 : decode cX0_live 36 = .ok (.goto 5, 3) := by decide +kernel
theorem dX0_live_39 : decode cX0_live 39 = .ok (.bipush (-5), 2) := by decide +kernel
theorem dX0_live_41 : decode cX0_live 41 = .ok (.putfield 33, 3) := by decide +kernel
theorem dX0_live_44 : decode cX0_live 44 = .ok (.aload_n 3, 1) := by decide +kernel
theorem dX0_live_45 : decode cX0_live 45 = .ok (.aload_n 2, 1) := by decide +kernel
theorem dX0_live_46 : decode cX0_live 46 = .ok (.invokevirtual 36, 3) := by decide +kernel
theorem dX0_live_49 : decode cX0_live 49 = .ok (.iconst 0, 1) := by decide +kernel
theorem dX0_live_50 : decode cX0_live 50 = .ok (.istore 4, 2) := by decide +kernel
theorem dX0_live_52 : decode cX0_live 52 = .ok (.iconst 0, 1) := by decide +kernel
theorem dX0_live_53 : decode cX0_live 53 = .ok (.istore 5, 2) := by decide +kernel
theorem dX0_live_55 : decode cX0_live 55 = .ok (.iload 5, 2) := by decide +kernel
theorem dX0_live_57 : decode cX0_live 57 = .ok (.bipush 60, 2) := by decide +kernel
theorem dX0_live_59 : decode cX0_live 59 = .ok (.if_icmp .ge 61, 3) := by decide +kernel
theorem dX0_live_62 : decode cX0_live 62 = .ok (.iload 4, 2) := by decide +kernel
theorem dX0_live_64 : decode cX0_live 64 = .ok (.aload_n 1, 1) := by decide +kernel
theorem dX0_live_65 : decode cX0_live 65 = .ok (.getfield 42, 3) := by decide +kernel
theorem dX0_live_68 : decode cX0_live 68 = .ok (.if_icmp .ge 52, 3) := by decide +kernel
theorem dX0_live_71 : decode cX0_live 71 = .ok (.aload_n 0, 1) := by decide +kernel
theorem dX0_live_72 : decode cX0_live 72 = .ok (.getfield 33, 3) := by decide +kernel
theorem dX0_live_75 : decode cX0_live 75 = .ok (.ifCond .ne 45, 3) := by decide +kernel
theorem dX0_live_78 : decode cX0_live 78 = .ok (.aload_n 0, 1) := by decide +kernel
theorem dX0_live_79 : decode cX0_live 79 = .ok (.aload_n 1, 1) := by decide +kernel
theorem dX0_live_80 : decode cX0_live 80 = .ok (.iload 4, 2) := by decide +kernel
theorem dX0_live_82 : decode cX0_live 82 = .ok (.aload_n 3, 1) := by decide +kernel
theorem dX0_live_83 : decode cX0_live 83 = .ok (.invokevirtual 45, 3) := by decide +kernel
theorem dX0_live_86 : decode cX0_live 86 = .ok (.istore 4, 2) := by decide +kernel
theorem dX0_live_88 : decode cX0_live 88 = .ok (.aload_n 0, 1) := by decide +kernel
theorem dX0_live_89 : decode cX0_live 89 = .ok (.getfield 9, 3) := by decide +kernel
theorem dX0_live_92 : decode cX0_live 92 = .ok (.ifCond .ne 16, 3) := by decide +kernel
theorem dX0_live_95 : decode cX0_live 95 = .ok (.aload_n 0, 1) := by decide +kernel
theorem dX0_live_96 : decode cX0_live 96 = .ok (.dup, 1) := by decide +kernel
theorem dX0_live_97 : decode cX0_live 97 = .ok (.getfield 15, 3) := by decide +kernel
theorem dX0_live_100 : decode cX0_live 100 = .ok (.iconst 1, 1) := by decide +kernel
theorem dX0_live_101 : decode cX0_live 101 = .ok (.iadd, 1) := by decide +kernel
theorem dX0_live_102 : decode cX0_live 102 = .ok (.putfield 15, 3) := by decide +kernel
theorem dX0_live_105 : decode cX0_live 105 = .ok (.goto 9, 3) := by decide +kernel
theorem dX0_live_108 : decode cX0_live 108 = .ok (.aload_n 0, 1) := by decide +kernel
theorem dX0_live_109 : decode cX0_live 109 = .ok (.bipush (-3), 2) := by decide +kernel
theorem dX0_live_111 : decode cX0_live 111 = .ok (.putfield 33, 3) := by decide +kernel
theorem dX0_live_114 : decode cX0_live 114 = .ok (.iinc 5 1, 3) := by decide +kernel
theorem dX0_live_117 : decode cX0_live 117 = .ok (.goto (-62), 3) := by decide +kernel
theorem dX0_live_120 : decode cX0_live 120 = .ok (.return_, 1) := by decide +kernel
theorem dX0_takeStep_0 : decode cX0_takeStep 0 = .ok (.aload_n 1, 1) := by decide +kernel
theorem dX0_takeStep_1 : decode cX0_takeStep 1 = .ok (.iload_n 2, 1) := by decide +kernel
theorem dX0_takeStep_2 : decode cX0_takeStep 2 = .ok (.invokevirtual 49, 3) := by decide +kernel
theorem dX0_takeStep_5 : decode cX0_takeStep 5 = .ok (.istore 4, 2) := by decide +kernel
theorem dX0_takeStep_7 : decode cX0_takeStep 7 = .ok (.aload_n 1, 1) := by decide +kernel
theorem dX0_takeStep_8 : decode cX0_takeStep 8 = .ok (.iload_n 2, 1) := by decide +kernel
theorem dX0_takeStep_9 : decode cX0_takeStep 9 = .ok (.iconst 1, 1) := by decide +kernel
theorem dX0_takeStep_10 : decode cX0_takeStep 10 = .ok (.iadd, 1) := by decide +kernel
theorem dX0_takeStep_11 : decode cX0_takeStep 11 = .ok (.invokevirtual 49, 3) := by decide +kernel
theorem dX0_takeStep_14 : decode cX0_takeStep 14 = .ok (.istore 5, 2) := by decide +kernel
theorem dX0_takeStep_16 : decode cX0_takeStep 16 = .ok (.iload 4, 2) := by decide +kernel
theorem dX0_takeStep_18 : decode cX0_takeStep 18 = .ok (.bipush 46, 2) := by decide +kernel
theorem dX0_takeStep_20 : decode cX0_takeStep 20 = .ok (.if_icmp .ne 21, 3) := by decide +kernel
theorem dX0_takeStep_23 : decode cX0_takeStep 23 = .ok (.aload_n 3, 1) := by decide +kernel
theorem dX0_takeStep_24 : decode cX0_takeStep 24 = .ok (.invokevirtual 53, 3) := by decide +kernel
theorem dX0_takeStep_27 : decode cX0_takeStep 27 = .ok (.aload_n 0, 1) := by decide +kernel
theorem dX0_takeStep_28 : decode cX0_takeStep 28 = .ok (.dup, 1) := by decide +kernel
theorem dX0_takeStep_29 : decode cX0_takeStep 29 = .ok (.getfield 24, 3) := by decide +kernel
theorem dX0_takeStep_32 : decode cX0_takeStep 32 = .ok (.iconst 1, 1) := by decide +kernel
theorem dX0_takeStep_33 : decode cX0_takeStep 33 = .ok (.iadd, 1) := by decide +kernel
theorem dX0_takeStep_34 : decode cX0_takeStep 34 = .ok (.putfield 24, 3) := by decide +kernel
theorem dX0_takeStep_37 : decode cX0_takeStep 37 = .ok (.iload_n 2, 1) := by decide +kernel
theorem dX0_takeStep_38 : decode cX0_takeStep 38 = .ok (.iconst 1, 1) := by decide +kernel
theorem dX0_takeStep_39 : decode cX0_takeStep 39 = .ok (.iadd, 1) := by decide +kernel
theorem dX0_takeStep_40 : decode cX0_takeStep 40 = .ok (.ireturn, 1) := by decide +kernel
theorem dX0_takeStep_41 : decode cX0_takeStep 41 = .ok (.iload 4, 2) := by decide +kernel
theorem dX0_takeStep_43 : decode cX0_takeStep 43 = .ok (.bipush 33, 2) := by decide +kernel
theorem dX0_takeStep_45 : decode cX0_takeStep 45 = .ok (.if_icmp .ne 20, 3) := by decide +kernel
theorem dX0_takeStep_48 : decode cX0_takeStep 48 = .ok (.aload_n 0, 1) := by decide +kernel
theorem dX0_takeStep_49 : decode cX0_takeStep 49 = .ok (.aload_n 3, 1) := by decide +kernel
theorem dX0_takeStep_50 : decode cX0_takeStep 50 = .ok (.iload 5, 2) := by decide +kernel
theorem dX0_takeStep_52 : decode cX0_takeStep 52 = .ok (.bipush 97, 2) := by decide +kernel
theorem dX0_takeStep_54 : decode cX0_takeStep 54 = .ok (.isub, 1) := by decide +kernel
theorem dX0_takeStep_55 : decode cX0_takeStep 55 = .ok (.invokevirtual 56, 3) := by decide +kernel
theorem dX0_takeStep_58 : decode cX0_takeStep 58 = .ok (.putfield 9, 3) := by decide +kernel
theorem dX0_takeStep_61 : decode cX0_takeStep 61 = .ok (.iload_n 2, 1) := by decide +kernel
theorem dX0_takeStep_62 : decode cX0_takeStep 62 = .ok (.iconst 2, 1) := by decide +kernel
theorem dX0_takeStep_63 : decode cX0_takeStep 63 = .ok (.iadd, 1) := by decide +kernel
theorem dX0_takeStep_64 : decode cX0_takeStep 64 = .ok (.ireturn, 1) := by decide +kernel
theorem dX0_takeStep_65 : decode cX0_takeStep 65 = .ok (.iload 5, 2) := by decide +kernel
theorem dX0_takeStep_67 : decode cX0_takeStep 67 = .ok (.invokestatic 59, 3) := by decide +kernel
theorem dX0_takeStep_70 : decode cX0_takeStep 70 = .ok (.ifCond .eq 45, 3) := by decide +kernel
theorem dX0_takeStep_73 : decode cX0_takeStep 73 = .ok (.aload_n 0, 1) := by decide +kernel
theorem dX0_takeStep_74 : decode cX0_takeStep 74 = .ok (.aload_n 3, 1) := by decide +kernel
theorem dX0_takeStep_75 : decode cX0_takeStep 75 = .ok (.iload 4, 2) := by decide +kernel
theorem dX0_takeStep_77 : decode cX0_takeStep 77 = .ok (.bipush 65, 2) := by decide +kernel
theorem dX0_takeStep_79 : decode cX0_takeStep 79 = .ok (.isub, 1) := by decide +kernel
theorem dX0_takeStep_80 : decode cX0_takeStep 80 = .ok (.iload 5, 2) := by decide +kernel
theorem dX0_takeStep_82 : decode cX0_takeStep 82 = .ok (.bipush 65, 2) := by decide +kernel
theorem dX0_takeStep_84 : decode cX0_takeStep 84 = .ok (.isub, 1) := by decide +kernel
theorem dX0_takeStep_85 : decode cX0_takeStep 85 = .ok (.aload_n 1, 1) := by decide +kernel
theorem dX0_takeStep_86 : decode cX0_takeStep 86 = .ok (.iload_n 2, 1) := by decide +kernel
theorem dX0_takeStep_87 : decode cX0_takeStep 87 = .ok (.iconst 2, 1) := by decide +kernel
theorem dX0_takeStep_88 : decode cX0_takeStep 88 = .ok (.iadd, 1) := by decide +kernel
theorem dX0_takeStep_89 : decode cX0_takeStep 89 = .ok (.invokevirtual 49, 3) := by decide +kernel
theorem dX0_takeStep_92 : decode cX0_takeStep 92 = .ok (.bipush 97, 2) := by decide +kernel
theorem dX0_takeStep_94 : decode cX0_takeStep 94 = .ok (.isub, 1) := by decide +kernel
theorem dX0_takeStep_95 : decode cX0_takeStep 95 = .ok (.invokevirtual 63, 3) := by decide +kernel
theorem dX0_takeStep_98 : decode cX0_takeStep 98 = .ok (.putfield 9, 3) := by decide +kernel
theorem dX0_takeStep_101 : decode cX0_takeStep 101 = .ok (.aload_n 0, 1) := by decide +kernel
theorem dX0_takeStep_102 : decode cX0_takeStep 102 = .ok (.dup, 1) := by decide +kernel
theorem dX0_takeStep_103 : decode cX0_takeStep 103 = .ok (.getfield 18, 3) := by decide +kernel
theorem dX0_takeStep_106 : decode cX0_takeStep 106 = .ok (.iconst 1, 1) := by decide +kernel
theorem dX0_takeStep_107 : decode cX0_takeStep 107 = .ok (.iadd, 1) := by decide +kernel
theorem dX0_takeStep_108 : decode cX0_takeStep 108 = .ok (.putfield 18, 3) := by decide +kernel
theorem dX0_takeStep_111 : decode cX0_takeStep 111 = .ok (.iload_n 2, 1) := by decide +kernel
theorem dX0_takeStep_112 : decode cX0_takeStep 112 = .ok (.iconst 3, 1) := by decide +kernel
theorem dX0_takeStep_113 : decode cX0_takeStep 113 = .ok (.iadd, 1) := by decide +kernel
theorem dX0_takeStep_114 : decode cX0_takeStep 114 = .ok (.ireturn, 1) := by decide +kernel
theorem dX0_takeStep_115 : decode cX0_takeStep 115 = .ok (.aload_n 0, 1) := by decide +kernel
theorem dX0_takeStep_116 : decode cX0_takeStep 116 = .ok (.aload_n 3, 1) := by decide +kernel
theorem dX0_takeStep_117 : decode cX0_takeStep 117 = .ok (.iload 4, 2) := by decide +kernel
theorem dX0_takeStep_119 : decode cX0_takeStep 119 = .ok (.bipush 65, 2) := by decide +kernel
theorem dX0_takeStep_121 : decode cX0_takeStep 121 = .ok (.isub, 1) := by decide +kernel
theorem dX0_takeStep_122 : decode cX0_takeStep 122 = .ok (.iload 5, 2) := by decide +kernel
theorem dX0_takeStep_124 : decode cX0_takeStep 124 = .ok (.bipush 48, 2) := by decide +kernel
theorem dX0_takeStep_126 : decode cX0_takeStep 126 = .ok (.isub, 1) := by decide +kernel
theorem dX0_takeStep_127 : decode cX0_takeStep 127 = .ok (.invokevirtual 67, 3) := by decide +kernel
theorem dX0_takeStep_130 : decode cX0_takeStep 130 = .ok (.putfield 9, 3) := by decide +kernel
theorem dX0_takeStep_133 : decode cX0_takeStep 133 = .ok (.aload_n 0, 1) := by decide +kernel
theorem dX0_takeStep_134 : decode cX0_takeStep 134 = .ok (.dup, 1) := by decide +kernel
theorem dX0_takeStep_135 : decode cX0_takeStep 135 = .ok (.getfield 21, 3) := by decide +kernel
theorem dX0_takeStep_138 : decode cX0_takeStep 138 = .ok (.iconst 1, 1) := by decide +kernel
theorem dX0_takeStep_139 : decode cX0_takeStep 139 = .ok (.iadd, 1) := by decide +kernel
theorem dX0_takeStep_140 : decode cX0_takeStep 140 = .ok (.putfield 21, 3) := by decide +kernel
theorem dX0_takeStep_143 : decode cX0_takeStep 143 = .ok (.iload_n 2, 1) := by decide +kernel
theorem dX0_takeStep_144 : decode cX0_takeStep 144 = .ok (.iconst 2, 1) := by decide +kernel
theorem dX0_takeStep_145 : decode cX0_takeStep 145 = .ok (.iadd, 1) := by decide +kernel
theorem dX0_takeStep_146 : decode cX0_takeStep 146 = .ok (.ireturn, 1) := by decide +kernel
theorem dX1_init_0 : decode cX1_init 0 = .ok (.aload_n 0, 1) := by decide +kernel
theorem dX1_init_1 : decode cX1_init 1 = .ok (.invokespecial 3, 3) := by decide +kernel
theorem dX1_init_4 : decode cX1_init 4 = .ok (.aload_n 0, 1) := by decide +kernel
theorem dX1_init_5 : decode cX1_init 5 = .ok (.bipush 6, 2) := by decide +kernel
theorem dX1_init_7 : decode cX1_init 7 = .ok (.newarray .int, 2) := by decide +kernel
theorem dX1_init_9 : decode cX1_init 9 = .ok (.putfield 9, 3) := by decide +kernel
theorem dX1_init_12 : decode cX1_init 12 = .ok (.aload_n 0, 1) := by decide +kernel
theorem dX1_init_13 : decode cX1_init 13 = .ok (.bipush 6, 2) := by decide +kernel
theorem dX1_init_15 : decode cX1_init 15 = .ok (.newarray .int, 2) := by decide +kernel
theorem dX1_init_17 : decode cX1_init 17 = .ok (.putfield 15, 3) := by decide +kernel
theorem dX1_init_20 : decode cX1_init 20 = .ok (.aload_n 0, 1) := by decide +kernel
theorem dX1_init_21 : decode cX1_init 21 = .ok (.bipush 36, 2) := by decide +kernel
theorem dX1_init_23 : decode cX1_init 23 = .ok (.newarray .int, 2) := by decide +kernel
theorem dX1_init_25 : decode cX1_init 25 = .ok (.putfield 18, 3) := by decide +kernel
theorem dX1_init_28 : decode cX1_init 28 = .ok (.return_, 1) := by decide +kernel
theorem dX1_readGoals_0 : decode cX1_readGoals 0 = .ok (.iload_n 2, 1) := by decide +kernel
theorem dX1_readGoals_1 : decode cX1_readGoals 1 = .ok (.istore 4, 2) := by decide +kernel
theorem dX1_readGoals_3 : decode cX1_readGoals 3 = .ok (.iconst 5, 1) := by decide +kernel
theorem dX1_readGoals_4 : decode cX1_readGoals 4 = .ok (.istore 5, 2) := by decide +kernel
theorem dX1_readGoals_6 : decode cX1_readGoals 6 = .ok (.iload 5, 2) := by decide +kernel
theorem dX1_readGoals_8 : decode cX1_readGoals 8 = .ok (.ifCond .lt 56, 3) := by decide +kernel
theorem dX1_readGoals_11 : decode cX1_readGoals 11 = .ok (.iload_n 1, 1) := by decide +kernel
theorem dX1_readGoals_12 : decode cX1_readGoals 12 = .ok (.iload 5, 2) := by decide +kernel
theorem dX1_readGoals_14 : decode cX1_readGoals 14 = .ok (.invokestatic 21, 3) := by decide +kernel
theorem dX1_readGoals_17 : decode cX1_readGoals 17 = .ok (.ifCond .eq 41, 3) := by decide +kernel
theorem dX1_readGoals_20 : decode cX1_readGoals 20 = .ok (.aload_n 0, 1) := by decide +kernel
theorem dX1_readGoals_21 : decode cX1_readGoals 21 = .ok (.getfield 15, 3) := by decide +kernel
theorem dX1_readGoals_24 : decode cX1_readGoals 24 = .ok (.iload 5, 2) := by decide +kernel
theorem dX1_readGoals_26 : decode cX1_readGoals 26 = .ok (.iload 4, 2) := by decide +kernel
theorem dX1_readGoals_28 : decode cX1_readGoals 28 = .ok (.bipush 10, 2) := by decide +kernel
theorem dX1_readGoals_30 : decode cX1_readGoals 30 = .ok (.irem, 1) := by decide +kernel
theorem dX1_readGoals_31 : decode cX1_readGoals 31 = .ok (.iastore, 1) := by decide +kernel
theorem dX1_readGoals_32 : decode cX1_readGoals 32 = .ok (.iload 4, 2) := by decide +kernel
theorem dX1_readGoals_34 : decode cX1_readGoals 34 = .ok (.bipush 10, 2) := by decide +kernel
theorem dX1_readGoals_36 : decode cX1_readGoals 36 = .ok (.idiv, 1) := by decide +kernel
theorem dX1_readGoals_37 : decode cX1_readGoals 37 = .ok (.istore 4, 2) := by decide +kernel
theorem dX1_readGoals_39 : decode cX1_readGoals 39 = .ok (.aload_n 0, 1) := by decide +kernel
theorem dX1_readGoals_40 : decode cX1_readGoals 40 = .ok (.getfield 15, 3) := by decide +kernel
theorem dX1_readGoals_43 : decode cX1_readGoals 43 = .ok (.iload 5, 2) := by decide +kernel
theorem dX1_readGoals_45 : decode cX1_readGoals 45 = .ok (.iaload, 1) := by decide +kernel
theorem dX1_readGoals_46 : decode cX1_readGoals 46 = .ok (.iconst 0, 1) := by decide +kernel
theorem dX1_readGoals_47 : decode cX1_readGoals 47 = .ok (.iload_n 3, 1) := by decide +kernel
theorem dX1_readGoals_48 : decode cX1_readGoals 48 = .ok (.iconst 1, 1) := by decide +kernel
theorem dX1_readGoals_49 : decode cX1_readGoals 49 = .ok (.isub, 1) := by decide +kernel
theorem dX1_readGoals_50 : decode cX1_readGoals 50 = .ok (.invokestatic 25, 3) := by decide +kernel
theorem dX1_readGoals_53 : decode cX1_readGoals 53 = .ok (.ifCond .ne 5, 3) := by decide +kernel
theorem dX1_readGoals_56 : decode cX1_readGoals 56 = .ok (.iconst 0, 1) := by decide +kernel
theorem dX1_readGoals_57 : decode cX1_readGoals 57 = .ok (.ireturn, 1) := by decide +kernel
theorem dX1_readGoals_58 : decode cX1_readGoals 58 = .ok (.iinc 5 (-1), 3) := by decide +kernel
theorem dX1_readGoals_61 : decode cX1_readGoals 61 = .ok (.goto (-55), 3) := by decide +kernel
theorem dX1_readGoals_64 : decode cX1_readGoals 64 = .ok (.iload 4, 2) := by decide +kernel
theorem dX1_readGoals_66 : decode cX1_readGoals 66 = .ok (.ifCond .ne 7, 3) := by decide +kernel
theorem dX1_readGoals_69 : decode cX1_readGoals 69 = .ok (.iconst 1, 1) := by decide +kernel
theorem dX1_readGoals_70 : decode cX1_readGoals 70 = .ok (.goto 4, 3) := by decide +kernel
theorem dX1_readGoals_73 : decode cX1_readGoals 73 = .ok (.iconst 0, 1) := by decide +kernel
theorem dX1_readGoals_74 : decode cX1_readGoals 74 = .ok (.ireturn, 1) := by decide +kernel
theorem dX2_init_0 : decode cX2_init 0 = .ok (.aload_n 0, 1) := by decide +kernel
theorem dX2_init_1 : decode cX2_init 1 = .ok (.invokespecial 3, 3) := by decide +kernel
theorem dX2_init_4 : decode cX2_init 4 = .ok (.aload_n 0, 1) := by decide +kernel
theorem dX2_init_5 : decode cX2_init 5 = .ok (.bipush 60, 2) := by decide +kernel
theorem dX2_init_7 : decode cX2_init 7 = .ok (.newarray .int, 2) := by decide +kernel
theorem dX2_init_9 : decode cX2_init 9 = .ok (.putfield 9, 3) := by decide +kernel
theorem dX2_init_12 : decode cX2_init 12 = .ok (.return_, 1) := by decide +kernel
theorem dX2_signAt_0 : decode cX2_signAt 0 = .ok (.iload_n 1, 1) := by decide +kernel
theorem dX2_signAt_1 : decode cX2_signAt 1 = .ok (.iconst 0, 1) := by decide +kernel
theorem dX2_signAt_2 : decode cX2_signAt 2 = .ok (.aload_n 0, 1) := by decide +kernel
theorem dX2_signAt_3 : decode cX2_signAt 3 = .ok (.getfield 15, 3) := by decide +kernel
theorem dX2_signAt_6 : decode cX2_signAt 6 = .ok (.iconst 1, 1) := by decide +kernel
theorem dX2_signAt_7 : decode cX2_signAt 7 = .ok (.isub, 1) := by decide +kernel
theorem dX2_signAt_8 : decode cX2_signAt 8 = .ok (.invokestatic 19, 3) := by decide +kernel
theorem dX2_signAt_11 : decode cX2_signAt 11 = .ok (.ifCond .eq 12, 3) := by decide +kernel
theorem dX2_signAt_14 : decode cX2_signAt 14 = .ok (.aload_n 0, 1) := by decide +kernel
theorem dX2_signAt_15 : decode cX2_signAt 15 = .ok (.getfield 9, 3) := by decide +kernel
theorem dX2_signAt_18 : decode cX2_signAt 18 = .ok (.iload_n 1, 1) := by decide +kernel
theorem dX2_signAt_19 : decode cX2_signAt 19 = .ok (.iaload, 1) := by decide +kernel
theorem dX2_signAt_20 : decode cX2_signAt 20 = .ok (.goto 4, 3) := by decide +kernel
theorem dX2_signAt_23 : decode cX2_signAt 23 = .ok (.iconst 0, 1) := by decide +kernel
theorem dX2_signAt_24 : decode cX2_signAt 24 = .ok (.ireturn, 1) := by decide +kernel
theorem dX2_faultPlace_0 : decode cX2_faultPlace 0 = .ok (.iconst 0, 1) := by decide +kernel
theorem dX2_faultPlace_1 : decode cX2_faultPlace 1 = .ok (.istore_n 1, 1) := by decide +kernel
theorem dX2_faultPlace_2 : decode cX2_faultPlace 2 = .ok (.iconst 0, 1) := by decide +kernel
theorem dX2_faultPlace_3 : decode cX2_faultPlace 3 = .ok (.istore_n 2, 1) := by decide +kernel
theorem dX2_faultPlace_4 : decode cX2_faultPlace 4 = .ok (.iload_n 2, 1) := by decide +kernel
theorem dX2_faultPlace_5 : decode cX2_faultPlace 5 = .ok (.aload_n 0, 1) := by decide +kernel
theorem dX2_faultPlace_6 : decode cX2_faultPlace 6 = .ok (.getfield 15, 3) := by decide +kernel
theorem dX2_faultPlace_9 : decode cX2_faultPlace 9 = .ok (.if_icmp .ge 26, 3) := by decide +kernel
theorem dX2_faultPlace_12 : decode cX2_faultPlace 12 = .ok (.iload_n 1, 1) := by decide +kernel
theorem dX2_faultPlace_13 : decode cX2_faultPlace 13 = .ok (.aload_n 0, 1) := by decide +kernel
theorem dX2_faultPlace_14 : decode cX2_faultPlace 14 = .ok (.iload_n 2, 1) := by decide +kernel
theorem dX2_faultPlace_15 : decode cX2_faultPlace 15 = .ok (.invokevirtual 23, 3) := by decide +kernel
theorem dX2_faultPlace_18 : decode cX2_faultPlace 18 = .ok (.invokestatic 27, 3) := by decide +kernel
theorem dX2_faultPlace_21 : decode cX2_faultPlace 21 = .ok (.istore_n 1, 1) := by decide +kernel
theorem dX2_faultPlace_22 : decode cX2_faultPlace 22 = .ok (.iload_n 1, 1) := by decide +kernel
theorem dX2_faultPlace_23 : decode cX2_faultPlace 23 = .ok (.iconst 4, 1) := by decide +kernel
theorem dX2_faultPlace_24 : decode cX2_faultPlace 24 = .ok (.if_icmp .ne 5, 3) := by decide +kernel
theorem dX2_faultPlace_27 : decode cX2_faultPlace 27 = .ok (.iload_n 2, 1) := by decide +kernel
theorem dX2_faultPlace_28 : decode cX2_faultPlace 28 = .ok (.ireturn, 1) := by decide +kernel
theorem dX2_faultPlace_29 : decode cX2_faultPlace 29 = .ok (.iinc 2 1, 3) := by decide +kernel
theorem dX2_faultPlace_32 : decode cX2_faultPlace 32 = .ok (.goto (-28), 3) := by decide +kernel
theorem dX2_faultPlace_35 : decode cX2_faultPlace 35 = .ok (.iload_n 1, 1) := by decide +kernel
theorem dX2_faultPlace_36 : decode cX2_faultPlace 36 = .ok (.ifCond .ne 8, 3) := by decide +kernel
theorem dX2_faultPlace_39 : decode cX2_faultPlace 39 = .ok (.bipush (-6), 2) := by decide +kernel
theorem dX2_faultPlace_41 : decode cX2_faultPlace 41 = .ok (.goto 7, 3) := by decide +kernel
theorem dX2_faultPlace_44 : decode cX2_faultPlace 44 = .ok (.aload_n 0, 1) := by decide +kernel
theorem dX2_faultPlace_45 : decode cX2_faultPlace 45 = .ok (.getfield 15, 3) := by decide +kernel
theorem dX2_faultPlace_48 : decode cX2_faultPlace 48 = .ok (.ireturn, 1) := by decide +kernel
theorem dX2_readOn_0 : decode cX2_readOn 0 = .ok (.iload_n 0, 1) := by decide +kernel
theorem dX2_readOn_1 : decode cX2_readOn 1 = .ok (.lookupswitch 84 #[(0, 27), (1, 58)], 27) := by decide +kernel
theorem dX2_readOn_28 : decode cX2_readOn 28 = .ok (.iload_n 1, 1) := by decide +kernel
theorem dX2_readOn_29 : decode cX2_readOn 29 = .ok (.invokestatic 31, 3) := by decide +kernel
theorem dX2_readOn_32 : decode cX2_readOn 32 = .ok (.ifCond .eq 5, 3) := by decide +kernel
theorem dX2_readOn_35 : decode cX2_readOn 35 = .ok (.iconst 1, 1) := by decide +kernel
theorem dX2_readOn_36 : decode cX2_readOn 36 = .ok (.ireturn, 1) := by decide +kernel
theorem dX2_readOn_37 : decode cX2_readOn 37 = .ok (.iload_n 1, 1) := by decide +kernel
theorem dX2_readOn_38 : decode cX2_readOn 38 = .ok (.bipush 33, 2) := by decide +kernel
theorem dX2_readOn_40 : decode cX2_readOn 40 = .ok (.if_icmp .ne 7, 3) := by decide +kernel
theorem dX2_readOn_43 : decode cX2_readOn 43 = .ok (.iconst 3, 1) := by decide +kernel
theorem dX2_readOn_44 : decode cX2_readOn 44 = .ok (.goto 14, 3) := by decide +kernel
theorem dX2_readOn_47 : decode cX2_readOn 47 = .ok (.iload_n 1, 1) := by decide +kernel
theorem dX2_readOn_48 : decode cX2_readOn 48 = .ok (.bipush 46, 2) := by decide +kernel
theorem dX2_readOn_50 : decode cX2_readOn 50 = .ok (.if_icmp .ne 7, 3) := by decide +kernel
theorem dX2_readOn_53 : decode cX2_readOn 53 = .ok (.iconst 0, 1) := by decide +kernel
theorem dX2_readOn_54 : decode cX2_readOn 54 = .ok (.goto 4, 3) := by decide +kernel
theorem dX2_readOn_57 : decode cX2_readOn 57 = .ok (.iconst 4, 1) := by decide +kernel
theorem dX2_readOn_58 : decode cX2_readOn 58 = .ok (.ireturn, 1) := by decide +kernel
theorem dX2_readOn_59 : decode cX2_readOn 59 = .ok (.iload_n 1, 1) := by decide +kernel
theorem dX2_readOn_60 : decode cX2_readOn 60 = .ok (.invokestatic 31, 3) := by decide +kernel
theorem dX2_readOn_63 : decode cX2_readOn 63 = .ok (.ifCond .eq 5, 3) := by decide +kernel
theorem dX2_readOn_66 : decode cX2_readOn 66 = .ok (.iconst 2, 1) := by decide +kernel
theorem dX2_readOn_67 : decode cX2_readOn 67 = .ok (.ireturn, 1) := by decide +kernel
theorem dX2_readOn_68 : decode cX2_readOn 68 = .ok (.iload_n 1, 1) := by decide +kernel
theorem dX2_readOn_69 : decode cX2_readOn 69 = .ok (.bipush 48, 2) := by decide +kernel
theorem dX2_readOn_71 : decode cX2_readOn 71 = .ok (.bipush 55, 2) := by decide +kernel
theorem dX2_readOn_73 : decode cX2_readOn 73 = .ok (.invokestatic 19, 3) := by decide +kernel
theorem dX2_readOn_76 : decode cX2_readOn 76 = .ok (.ifCond .eq 7, 3) := by decide +kernel
theorem dX2_readOn_79 : decode cX2_readOn 79 = .ok (.iconst 0, 1) := by decide +kernel
theorem dX2_readOn_80 : decode cX2_readOn 80 = .ok (.goto 4, 3) := by decide +kernel
theorem dX2_readOn_83 : decode cX2_readOn 83 = .ok (.iconst 4, 1) := by decide +kernel
theorem dX2_readOn_84 : decode cX2_readOn 84 = .ok (.ireturn, 1) := by decide +kernel
theorem dX2_readOn_85 : decode cX2_readOn 85 = .ok (.iload_n 1, 1) := by decide +kernel
theorem dX2_readOn_86 : decode cX2_readOn 86 = .ok (.bipush 97, 2) := by decide +kernel
theorem dX2_readOn_88 : decode cX2_readOn 88 = .ok (.bipush 104, 2) := by decide +kernel
theorem dX2_readOn_90 : decode cX2_readOn 90 = .ok (.invokestatic 19, 3) := by decide +kernel
theorem dX2_readOn_93 : decode cX2_readOn 93 = .ok (.ifCond .eq 7, 3) := by decide +kernel
theorem dX2_readOn_96 : decode cX2_readOn 96 = .ok (.iconst 0, 1) := by decide +kernel
theorem dX2_readOn_97 : decode cX2_readOn 97 = .ok (.goto 4, 3) := by decide +kernel
theorem dX2_readOn_100 : decode cX2_readOn 100 = .ok (.iconst 4, 1) := by decide +kernel
theorem dX2_readOn_101 : decode cX2_readOn 101 = .ok (.ireturn, 1) := by decide +kernel
theorem dX2_isPersonSign_0 : decode cX2_isPersonSign 0 = .ok (.iload_n 0, 1) := by decide +kernel
theorem dX2_isPersonSign_1 : decode cX2_isPersonSign 1 = .ok (.bipush 65, 2) := by decide +kernel
theorem dX2_isPersonSign_3 : decode cX2_isPersonSign 3 = .ok (.bipush 70, 2) := by decide +kernel
theorem dX2_isPersonSign_5 : decode cX2_isPersonSign 5 = .ok (.invokestatic 19, 3) := by decide +kernel
theorem dX2_isPersonSign_8 : decode cX2_isPersonSign 8 = .ok (.ireturn, 1) := by decide +kernel
theorem dX3_init_0 : decode cX3_init 0 = .ok (.aload_n 0, 1) := by decide +kernel
theorem dX3_init_1 : decode cX3_init 1 = .ok (.invokespecial 3, 3) := by decide +kernel
theorem dX3_init_4 : decode cX3_init 4 = .ok (.aload_n 0, 1) := by decide +kernel
theorem dX3_init_5 : decode cX3_init 5 = .ok (.bipush 8, 2) := by decide +kernel
theorem dX3_init_7 : decode cX3_init 7 = .ok (.newarray .int, 2) := by decide +kernel
theorem dX3_init_9 : decode cX3_init 9 = .ok (.putfield 9, 3) := by decide +kernel
theorem dX3_init_12 : decode cX3_init 12 = .ok (.aload_n 0, 1) := by decide +kernel
theorem dX3_init_13 : decode cX3_init 13 = .ok (.bipush 8, 2) := by decide +kernel
theorem dX3_init_15 : decode cX3_init 15 = .ok (.newarray .int, 2) := by decide +kernel
theorem dX3_init_17 : decode cX3_init 17 = .ok (.putfield 15, 3) := by decide +kernel
theorem dX3_init_20 : decode cX3_init 20 = .ok (.aload_n 0, 1) := by decide +kernel
theorem dX3_init_21 : decode cX3_init 21 = .ok (.bipush 8, 2) := by decide +kernel
theorem dX3_init_23 : decode cX3_init 23 = .ok (.newarray .int, 2) := by decide +kernel
theorem dX3_init_25 : decode cX3_init 25 = .ok (.putfield 18, 3) := by decide +kernel
theorem dX3_init_28 : decode cX3_init 28 = .ok (.aload_n 0, 1) := by decide +kernel
theorem dX3_init_29 : decode cX3_init 29 = .ok (.bipush 8, 2) := by decide +kernel
theorem dX3_init_31 : decode cX3_init 31 = .ok (.newarray .int, 2) := by decide +kernel
theorem dX3_init_33 : decode cX3_init 33 = .ok (.putfield 21, 3) := by decide +kernel
theorem dX3_init_36 : decode cX3_init 36 = .ok (.aload_n 0, 1) := by decide +kernel
theorem dX3_init_37 : decode cX3_init 37 = .ok (.bipush 6, 2) := by decide +kernel
theorem dX3_init_39 : decode cX3_init 39 = .ok (.newarray .int, 2) := by decide +kernel
theorem dX3_init_41 : decode cX3_init 41 = .ok (.putfield 24, 3) := by decide +kernel
theorem dX3_init_44 : decode cX3_init 44 = .ok (.aload_n 0, 1) := by decide +kernel
theorem dX3_init_45 : decode cX3_init 45 = .ok (.bipush 6, 2) := by decide +kernel
theorem dX3_init_47 : decode cX3_init 47 = .ok (.newarray .int, 2) := by decide +kernel
theorem dX3_init_49 : decode cX3_init 49 = .ok (.putfield 27, 3) := by decide +kernel
theorem dX3_init_52 : decode cX3_init 52 = .ok (.aload_n 0, 1) := by decide +kernel
theorem dX3_init_53 : decode cX3_init 53 = .ok (.bipush 6, 2) := by decide +kernel
theorem dX3_init_55 : decode cX3_init 55 = .ok (.newarray .int, 2) := by decide +kernel
theorem dX3_init_57 : decode cX3_init 57 = .ok (.putfield 30, 3) := by decide +kernel
theorem dX3_init_60 : decode cX3_init 60 = .ok (.aload_n 0, 1) := by decide +kernel
theorem dX3_init_61 : decode cX3_init 61 = .ok (.bipush 8, 2) := by decide +kernel
theorem dX3_init_63 : decode cX3_init 63 = .ok (.newarray .int, 2) := by decide +kernel
theorem dX3_init_65 : decode cX3_init 65 = .ok (.putfield 33, 3) := by decide +kernel
theorem dX3_init_68 : decode cX3_init 68 = .ok (.aload_n 0, 1) := by decide +kernel
theorem dX3_init_69 : decode cX3_init 69 = .ok (.bipush 8, 2) := by decide +kernel
theorem dX3_init_71 : decode cX3_init 71 = .ok (.newarray .int, 2) := by decide +kernel
theorem dX3_init_73 : decode cX3_init 73 = .ok (.putfield 36, 3) := by decide +kernel
theorem dX3_init_76 : decode cX3_init 76 = .ok (.aload_n 0, 1) := by decide +kernel
theorem dX3_init_77 : decode cX3_init 77 = .ok (.bipush 6, 2) := by decide +kernel
theorem dX3_init_79 : decode cX3_init 79 = .ok (.newarray .int, 2) := by decide +kernel
theorem dX3_init_81 : decode cX3_init 81 = .ok (.putfield 39, 3) := by decide +kernel
theorem dX3_init_84 : decode cX3_init 84 = .ok (.aload_n 0, 1) := by decide +kernel
theorem dX3_init_85 : decode cX3_init 85 = .ok (.bipush 6, 2) := by decide +kernel
theorem dX3_init_87 : decode cX3_init 87 = .ok (.newarray .int, 2) := by decide +kernel
theorem dX3_init_89 : decode cX3_init 89 = .ok (.putfield 42, 3) := by decide +kernel
theorem dX3_init_92 : decode cX3_init 92 = .ok (.aload_n 0, 1) := by decide +kernel
theorem dX3_init_93 : decode cX3_init 93 = .ok (.iconst 1, 1) := by decide +kernel
theorem dX3_init_94 : decode cX3_init 94 = .ok (.putfield 45, 3) := by decide +kernel
theorem dX3_init_97 : decode cX3_init 97 = .ok (.aload_n 0, 1) := by decide +kernel
theorem dX3_init_98 : decode cX3_init 98 = .ok (.iconst 4, 1) := by decide +kernel
theorem dX3_init_99 : decode cX3_init 99 = .ok (.invokevirtual 49, 3) := by decide +kernel
theorem dX3_init_102 : decode cX3_init 102 = .ok (.return_, 1) := by decide +kernel
theorem dX3_settle_0 : decode cX3_settle 0 = .ok (.aload_n 0, 1) := by decide +kernel
theorem dX3_settle_1 : decode cX3_settle 1 = .ok (.iload_n 1, 1) := by decide +kernel
theorem dX3_settle_2 : decode cX3_settle 2 = .ok (.putfield 53, 3) := by decide +kernel
theorem dX3_settle_5 : decode cX3_settle 5 = .ok (.aload_n 0, 1) := by decide +kernel
theorem dX3_settle_6 : decode cX3_settle 6 = .ok (.iconst 0, 1) := by decide +kernel
theorem dX3_settle_7 : decode cX3_settle 7 = .ok (.putfield 56, 3) := by decide +kernel
theorem dX3_settle_10 : decode cX3_settle 10 = .ok (.aload_n 0, 1) := by decide +kernel
theorem dX3_settle_11 : decode cX3_settle 11 = .ok (.iconst 0, 1) := by decide +kernel
theorem dX3_settle_12 : decode cX3_settle 12 = .ok (.putfield 59, 3) := by decide +kernel
theorem dX3_settle_15 : decode cX3_settle 15 = .ok (.aload_n 0, 1) := by decide +kernel
theorem dX3_settle_16 : decode cX3_settle 16 = .ok (.iconst 0, 1) := by decide +kernel
theorem dX3_settle_17 : decode cX3_settle 17 = .ok (.putfield 62, 3) := by decide +kernel
theorem dX3_settle_20 : decode cX3_settle 20 = .ok (.aload_n 0, 1) := by decide +kernel
theorem dX3_settle_21 : decode cX3_settle 21 = .ok (.iconst 0, 1) := by decide +kernel
theorem dX3_settle_22 : decode cX3_settle 22 = .ok (.putfield 65, 3) := by decide +kernel
theorem dX3_settle_25 : decode cX3_settle 25 = .ok (.aload_n 0, 1) := by decide +kernel
theorem dX3_settle_26 : decode cX3_settle 26 = .ok (.getfield 30, 3) := by decide +kernel
theorem dX3_settle_29 : decode cX3_settle 29 = .ok (.iconst 0, 1) := by decide +kernel
theorem dX3_settle_30 : decode cX3_settle 30 = .ok (.invokestatic 68, 3) := by decide +kernel
theorem dX3_settle_33 : decode cX3_settle 33 = .ok (.aload_n 0, 1) := by decide +kernel
theorem dX3_settle_34 : decode cX3_settle 34 = .ok (.getfield 33, 3) := by decide +kernel
theorem dX3_settle_37 : decode cX3_settle 37 = .ok (.iconst 0, 1) := by decide +kernel
theorem dX3_settle_38 : decode cX3_settle 38 = .ok (.invokestatic 68, 3) := by decide +kernel
theorem dX3_settle_41 : decode cX3_settle 41 = .ok (.aload_n 0, 1) := by decide +kernel
theorem dX3_settle_42 : decode cX3_settle 42 = .ok (.getfield 36, 3) := by decide +kernel
theorem dX3_settle_45 : decode cX3_settle 45 = .ok (.iconst 3, 1) := by decide +kernel
theorem dX3_settle_46 : decode cX3_settle 46 = .ok (.invokestatic 68, 3) := by decide +kernel
theorem dX3_settle_49 : decode cX3_settle 49 = .ok (.return_, 1) := by decide +kernel
theorem dX3_copy_0 : decode cX3_copy 0 = .ok (.aload_n 0, 1) := by decide +kernel
theorem dX3_copy_1 : decode cX3_copy 1 = .ok (.aload_n 1, 1) := by decide +kernel
theorem dX3_copy_2 : decode cX3_copy 2 = .ok (.getfield 53, 3) := by decide +kernel
theorem dX3_copy_5 : decode cX3_copy 5 = .ok (.putfield 53, 3) := by decide +kernel
theorem dX3_copy_8 : decode cX3_copy 8 = .ok (.aload_n 0, 1) := by decide +kernel
theorem dX3_copy_9 : decode cX3_copy 9 = .ok (.aload_n 1, 1) := by decide +kernel
theorem dX3_copy_10 : decode cX3_copy 10 = .ok (.getfield 56, 3) := by decide +kernel
theorem dX3_copy_13 : decode cX3_copy 13 = .ok (.putfield 56, 3) := by decide +kernel
theorem dX3_copy_16 : decode cX3_copy 16 = .ok (.aload_n 0, 1) := by decide +kernel
theorem dX3_copy_17 : decode cX3_copy 17 = .ok (.aload_n 1, 1) := by decide +kernel
theorem dX3_copy_18 : decode cX3_copy 18 = .ok (.getfield 59, 3) := by decide +kernel
theorem dX3_copy_21 : decode cX3_copy 21 = .ok (.putfield 59, 3) := by decide +kernel
theorem dX3_copy_24 : decode cX3_copy 24 = .ok (.aload_n 0, 1) := by decide +kernel
theorem dX3_copy_25 : decode cX3_copy 25 = .ok (.aload_n 1, 1) := by decide +kernel
theorem dX3_copy_26 : decode cX3_copy 26 = .ok (.getfield 65, 3) := by decide +kernel
theorem dX3_copy_29 : decode cX3_copy 29 = .ok (.putfield 65, 3) := by decide +kernel
theorem dX3_copy_32 : decode cX3_copy 32 = .ok (.aload_n 0, 1) := by decide +kernel
theorem dX3_copy_33 : decode cX3_copy 33 = .ok (.aload_n 1, 1) := by decide +kernel
theorem dX3_copy_34 : decode cX3_copy 34 = .ok (.getfield 45, 3) := by decide +kernel
theorem dX3_copy_37 : decode cX3_copy 37 = .ok (.putfield 45, 3) := by decide +kernel
theorem dX3_copy_40 : decode cX3_copy 40 = .ok (.aload_n 0, 1) := by decide +kernel
theorem dX3_copy_41 : decode cX3_copy 41 = .ok (.aload_n 1, 1) := by decide +kernel
theorem dX3_copy_42 : decode cX3_copy 42 = .ok (.getfield 62, 3) := by decide +kernel
theorem dX3_copy_45 : decode cX3_copy 45 = .ok (.putfield 62, 3) := by decide +kernel
theorem dX3_copy_48 : decode cX3_copy 48 = .ok (.aload_n 1, 1) := by decide +kernel
theorem dX3_copy_49 : decode cX3_copy 49 = .ok (.getfield 9, 3) := by decide +kernel
theorem dX3_copy_52 : decode cX3_copy 52 = .ok (.iconst 0, 1) := by decide +kernel
theorem dX3_copy_53 : decode cX3_copy 53 = .ok (.aload_n 0, 1) := by decide +kernel
theorem dX3_copy_54 : decode cX3_copy 54 = .ok (.getfield 9, 3) := by decide +kernel
theorem dX3_copy_57 : decode cX3_copy 57 = .ok (.iconst 0, 1) := by decide +kernel
theorem dX3_copy_58 : decode cX3_copy 58 = .ok (.bipush 8, 2) := by decide +kernel
theorem dX3_copy_60 : decode cX3_copy 60 = .ok (.invokestatic 74, 3) := by decide +kernel
theorem dX3_copy_63 : decode cX3_copy 63 = .ok (.aload_n 1, 1) := by decide +kernel
theorem dX3_copy_64 : decode cX3_copy 64 = .ok (.getfield 15, 3) := by decide +kernel
theorem dX3_copy_67 : decode cX3_copy 67 = .ok (.iconst 0, 1) := by decide +kernel
theorem dX3_copy_68 : decode cX3_copy 68 = .ok (.aload_n 0, 1) := by decide +kernel
theorem dX3_copy_69 : decode cX3_copy 69 = .ok (.getfield 15, 3) := by decide +kernel
theorem dX3_copy_72 : decode cX3_copy 72 = .ok (.iconst 0, 1) := by decide +kernel
theorem dX3_copy_73 : decode cX3_copy 73 = .ok (.bipush 8, 2) := by decide +kernel
theorem dX3_copy_75 : decode cX3_copy 75 = .ok (.invokestatic 74, 3) := by decide +kernel
theorem dX3_copy_78 : decode cX3_copy 78 = .ok (.aload_n 1, 1) := by decide +kernel
theorem dX3_copy_79 : decode cX3_copy 79 = .ok (.getfield 18, 3) := by decide +kernel
theorem dX3_copy_82 : decode cX3_copy 82 = .ok (.iconst 0, 1) := by decide +kernel
theorem dX3_copy_83 : decode cX3_copy 83 = .ok (.aload_n 0, 1) := by decide +kernel
theorem dX3_copy_84 : decode cX3_copy 84 = .ok (.getfield 18, 3) := by decide +kernel
theorem dX3_copy_87 : decode cX3_copy 87 = .ok (.iconst 0, 1) := by decide +kernel
theorem dX3_copy_88 : decode cX3_copy 88 = .ok (.bipush 8, 2) := by decide +kernel
theorem dX3_copy_90 : decode cX3_copy 90 = .ok (.invokestatic 74, 3) := by decide +kernel
theorem dX3_copy_93 : decode cX3_copy 93 = .ok (.aload_n 1, 1) := by decide +kernel
theorem dX3_copy_94 : decode cX3_copy 94 = .ok (.getfield 21, 3) := by decide +kernel
theorem dX3_copy_97 : decode cX3_copy 97 = .ok (.iconst 0, 1) := by decide +kernel
theorem dX3_copy_98 : decode cX3_copy 98 = .ok (.aload_n 0, 1) := by decide +kernel
theorem dX3_copy_99 : decode cX3_copy 99 = .ok (.getfield 21, 3) := by decide +kernel
theorem dX3_copy_102 : decode cX3_copy 102 = .ok (.iconst 0, 1) := by decide +kernel
theorem dX3_copy_103 : decode cX3_copy 103 = .ok (.bipush 8, 2) := by decide +kernel
theorem dX3_copy_105 : decode cX3_copy 105 = .ok (.invokestatic 74, 3) := by decide +kernel
theorem dX3_copy_108 : decode cX3_copy 108 = .ok (.aload_n 1, 1) := by decide +kernel
theorem dX3_copy_109 : decode cX3_copy 109 = .ok (.getfield 24, 3) := by decide +kernel
theorem dX3_copy_112 : decode cX3_copy 112 = .ok (.iconst 0, 1) := by decide +kernel
theorem dX3_copy_113 : decode cX3_copy 113 = .ok (.aload_n 0, 1) := by decide +kernel
theorem dX3_copy_114 : decode cX3_copy 114 = .ok (.getfield 24, 3) := by decide +kernel
theorem dX3_copy_117 : decode cX3_copy 117 = .ok (.iconst 0, 1) := by decide +kernel
theorem dX3_copy_118 : decode cX3_copy 118 = .ok (.bipush 6, 2) := by decide +kernel
theorem dX3_copy_120 : decode cX3_copy 120 = .ok (.invokestatic 74, 3) := by decide +kernel
theorem dX3_copy_123 : decode cX3_copy 123 = .ok (.aload_n 1, 1) := by decide +kernel
theorem dX3_copy_124 : decode cX3_copy 124 = .ok (.getfield 27, 3) := by decide +kernel
theorem dX3_copy_127 : decode cX3_copy 127 = .ok (.iconst 0, 1) := by decide +kernel
theorem dX3_copy_128 : decode cX3_copy 128 = .ok (.aload_n 0, 1) := by decide +kernel
theorem dX3_copy_129 : decode cX3_copy 129 = .ok (.getfield 27, 3) := by decide +kernel
theorem dX3_copy_132 : decode cX3_copy 132 = .ok (.iconst 0, 1) := by decide +kernel
theorem dX3_copy_133 : decode cX3_copy 133 = .ok (.bipush 6, 2) := by decide +kernel
theorem dX3_copy_135 : decode cX3_copy 135 = .ok (.invokestatic 74, 3) := by decide +kernel
theorem dX3_copy_138 : decode cX3_copy 138 = .ok (.aload_n 1, 1) := by decide +kernel
theorem dX3_copy_139 : decode cX3_copy 139 = .ok (.getfield 30, 3) := by decide +kernel
theorem dX3_copy_142 : decode cX3_copy 142 = .ok (.iconst 0, 1) := by decide +kernel
theorem dX3_copy_143 : decode cX3_copy 143 = .ok (.aload_n 0, 1) := by decide +kernel
theorem dX3_copy_144 : decode cX3_copy 144 = .ok (.getfield 30, 3) := by decide +kernel
theorem dX3_copy_147 : decode cX3_copy 147 = .ok (.iconst 0, 1) := by decide +kernel
theorem dX3_copy_148 : decode cX3_copy 148 = .ok (.bipush 6, 2) := by decide +kernel
theorem dX3_copy_150 : decode cX3_copy 150 = .ok (.invokestatic 74, 3) := by decide +kernel
theorem dX3_copy_153 : decode cX3_copy 153 = .ok (.aload_n 1, 1) := by decide +kernel
theorem dX3_copy_154 : decode cX3_copy 154 = .ok (.getfield 33, 3) := by decide +kernel
theorem dX3_copy_157 : decode cX3_copy 157 = .ok (.iconst 0, 1) := by decide +kernel
theorem dX3_copy_158 : decode cX3_copy 158 = .ok (.aload_n 0, 1) := by decide +kernel
theorem dX3_copy_159 : decode cX3_copy 159 = .ok (.getfield 33, 3) := by decide +kernel
theorem dX3_copy_162 : decode cX3_copy 162 = .ok (.iconst 0, 1) := by decide +kernel
theorem dX3_copy_163 : decode cX3_copy 163 = .ok (.bipush 8, 2) := by decide +kernel
theorem dX3_copy_165 : decode cX3_copy 165 = .ok (.invokestatic 74, 3) := by decide +kernel
theorem dX3_copy_168 : decode cX3_copy 168 = .ok (.aload_n 1, 1) := by decide +kernel
theorem dX3_copy_169 : decode cX3_copy 169 = .ok (.getfield 36, 3) := by decide +kernel
theorem dX3_copy_172 : decode cX3_copy 172 = .ok (.iconst 0, 1) := by decide +kernel
theorem dX3_copy_173 : decode cX3_copy 173 = .ok (.aload_n 0, 1) := by decide +kernel
theorem dX3_copy_174 : decode cX3_copy 174 = .ok (.getfield 36, 3) := by decide +kernel
theorem dX3_copy_177 : decode cX3_copy 177 = .ok (.iconst 0, 1) := by decide +kernel
theorem dX3_copy_178 : decode cX3_copy 178 = .ok (.bipush 8, 2) := by decide +kernel
theorem dX3_copy_180 : decode cX3_copy 180 = .ok (.invokestatic 74, 3) := by decide +kernel
theorem dX3_copy_183 : decode cX3_copy 183 = .ok (.aload_n 1, 1) := by decide +kernel
theorem dX3_copy_184 : decode cX3_copy 184 = .ok (.getfield 39, 3) := by decide +kernel
theorem dX3_copy_187 : decode cX3_copy 187 = .ok (.iconst 0, 1) := by decide +kernel
theorem dX3_copy_188 : decode cX3_copy 188 = .ok (.aload_n 0, 1) := by decide +kernel
theorem dX3_copy_189 : decode cX3_copy 189 = .ok (.getfield 39, 3) := by decide +kernel
theorem dX3_copy_192 : decode cX3_copy 192 = .ok (.iconst 0, 1) := by decide +kernel
theorem dX3_copy_193 : decode cX3_copy 193 = .ok (.bipush 6, 2) := by decide +kernel
theorem dX3_copy_195 : decode cX3_copy 195 = .ok (.invokestatic 74, 3) := by decide +kernel
theorem dX3_copy_198 : decode cX3_copy 198 = .ok (.aload_n 1, 1) := by decide +kernel
theorem dX3_copy_199 : decode cX3_copy 199 = .ok (.getfield 42, 3) := by decide +kernel
theorem dX3_copy_202 : decode cX3_copy 202 = .ok (.iconst 0, 1) := by decide +kernel
theorem dX3_copy_203 : decode cX3_copy 203 = .ok (.aload_n 0, 1) := by decide +kernel
theorem dX3_copy_204 : decode cX3_copy 204 = .ok (.getfield 42, 3) := by decide +kernel
theorem dX3_copy_207 : decode cX3_copy 207 = .ok (.iconst 0, 1) := by decide +kernel
theorem dX3_copy_208 : decode cX3_copy 208 = .ok (.bipush 6, 2) := by decide +kernel
theorem dX3_copy_210 : decode cX3_copy 210 = .ok (.invokestatic 74, 3) := by decide +kernel
theorem dX3_copy_213 : decode cX3_copy 213 = .ok (.return_, 1) := by decide +kernel
theorem dX3_hasTerrace_0 : decode cX3_hasTerrace 0 = .ok (.iload_n 1, 1) := by decide +kernel
theorem dX3_hasTerrace_1 : decode cX3_hasTerrace 1 = .ok (.iconst 0, 1) := by decide +kernel
theorem dX3_hasTerrace_2 : decode cX3_hasTerrace 2 = .ok (.aload_n 0, 1) := by decide +kernel
theorem dX3_hasTerrace_3 : decode cX3_hasTerrace 3 = .ok (.getfield 53, 3) := by decide +kernel
theorem dX3_hasTerrace_6 : decode cX3_hasTerrace 6 = .ok (.iconst 1, 1) := by decide +kernel
theorem dX3_hasTerrace_7 : decode cX3_hasTerrace 7 = .ok (.isub, 1) := by decide +kernel
theorem dX3_hasTerrace_8 : decode cX3_hasTerrace 8 = .ok (.invokestatic 80, 3) := by decide +kernel
theorem dX3_hasTerrace_11 : decode cX3_hasTerrace 11 = .ok (.ireturn, 1) := by decide +kernel
theorem dX3_hasBridge_0 : decode cX3_hasBridge 0 = .ok (.iload_n 1, 1) := by decide +kernel
theorem dX3_hasBridge_1 : decode cX3_hasBridge 1 = .ok (.iconst 0, 1) := by decide +kernel
theorem dX3_hasBridge_2 : decode cX3_hasBridge 2 = .ok (.bipush 7, 2) := by decide +kernel
theorem dX3_hasBridge_4 : decode cX3_hasBridge 4 = .ok (.invokestatic 80, 3) := by decide +kernel
theorem dX3_hasBridge_7 : decode cX3_hasBridge 7 = .ok (.ifCond .eq 18, 3) := by decide +kernel
theorem dX3_hasBridge_10 : decode cX3_hasBridge 10 = .ok (.aload_n 0, 1) := by decide +kernel
theorem dX3_hasBridge_11 : decode cX3_hasBridge 11 = .ok (.getfield 56, 3) := by decide +kernel
theorem dX3_hasBridge_14 : decode cX3_hasBridge 14 = .ok (.iload_n 1, 1) := by decide +kernel
theorem dX3_hasBridge_15 : decode cX3_hasBridge 15 = .ok (.invokestatic 84, 3) := by decide +kernel
theorem dX3_hasBridge_18 : decode cX3_hasBridge 18 = .ok (.ifCond .eq 7, 3) := by decide +kernel
theorem dX3_hasBridge_21 : decode cX3_hasBridge 21 = .ok (.iconst 1, 1) := by decide +kernel
theorem dX3_hasBridge_22 : decode cX3_hasBridge 22 = .ok (.goto 4, 3) := by decide +kernel
theorem dX3_hasBridge_25 : decode cX3_hasBridge 25 = .ok (.iconst 0, 1) := by decide +kernel
theorem dX3_hasBridge_26 : decode cX3_hasBridge 26 = .ok (.ireturn, 1) := by decide +kernel
theorem dX3_hasPerson_0 : decode cX3_hasPerson 0 = .ok (.iload_n 1, 1) := by decide +kernel
theorem dX3_hasPerson_1 : decode cX3_hasPerson 1 = .ok (.iconst 0, 1) := by decide +kernel
theorem dX3_hasPerson_2 : decode cX3_hasPerson 2 = .ok (.iconst 5, 1) := by decide +kernel
theorem dX3_hasPerson_3 : decode cX3_hasPerson 3 = .ok (.invokestatic 80, 3) := by decide +kernel
theorem dX3_hasPerson_6 : decode cX3_hasPerson 6 = .ok (.ifCond .eq 18, 3) := by decide +kernel
theorem dX3_hasPerson_9 : decode cX3_hasPerson 9 = .ok (.aload_n 0, 1) := by decide +kernel
theorem dX3_hasPerson_10 : decode cX3_hasPerson 10 = .ok (.getfield 59, 3) := by decide +kernel
theorem dX3_hasPerson_13 : decode cX3_hasPerson 13 = .ok (.iload_n 1, 1) := by decide +kernel
theorem dX3_hasPerson_14 : decode cX3_hasPerson 14 = .ok (.invokestatic 84, 3) := by decide +kernel
theorem dX3_hasPerson_17 : decode cX3_hasPerson 17 = .ok (.ifCond .eq 7, 3) := by decide +kernel
theorem dX3_hasPerson_20 : decode cX3_hasPerson 20 = .ok (.iconst 1, 1) := by decide +kernel
theorem dX3_hasPerson_21 : decode cX3_hasPerson 21 = .ok (.goto 4, 3) := by decide +kernel
theorem dX3_hasPerson_24 : decode cX3_hasPerson 24 = .ok (.iconst 0, 1) := by decide +kernel
theorem dX3_hasPerson_25 : decode cX3_hasPerson 25 = .ok (.ireturn, 1) := by decide +kernel
theorem dX3_knowersOf_0 : decode cX3_knowersOf 0 = .ok (.iconst 0, 1) := by decide +kernel
theorem dX3_knowersOf_1 : decode cX3_knowersOf 1 = .ok (.istore_n 2, 1) := by decide +kernel
theorem dX3_knowersOf_2 : decode cX3_knowersOf 2 = .ok (.iconst 0, 1) := by decide +kernel
theorem dX3_knowersOf_3 : decode cX3_knowersOf 3 = .ok (.istore_n 3, 1) := by decide +kernel
theorem dX3_knowersOf_4 : decode cX3_knowersOf 4 = .ok (.iload_n 3, 1) := by decide +kernel
theorem dX3_knowersOf_5 : decode cX3_knowersOf 5 = .ok (.bipush 6, 2) := by decide +kernel
theorem dX3_knowersOf_7 : decode cX3_knowersOf 7 = .ok (.if_icmp .ge 28, 3) := by decide +kernel
theorem dX3_knowersOf_10 : decode cX3_knowersOf 10 = .ok (.aload_n 0, 1) := by decide +kernel
theorem dX3_knowersOf_11 : decode cX3_knowersOf 11 = .ok (.getfield 30, 3) := by decide +kernel
theorem dX3_knowersOf_14 : decode cX3_knowersOf 14 = .ok (.iload_n 3, 1) := by decide +kernel
theorem dX3_knowersOf_15 : decode cX3_knowersOf 15 = .ok (.iaload, 1) := by decide +kernel
theorem dX3_knowersOf_16 : decode cX3_knowersOf 16 = .ok (.iload_n 1, 1) := by decide +kernel
theorem dX3_knowersOf_17 : decode cX3_knowersOf 17 = .ok (.invokestatic 84, 3) := by decide +kernel
theorem dX3_knowersOf_20 : decode cX3_knowersOf 20 = .ok (.ifCond .eq 9, 3) := by decide +kernel
theorem dX3_knowersOf_23 : decode cX3_knowersOf 23 = .ok (.iload_n 2, 1) := by decide +kernel
theorem dX3_knowersOf_24 : decode cX3_knowersOf 24 = .ok (.iconst 1, 1) := by decide +kernel
theorem dX3_knowersOf_25 : decode cX3_knowersOf 25 = .ok (.iload_n 3, 1) := by decide +kernel
theorem dX3_knowersOf_26 : decode cX3_knowersOf 26 = .ok (.ishl, 1) := by decide +kernel
theorem dX3_knowersOf_27 : decode cX3_knowersOf 27 = .ok (.ior, 1) := by decide +kernel
theorem dX3_knowersOf_28 : decode cX3_knowersOf 28 = .ok (.istore_n 2, 1) := by decide +kernel
theorem dX3_knowersOf_29 : decode cX3_knowersOf 29 = .ok (.iinc 3 1, 3) := by decide +kernel
theorem dX3_knowersOf_32 : decode cX3_knowersOf 32 = .ok (.goto (-28), 3) := by decide +kernel
theorem dX3_knowersOf_35 : decode cX3_knowersOf 35 = .ok (.iload_n 2, 1) := by decide +kernel
theorem dX3_knowersOf_36 : decode cX3_knowersOf 36 = .ok (.ireturn, 1) := by decide +kernel
theorem dX3_weightFor_0 : decode cX3_weightFor 0 = .ok (.iconst 1, 1) := by decide +kernel
theorem dX3_weightFor_1 : decode cX3_weightFor 1 = .ok (.iload_n 2, 1) := by decide +kernel
theorem dX3_weightFor_2 : decode cX3_weightFor 2 = .ok (.ishl, 1) := by decide +kernel
theorem dX3_weightFor_3 : decode cX3_weightFor 3 = .ok (.istore_n 3, 1) := by decide +kernel
theorem dX3_weightFor_4 : decode cX3_weightFor 4 = .ok (.aload_n 0, 1) := by decide +kernel
theorem dX3_weightFor_5 : decode cX3_weightFor 5 = .ok (.getfield 65, 3) := by decide +kernel
theorem dX3_weightFor_8 : decode cX3_weightFor 8 = .ok (.iload_n 3, 1) := by decide +kernel
theorem dX3_weightFor_9 : decode cX3_weightFor 9 = .ok (.iand, 1) := by decide +kernel
theorem dX3_weightFor_10 : decode cX3_weightFor 10 = .ok (.ifCond .eq 5, 3) := by decide +kernel
theorem dX3_weightFor_13 : decode cX3_weightFor 13 = .ok (.iconst 0, 1) := by decide +kernel
theorem dX3_weightFor_14 : decode cX3_weightFor 14 = .ok (.ireturn, 1) := by decide +kernel
theorem dX3_weightFor_15 : decode cX3_weightFor 15 = .ok (.iconst 1, 1) := by decide +kernel
theorem dX3_weightFor_16 : decode cX3_weightFor 16 = .ok (.istore 4, 2) := by decide +kernel
theorem dX3_weightFor_18 : decode cX3_weightFor 18 = .ok (.iconst 0, 1) := by decide +kernel
theorem dX3_weightFor_19 : decode cX3_weightFor 19 = .ok (.istore 5, 2) := by decide +kernel
theorem dX3_weightFor_21 : decode cX3_weightFor 21 = .ok (.iload 5, 2) := by decide +kernel
theorem dX3_weightFor_23 : decode cX3_weightFor 23 = .ok (.bipush 6, 2) := by decide +kernel
theorem dX3_weightFor_25 : decode cX3_weightFor 25 = .ok (.if_icmp .ge 30, 3) := by decide +kernel
theorem dX3_weightFor_28 : decode cX3_weightFor 28 = .ok (.iload 5, 2) := by decide +kernel
theorem dX3_weightFor_30 : decode cX3_weightFor 30 = .ok (.iload_n 1, 1) := by decide +kernel
theorem dX3_weightFor_31 : decode cX3_weightFor 31 = .ok (.if_icmp .eq 18, 3) := by decide +kernel
theorem dX3_weightFor_34 : decode cX3_weightFor 34 = .ok (.aload_n 0, 1) := by decide +kernel
theorem dX3_weightFor_35 : decode cX3_weightFor 35 = .ok (.getfield 30, 3) := by decide +kernel
theorem dX3_weightFor_38 : decode cX3_weightFor 38 = .ok (.iload 5, 2) := by decide +kernel
theorem dX3_weightFor_40 : decode cX3_weightFor 40 = .ok (.iaload, 1) := by decide +kernel
theorem dX3_weightFor_41 : decode cX3_weightFor 41 = .ok (.iload_n 3, 1) := by decide +kernel
theorem dX3_weightFor_42 : decode cX3_weightFor 42 = .ok (.iand, 1) := by decide +kernel
theorem dX3_weightFor_43 : decode cX3_weightFor 43 = .ok (.ifCond .eq 6, 3) := by decide +kernel
theorem dX3_weightFor_46 : decode cX3_weightFor 46 = .ok (.iinc 4 1, 3) := by decide +kernel
theorem dX3_weightFor_49 : decode cX3_weightFor 49 = .ok (.iinc 5 1, 3) := by decide +kernel
theorem dX3_weightFor_52 : decode cX3_weightFor 52 = .ok (.goto (-31), 3) := by decide +kernel
theorem dX3_weightFor_55 : decode cX3_weightFor 55 = .ok (.aload_n 0, 1) := by decide +kernel
theorem dX3_weightFor_56 : decode cX3_weightFor 56 = .ok (.getfield 36, 3) := by decide +kernel
theorem dX3_weightFor_59 : decode cX3_weightFor 59 = .ok (.iload_n 2, 1) := by decide +kernel
theorem dX3_weightFor_60 : decode cX3_weightFor 60 = .ok (.iaload, 1) := by decide +kernel
theorem dX3_weightFor_61 : decode cX3_weightFor 61 = .ok (.aload_n 0, 1) := by decide +kernel
theorem dX3_weightFor_62 : decode cX3_weightFor 62 = .ok (.getfield 27, 3) := by decide +kernel
theorem dX3_weightFor_65 : decode cX3_weightFor 65 = .ok (.iload_n 1, 1) := by decide +kernel
theorem dX3_weightFor_66 : decode cX3_weightFor 66 = .ok (.iaload, 1) := by decide +kernel
theorem dX3_weightFor_67 : decode cX3_weightFor 67 = .ok (.if_icmp .ne 14, 3) := by decide +kernel
theorem dX3_weightFor_70 : decode cX3_weightFor 70 = .ok (.iconst 2, 1) := by decide +kernel
theorem dX3_weightFor_71 : decode cX3_weightFor 71 = .ok (.aload_n 0, 1) := by decide +kernel
theorem dX3_weightFor_72 : decode cX3_weightFor 72 = .ok (.getfield 33, 3) := by decide +kernel
theorem dX3_weightFor_75 : decode cX3_weightFor 75 = .ok (.iload_n 2, 1) := by decide +kernel
theorem dX3_weightFor_76 : decode cX3_weightFor 76 = .ok (.iaload, 1) := by decide +kernel
theorem dX3_weightFor_77 : decode cX3_weightFor 77 = .ok (.imul, 1) := by decide +kernel
theorem dX3_weightFor_78 : decode cX3_weightFor 78 = .ok (.goto 9, 3) := by decide +kernel
theorem dX3_weightFor_81 : decode cX3_weightFor 81 = .ok (.aload_n 0, 1) := by decide +kernel
theorem dX3_weightFor_82 : decode cX3_weightFor 82 = .ok (.getfield 33, 3) := by decide +kernel
theorem dX3_weightFor_85 : decode cX3_weightFor 85 = .ok (.iload_n 2, 1) := by decide +kernel
theorem dX3_weightFor_86 : decode cX3_weightFor 86 = .ok (.iaload, 1) := by decide +kernel
theorem dX3_weightFor_87 : decode cX3_weightFor 87 = .ok (.iload 4, 2) := by decide +kernel
theorem dX3_weightFor_89 : decode cX3_weightFor 89 = .ok (.idiv, 1) := by decide +kernel
theorem dX3_weightFor_90 : decode cX3_weightFor 90 = .ok (.ireturn, 1) := by decide +kernel
theorem dX3_sum_0 : decode cX3_sum 0 = .ok (.iconst 0, 1) := by decide +kernel
theorem dX3_sum_1 : decode cX3_sum 1 = .ok (.istore_n 3, 1) := by decide +kernel
theorem dX3_sum_2 : decode cX3_sum 2 = .ok (.iconst 0, 1) := by decide +kernel
theorem dX3_sum_3 : decode cX3_sum 3 = .ok (.istore 4, 2) := by decide +kernel
theorem dX3_sum_5 : decode cX3_sum 5 = .ok (.iload 4, 2) := by decide +kernel
theorem dX3_sum_7 : decode cX3_sum 7 = .ok (.bipush 8, 2) := by decide +kernel
theorem dX3_sum_9 : decode cX3_sum 9 = .ok (.if_icmp .ge 28, 3) := by decide +kernel
theorem dX3_sum_12 : decode cX3_sum 12 = .ok (.iload_n 2, 1) := by decide +kernel
theorem dX3_sum_13 : decode cX3_sum 13 = .ok (.iload 4, 2) := by decide +kernel
theorem dX3_sum_15 : decode cX3_sum 15 = .ok (.invokestatic 84, 3) := by decide +kernel
theorem dX3_sum_18 : decode cX3_sum 18 = .ok (.ifCond .eq 13, 3) := by decide +kernel
theorem dX3_sum_21 : decode cX3_sum 21 = .ok (.iload_n 3, 1) := by decide +kernel
theorem dX3_sum_22 : decode cX3_sum 22 = .ok (.aload_n 0, 1) := by decide +kernel
theorem dX3_sum_23 : decode cX3_sum 23 = .ok (.iload_n 1, 1) := by decide +kernel
theorem dX3_sum_24 : decode cX3_sum 24 = .ok (.iload 4, 2) := by decide +kernel
theorem dX3_sum_26 : decode cX3_sum 26 = .ok (.invokevirtual 88, 3) := by decide +kernel
theorem dX3_sum_29 : decode cX3_sum 29 = .ok (.iadd, 1) := by decide +kernel
theorem dX3_sum_30 : decode cX3_sum 30 = .ok (.istore_n 3, 1) := by decide +kernel
theorem dX3_sum_31 : decode cX3_sum 31 = .ok (.iinc 4 1, 3) := by decide +kernel
theorem dX3_sum_34 : decode cX3_sum 34 = .ok (.goto (-29), 3) := by decide +kernel
theorem dX3_sum_37 : decode cX3_sum 37 = .ok (.iload_n 3, 1) := by decide +kernel
theorem dX3_sum_38 : decode cX3_sum 38 = .ok (.ireturn, 1) := by decide +kernel
theorem dX3_burden_0 : decode cX3_burden 0 = .ok (.iconst 0, 1) := by decide +kernel
theorem dX3_burden_1 : decode cX3_burden 1 = .ok (.aload_n 0, 1) := by decide +kernel
theorem dX3_burden_2 : decode cX3_burden 2 = .ok (.iload_n 1, 1) := by decide +kernel
theorem dX3_burden_3 : decode cX3_burden 3 = .ok (.aload_n 0, 1) := by decide +kernel
theorem dX3_burden_4 : decode cX3_burden 4 = .ok (.getfield 30, 3) := by decide +kernel
theorem dX3_burden_7 : decode cX3_burden 7 = .ok (.iload_n 1, 1) := by decide +kernel
theorem dX3_burden_8 : decode cX3_burden 8 = .ok (.iaload, 1) := by decide +kernel
theorem dX3_burden_9 : decode cX3_burden 9 = .ok (.invokevirtual 92, 3) := by decide +kernel
theorem dX3_burden_12 : decode cX3_burden 12 = .ok (.invokestatic 95, 3) := by decide +kernel
theorem dX3_burden_15 : decode cX3_burden 15 = .ok (.ireturn, 1) := by decide +kernel
theorem dX3_mostBurden_0 : decode cX3_mostBurden 0 = .ok (.iconst 0, 1) := by decide +kernel
theorem dX3_mostBurden_1 : decode cX3_mostBurden 1 = .ok (.istore_n 1, 1) := by decide +kernel
theorem dX3_mostBurden_2 : decode cX3_mostBurden 2 = .ok (.iconst 0, 1) := by decide +kernel
theorem dX3_mostBurden_3 : decode cX3_mostBurden 3 = .ok (.istore_n 2, 1) := by decide +kernel
theorem dX3_mostBurden_4 : decode cX3_mostBurden 4 = .ok (.iload_n 2, 1) := by decide +kernel
theorem dX3_mostBurden_5 : decode cX3_mostBurden 5 = .ok (.bipush 6, 2) := by decide +kernel
theorem dX3_mostBurden_7 : decode cX3_mostBurden 7 = .ok (.if_icmp .ge 30, 3) := by decide +kernel
theorem dX3_mostBurden_10 : decode cX3_mostBurden 10 = .ok (.aload_n 0, 1) := by decide +kernel
theorem dX3_mostBurden_11 : decode cX3_mostBurden 11 = .ok (.getfield 59, 3) := by decide +kernel
theorem dX3_mostBurden_14 : decode cX3_mostBurden 14 = .ok (.iload_n 2, 1) := by decide +kernel
theorem dX3_mostBurden_15 : decode cX3_mostBurden 15 = .ok (.invokestatic 84, 3) := by decide +kernel
theorem dX3_mostBurden_18 : decode cX3_mostBurden 18 = .ok (.ifCond .eq 13, 3) := by decide +kernel
theorem dX3_mostBurden_21 : decode cX3_mostBurden 21 = .ok (.iload_n 1, 1) := by decide +kernel
theorem dX3_mostBurden_22 : decode cX3_mostBurden 22 = .ok (.aload_n 0, 1) := by decide +kernel
theorem dX3_mostBurden_23 : decode cX3_mostBurden 23 = .ok (.iload_n 2, 1) := by decide +kernel
theorem dX3_mostBurden_24 : decode cX3_mostBurden 24 = .ok (.invokevirtual 100, 3) := by decide +kernel
theorem dX3_mostBurden_27 : decode cX3_mostBurden 27 = .ok (.invokestatic 95, 3) := by decide +kernel
theorem dX3_mostBurden_30 : decode cX3_mostBurden 30 = .ok (.istore_n 1, 1) := by decide +kernel
theorem dX3_mostBurden_31 : decode cX3_mostBurden 31 = .ok (.iinc 2 1, 3) := by decide +kernel
theorem dX3_mostBurden_34 : decode cX3_mostBurden 34 = .ok (.goto (-30), 3) := by decide +kernel
theorem dX3_mostBurden_37 : decode cX3_mostBurden 37 = .ok (.iload_n 1, 1) := by decide +kernel
theorem dX3_mostBurden_38 : decode cX3_mostBurden 38 = .ok (.ireturn, 1) := by decide +kernel
theorem dX3_mostKnowers_0 : decode cX3_mostKnowers 0 = .ok (.iconst 0, 1) := by decide +kernel
theorem dX3_mostKnowers_1 : decode cX3_mostKnowers 1 = .ok (.istore_n 1, 1) := by decide +kernel
theorem dX3_mostKnowers_2 : decode cX3_mostKnowers 2 = .ok (.iconst 0, 1) := by decide +kernel
theorem dX3_mostKnowers_3 : decode cX3_mostKnowers 3 = .ok (.istore_n 2, 1) := by decide +kernel
theorem dX3_mostKnowers_4 : decode cX3_mostKnowers 4 = .ok (.iload_n 2, 1) := by decide +kernel
theorem dX3_mostKnowers_5 : decode cX3_mostKnowers 5 = .ok (.bipush 8, 2) := by decide +kernel
theorem dX3_mostKnowers_7 : decode cX3_mostKnowers 7 = .ok (.if_icmp .ge 22, 3) := by decide +kernel
theorem dX3_mostKnowers_10 : decode cX3_mostKnowers 10 = .ok (.iload_n 1, 1) := by decide +kernel
theorem dX3_mostKnowers_11 : decode cX3_mostKnowers 11 = .ok (.aload_n 0, 1) := by decide +kernel
theorem dX3_mostKnowers_12 : decode cX3_mostKnowers 12 = .ok (.iload_n 2, 1) := by decide +kernel
theorem dX3_mostKnowers_13 : decode cX3_mostKnowers 13 = .ok (.invokevirtual 104, 3) := by decide +kernel
theorem dX3_mostKnowers_16 : decode cX3_mostKnowers 16 = .ok (.invokestatic 107, 3) := by decide +kernel
theorem dX3_mostKnowers_19 : decode cX3_mostKnowers 19 = .ok (.invokestatic 95, 3) := by decide +kernel
theorem dX3_mostKnowers_22 : decode cX3_mostKnowers 22 = .ok (.istore_n 1, 1) := by decide +kernel
theorem dX3_mostKnowers_23 : decode cX3_mostKnowers 23 = .ok (.iinc 2 1, 3) := by decide +kernel
theorem dX3_mostKnowers_26 : decode cX3_mostKnowers 26 = .ok (.goto (-22), 3) := by decide +kernel
theorem dX3_mostKnowers_29 : decode cX3_mostKnowers 29 = .ok (.iload_n 1, 1) := by decide +kernel
theorem dX3_mostKnowers_30 : decode cX3_mostKnowers 30 = .ok (.ireturn, 1) := by decide +kernel
theorem dX3_lies_0 : decode cX3_lies 0 = .ok (.iconst 0, 1) := by decide +kernel
theorem dX3_lies_1 : decode cX3_lies 1 = .ok (.istore_n 1, 1) := by decide +kernel
theorem dX3_lies_2 : decode cX3_lies 2 = .ok (.iconst 0, 1) := by decide +kernel
theorem dX3_lies_3 : decode cX3_lies 3 = .ok (.istore_n 2, 1) := by decide +kernel
theorem dX3_lies_4 : decode cX3_lies 4 = .ok (.iload_n 2, 1) := by decide +kernel
theorem dX3_lies_5 : decode cX3_lies 5 = .ok (.bipush 8, 2) := by decide +kernel
theorem dX3_lies_7 : decode cX3_lies 7 = .ok (.if_icmp .ge 24, 3) := by decide +kernel
theorem dX3_lies_10 : decode cX3_lies 10 = .ok (.aload_n 0, 1) := by decide +kernel
theorem dX3_lies_11 : decode cX3_lies 11 = .ok (.getfield 33, 3) := by decide +kernel
theorem dX3_lies_14 : decode cX3_lies 14 = .ok (.iload_n 2, 1) := by decide +kernel
theorem dX3_lies_15 : decode cX3_lies 15 = .ok (.iaload, 1) := by decide +kernel
theorem dX3_lies_16 : decode cX3_lies 16 = .ok (.ifCond .ge 9, 3) := by decide +kernel
theorem dX3_lies_19 : decode cX3_lies 19 = .ok (.iload_n 1, 1) := by decide +kernel
theorem dX3_lies_20 : decode cX3_lies 20 = .ok (.iconst 1, 1) := by decide +kernel
theorem dX3_lies_21 : decode cX3_lies 21 = .ok (.iload_n 2, 1) := by decide +kernel
theorem dX3_lies_22 : decode cX3_lies 22 = .ok (.ishl, 1) := by decide +kernel
theorem dX3_lies_23 : decode cX3_lies 23 = .ok (.ior, 1) := by decide +kernel
theorem dX3_lies_24 : decode cX3_lies 24 = .ok (.istore_n 1, 1) := by decide +kernel
theorem dX3_lies_25 : decode cX3_lies 25 = .ok (.iinc 2 1, 3) := by decide +kernel
theorem dX3_lies_28 : decode cX3_lies 28 = .ok (.goto (-24), 3) := by decide +kernel
theorem dX3_lies_31 : decode cX3_lies 31 = .ok (.iload_n 1, 1) := by decide +kernel
theorem dX3_lies_32 : decode cX3_lies 32 = .ok (.ireturn, 1) := by decide +kernel
theorem dX3_carriersOf_0 : decode cX3_carriersOf 0 = .ok (.iconst 0, 1) := by decide +kernel
theorem dX3_carriersOf_1 : decode cX3_carriersOf 1 = .ok (.istore_n 2, 1) := by decide +kernel
theorem dX3_carriersOf_2 : decode cX3_carriersOf 2 = .ok (.iconst 0, 1) := by decide +kernel
theorem dX3_carriersOf_3 : decode cX3_carriersOf 3 = .ok (.istore_n 3, 1) := by decide +kernel
theorem dX3_carriersOf_4 : decode cX3_carriersOf 4 = .ok (.iload_n 3, 1) := by decide +kernel
theorem dX3_carriersOf_5 : decode cX3_carriersOf 5 = .ok (.bipush 6, 2) := by decide +kernel
theorem dX3_carriersOf_7 : decode cX3_carriersOf 7 = .ok (.if_icmp .ge 35, 3) := by decide +kernel
theorem dX3_carriersOf_10 : decode cX3_carriersOf 10 = .ok (.aload_n 0, 1) := by decide +kernel
theorem dX3_carriersOf_11 : decode cX3_carriersOf 11 = .ok (.getfield 59, 3) := by decide +kernel
theorem dX3_carriersOf_14 : decode cX3_carriersOf 14 = .ok (.iload_n 3, 1) := by decide +kernel
theorem dX3_carriersOf_15 : decode cX3_carriersOf 15 = .ok (.invokestatic 84, 3) := by decide +kernel
theorem dX3_carriersOf_18 : decode cX3_carriersOf 18 = .ok (.ifCond .eq 18, 3) := by decide +kernel
theorem dX3_carriersOf_21 : decode cX3_carriersOf 21 = .ok (.aload_n 0, 1) := by decide +kernel
theorem dX3_carriersOf_22 : decode cX3_carriersOf 22 = .ok (.iload_n 3, 1) := by decide +kernel
theorem dX3_carriersOf_23 : decode cX3_carriersOf 23 = .ok (.invokevirtual 100, 3) := by decide +kernel
theorem dX3_carriersOf_26 : decode cX3_carriersOf 26 = .ok (.iload_n 1, 1) := by decide +kernel
theorem dX3_carriersOf_27 : decode cX3_carriersOf 27 = .ok (.if_icmp .ne 9, 3) := by decide +kernel
theorem dX3_carriersOf_30 : decode cX3_carriersOf 30 = .ok (.iload_n 2, 1) := by decide +kernel
theorem dX3_carriersOf_31 : decode cX3_carriersOf 31 = .ok (.iconst 1, 1) := by decide +kernel
theorem dX3_carriersOf_32 : decode cX3_carriersOf 32 = .ok (.iload_n 3, 1) := by decide +kernel
theorem dX3_carriersOf_33 : decode cX3_carriersOf 33 = .ok (.ishl, 1) := by decide +kernel
theorem dX3_carriersOf_34 : decode cX3_carriersOf 34 = .ok (.ior, 1) := by decide +kernel
theorem dX3_carriersOf_35 : decode cX3_carriersOf 35 = .ok (.istore_n 2, 1) := by decide +kernel
theorem dX3_carriersOf_36 : decode cX3_carriersOf 36 = .ok (.iinc 3 1, 3) := by decide +kernel
theorem dX3_carriersOf_39 : decode cX3_carriersOf 39 = .ok (.goto (-35), 3) := by decide +kernel
theorem dX3_carriersOf_42 : decode cX3_carriersOf 42 = .ok (.iload_n 2, 1) := by decide +kernel
theorem dX3_carriersOf_43 : decode cX3_carriersOf 43 = .ok (.ireturn, 1) := by decide +kernel
theorem dX3_likeSightsBefore_0 : decode cX3_likeSightsBefore 0 = .ok (.iconst 0, 1) := by decide +kernel
theorem dX3_likeSightsBefore_1 : decode cX3_likeSightsBefore 1 = .ok (.istore_n 2, 1) := by decide +kernel
theorem dX3_likeSightsBefore_2 : decode cX3_likeSightsBefore 2 = .ok (.iconst 0, 1) := by decide +kernel
theorem dX3_likeSightsBefore_3 : decode cX3_likeSightsBefore 3 = .ok (.istore_n 3, 1) := by decide +kernel
theorem dX3_likeSightsBefore_4 : decode cX3_likeSightsBefore 4 = .ok (.iload_n 3, 1) := by decide +kernel
theorem dX3_likeSightsBefore_5 : decode cX3_likeSightsBefore 5 = .ok (.iload_n 1, 1) := by decide +kernel
theorem dX3_likeSightsBefore_6 : decode cX3_likeSightsBefore 6 = .ok (.if_icmp .ge 42, 3) := by decide +kernel
theorem dX3_likeSightsBefore_9 : decode cX3_likeSightsBefore 9 = .ok (.aload_n 0, 1) := by decide +kernel
theorem dX3_likeSightsBefore_10 : decode cX3_likeSightsBefore 10 = .ok (.getfield 39, 3) := by decide +kernel
theorem dX3_likeSightsBefore_13 : decode cX3_likeSightsBefore 13 = .ok (.iload_n 3, 1) := by decide +kernel
theorem dX3_likeSightsBefore_14 : decode cX3_likeSightsBefore 14 = .ok (.iaload, 1) := by decide +kernel
theorem dX3_likeSightsBefore_15 : decode cX3_likeSightsBefore 15 = .ok (.aload_n 0, 1) := by decide +kernel
theorem dX3_likeSightsBefore_16 : decode cX3_likeSightsBefore 16 = .ok (.getfield 39, 3) := by decide +kernel
theorem dX3_likeSightsBefore_19 : decode cX3_likeSightsBefore 19 = .ok (.iload_n 1, 1) := by decide +kernel
theorem dX3_likeSightsBefore_20 : decode cX3_likeSightsBefore 20 = .ok (.iaload, 1) := by decide +kernel
theorem dX3_likeSightsBefore_21 : decode cX3_likeSightsBefore 21 = .ok (.if_icmp .ne 21, 3) := by decide +kernel
theorem dX3_likeSightsBefore_24 : decode cX3_likeSightsBefore 24 = .ok (.aload_n 0, 1) := by decide +kernel
theorem dX3_likeSightsBefore_25 : decode cX3_likeSightsBefore 25 = .ok (.getfield 42, 3) := by decide +kernel
theorem dX3_likeSightsBefore_28 : decode cX3_likeSightsBefore 28 = .ok (.iload_n 3, 1) := by decide +kernel
theorem dX3_likeSightsBefore_29 : decode cX3_likeSightsBefore 29 = .ok (.iaload, 1) := by decide +kernel
theorem dX3_likeSightsBefore_30 : decode cX3_likeSightsBefore 30 = .ok (.aload_n 0, 1) := by decide +kernel
theorem dX3_likeSightsBefore_31 : decode cX3_likeSightsBefore 31 = .ok (.getfield 42, 3) := by decide +kernel
theorem dX3_likeSightsBefore_34 : decode cX3_likeSightsBefore 34 = .ok (.iload_n 1, 1) := by decide +kernel
theorem dX3_likeSightsBefore_35 : decode cX3_likeSightsBefore 35 = .ok (.iaload, 1) := by decide +kernel
theorem dX3_likeSightsBefore_36 : decode cX3_likeSightsBefore 36 = .ok (.if_icmp .ne 6, 3) := by decide +kernel
theorem dX3_likeSightsBefore_39 : decode cX3_likeSightsBefore 39 = .ok (.iinc 2 1, 3) := by decide +kernel
theorem dX3_likeSightsBefore_42 : decode cX3_likeSightsBefore 42 = .ok (.iinc 3 1, 3) := by decide +kernel
theorem dX3_likeSightsBefore_45 : decode cX3_likeSightsBefore 45 = .ok (.goto (-41), 3) := by decide +kernel
theorem dX3_likeSightsBefore_48 : decode cX3_likeSightsBefore 48 = .ok (.iload_n 2, 1) := by decide +kernel
theorem dX3_likeSightsBefore_49 : decode cX3_likeSightsBefore 49 = .ok (.ireturn, 1) := by decide +kernel
theorem dX3_bearing_0 : decode cX3_bearing 0 = .ok (.iconst 0, 1) := by decide +kernel
theorem dX3_bearing_1 : decode cX3_bearing 1 = .ok (.istore_n 2, 1) := by decide +kernel
theorem dX3_bearing_2 : decode cX3_bearing 2 = .ok (.iconst 0, 1) := by decide +kernel
theorem dX3_bearing_3 : decode cX3_bearing 3 = .ok (.istore_n 3, 1) := by decide +kernel
theorem dX3_bearing_4 : decode cX3_bearing 4 = .ok (.iload_n 3, 1) := by decide +kernel
theorem dX3_bearing_5 : decode cX3_bearing 5 = .ok (.bipush 8, 2) := by decide +kernel
theorem dX3_bearing_7 : decode cX3_bearing 7 = .ok (.if_icmp .ge 36, 3) := by decide +kernel
theorem dX3_bearing_10 : decode cX3_bearing 10 = .ok (.aload_n 0, 1) := by decide +kernel
theorem dX3_bearing_11 : decode cX3_bearing 11 = .ok (.getfield 56, 3) := by decide +kernel
theorem dX3_bearing_14 : decode cX3_bearing 14 = .ok (.iload_n 3, 1) := by decide +kernel
theorem dX3_bearing_15 : decode cX3_bearing 15 = .ok (.invokestatic 84, 3) := by decide +kernel
theorem dX3_bearing_18 : decode cX3_bearing 18 = .ok (.ifCond .eq 19, 3) := by decide +kernel
theorem dX3_bearing_21 : decode cX3_bearing 21 = .ok (.aload_n 0, 1) := by decide +kernel
theorem dX3_bearing_22 : decode cX3_bearing 22 = .ok (.getfield 18, 3) := by decide +kernel
theorem dX3_bearing_25 : decode cX3_bearing 25 = .ok (.iload_n 3, 1) := by decide +kernel
theorem dX3_bearing_26 : decode cX3_bearing 26 = .ok (.iaload, 1) := by decide +kernel
theorem dX3_bearing_27 : decode cX3_bearing 27 = .ok (.iload_n 1, 1) := by decide +kernel
theorem dX3_bearing_28 : decode cX3_bearing 28 = .ok (.if_icmp .lt 9, 3) := by decide +kernel
theorem dX3_bearing_31 : decode cX3_bearing 31 = .ok (.iload_n 2, 1) := by decide +kernel
theorem dX3_bearing_32 : decode cX3_bearing 32 = .ok (.iconst 1, 1) := by decide +kernel
theorem dX3_bearing_33 : decode cX3_bearing 33 = .ok (.iload_n 3, 1) := by decide +kernel
theorem dX3_bearing_34 : decode cX3_bearing 34 = .ok (.ishl, 1) := by decide +kernel
theorem dX3_bearing_35 : decode cX3_bearing 35 = .ok (.ior, 1) := by decide +kernel
theorem dX3_bearing_36 : decode cX3_bearing 36 = .ok (.istore_n 2, 1) := by decide +kernel
theorem dX3_bearing_37 : decode cX3_bearing 37 = .ok (.iinc 3 1, 3) := by decide +kernel
theorem dX3_bearing_40 : decode cX3_bearing 40 = .ok (.goto (-36), 3) := by decide +kernel
theorem dX3_bearing_43 : decode cX3_bearing 43 = .ok (.iload_n 2, 1) := by decide +kernel
theorem dX3_bearing_44 : decode cX3_bearing 44 = .ok (.ireturn, 1) := by decide +kernel
theorem dX3_spread_0 : decode cX3_spread 0 = .ok (.iload_n 1, 1) := by decide +kernel
theorem dX3_spread_1 : decode cX3_spread 1 = .ok (.istore_n 3, 1) := by decide +kernel
theorem dX3_spread_2 : decode cX3_spread 2 = .ok (.iconst 0, 1) := by decide +kernel
theorem dX3_spread_3 : decode cX3_spread 3 = .ok (.istore 4, 2) := by decide +kernel
theorem dX3_spread_5 : decode cX3_spread 5 = .ok (.iload 4, 2) := by decide +kernel
theorem dX3_spread_7 : decode cX3_spread 7 = .ok (.bipush 8, 2) := by decide +kernel
theorem dX3_spread_9 : decode cX3_spread 9 = .ok (.if_icmp .ge 70, 3) := by decide +kernel
theorem dX3_spread_12 : decode cX3_spread 12 = .ok (.iload_n 2, 1) := by decide +kernel
theorem dX3_spread_13 : decode cX3_spread 13 = .ok (.iload 4, 2) := by decide +kernel
theorem dX3_spread_15 : decode cX3_spread 15 = .ok (.invokestatic 84, 3) := by decide +kernel
theorem dX3_spread_18 : decode cX3_spread 18 = .ok (.ifCond .eq 55, 3) := by decide +kernel
theorem dX3_spread_21 : decode cX3_spread 21 = .ok (.iload_n 1, 1) := by decide +kernel
theorem dX3_spread_22 : decode cX3_spread 22 = .ok (.aload_n 0, 1) := by decide +kernel
theorem dX3_spread_23 : decode cX3_spread 23 = .ok (.getfield 9, 3) := by decide +kernel
theorem dX3_spread_26 : decode cX3_spread 26 = .ok (.iload 4, 2) := by decide +kernel
theorem dX3_spread_28 : decode cX3_spread 28 = .ok (.iaload, 1) := by decide +kernel
theorem dX3_spread_29 : decode cX3_spread 29 = .ok (.invokestatic 84, 3) := by decide +kernel
theorem dX3_spread_32 : decode cX3_spread 32 = .ok (.ifCond .eq 15, 3) := by decide +kernel
theorem dX3_spread_35 : decode cX3_spread 35 = .ok (.iload_n 3, 1) := by decide +kernel
theorem dX3_spread_36 : decode cX3_spread 36 = .ok (.iconst 1, 1) := by decide +kernel
theorem dX3_spread_37 : decode cX3_spread 37 = .ok (.aload_n 0, 1) := by decide +kernel
theorem dX3_spread_38 : decode cX3_spread 38 = .ok (.getfield 15, 3) := by decide +kernel
theorem dX3_spread_41 : decode cX3_spread 41 = .ok (.iload 4, 2) := by decide +kernel
theorem dX3_spread_43 : decode cX3_spread 43 = .ok (.iaload, 1) := by decide +kernel
theorem dX3_spread_44 : decode cX3_spread 44 = .ok (.ishl, 1) := by decide +kernel
theorem dX3_spread_45 : decode cX3_spread 45 = .ok (.ior, 1) := by decide +kernel
theorem dX3_spread_46 : decode cX3_spread 46 = .ok (.istore_n 3, 1) := by decide +kernel
theorem dX3_spread_47 : decode cX3_spread 47 = .ok (.iload_n 1, 1) := by decide +kernel
theorem dX3_spread_48 : decode cX3_spread 48 = .ok (.aload_n 0, 1) := by decide +kernel
theorem dX3_spread_49 : decode cX3_spread 49 = .ok (.getfield 15, 3) := by decide +kernel
theorem dX3_spread_52 : decode cX3_spread 52 = .ok (.iload 4, 2) := by decide +kernel
theorem dX3_spread_54 : decode cX3_spread 54 = .ok (.iaload, 1) := by decide +kernel
theorem dX3_spread_55 : decode cX3_spread 55 = .ok (.invokestatic 84, 3) := by decide +kernel
theorem dX3_spread_58 : decode cX3_spread 58 = .ok (.ifCond .eq 15, 3) := by decide +kernel
theorem dX3_spread_61 : decode cX3_spread 61 = .ok (.iload_n 3, 1) := by decide +kernel
theorem dX3_spread_62 : decode cX3_spread 62 = .ok (.iconst 1, 1) := by decide +kernel
theorem dX3_spread_63 : decode cX3_spread 63 = .ok (.aload_n 0, 1) := by decide +kernel
theorem dX3_spread_64 : decode cX3_spread 64 = .ok (.getfield 9, 3) := by decide +kernel
theorem dX3_spread_67 : decode cX3_spread 67 = .ok (.iload 4, 2) := by decide +kernel
theorem dX3_spread_69 : decode cX3_spread 69 = .ok (.iaload, 1) := by decide +kernel
theorem dX3_spread_70 : decode cX3_spread 70 = .ok (.ishl, 1) := by decide +kernel
theorem dX3_spread_71 : decode cX3_spread 71 = .ok (.ior, 1) := by decide +kernel
theorem dX3_spread_72 : decode cX3_spread 72 = .ok (.istore_n 3, 1) := by decide +kernel
theorem dX3_spread_73 : decode cX3_spread 73 = .ok (.iinc 4 1, 3) := by decide +kernel
theorem dX3_spread_76 : decode cX3_spread 76 = .ok (.goto (-71), 3) := by decide +kernel
theorem dX3_spread_79 : decode cX3_spread 79 = .ok (.iload_n 3, 1) := by decide +kernel
theorem dX3_spread_80 : decode cX3_spread 80 = .ok (.ireturn, 1) := by decide +kernel
theorem dX3_distance_0 : decode cX3_distance 0 = .ok (.iconst 1, 1) := by decide +kernel
theorem dX3_distance_1 : decode cX3_distance 1 = .ok (.iload_n 1, 1) := by decide +kernel
theorem dX3_distance_2 : decode cX3_distance 2 = .ok (.ishl, 1) := by decide +kernel
theorem dX3_distance_3 : decode cX3_distance 3 = .ok (.istore 4, 2) := by decide +kernel
theorem dX3_distance_5 : decode cX3_distance 5 = .ok (.iconst 0, 1) := by decide +kernel
theorem dX3_distance_6 : decode cX3_distance 6 = .ok (.istore 5, 2) := by decide +kernel
theorem dX3_distance_8 : decode cX3_distance 8 = .ok (.iload 5, 2) := by decide +kernel
theorem dX3_distance_10 : decode cX3_distance 10 = .ok (.bipush 6, 2) := by decide +kernel
theorem dX3_distance_12 : decode cX3_distance 12 = .ok (.if_icmp .ge 44, 3) := by decide +kernel
theorem dX3_distance_15 : decode cX3_distance 15 = .ok (.iload 4, 2) := by decide +kernel
theorem dX3_distance_17 : decode cX3_distance 17 = .ok (.iload_n 2, 1) := by decide +kernel
theorem dX3_distance_18 : decode cX3_distance 18 = .ok (.invokestatic 84, 3) := by decide +kernel
theorem dX3_distance_21 : decode cX3_distance 21 = .ok (.ifCond .eq 6, 3) := by decide +kernel
theorem dX3_distance_24 : decode cX3_distance 24 = .ok (.iload 5, 2) := by decide +kernel
theorem dX3_distance_26 : decode cX3_distance 26 = .ok (.ireturn, 1) := by decide +kernel
theorem dX3_distance_27 : decode cX3_distance 27 = .ok (.aload_n 0, 1) := by decide +kernel
theorem dX3_distance_28 : decode cX3_distance 28 = .ok (.iload 4, 2) := by decide +kernel
theorem dX3_distance_30 : decode cX3_distance 30 = .ok (.iload_n 3, 1) := by decide +kernel
theorem dX3_distance_31 : decode cX3_distance 31 = .ok (.invokevirtual 112, 3) := by decide +kernel
theorem dX3_distance_34 : decode cX3_distance 34 = .ok (.istore 6, 2) := by decide +kernel
theorem dX3_distance_36 : decode cX3_distance 36 = .ok (.iload 6, 2) := by decide +kernel
theorem dX3_distance_38 : decode cX3_distance 38 = .ok (.iload 4, 2) := by decide +kernel
theorem dX3_distance_40 : decode cX3_distance 40 = .ok (.if_icmp .ne 6, 3) := by decide +kernel
theorem dX3_distance_43 : decode cX3_distance 43 = .ok (.bipush (-6), 2) := by decide +kernel
theorem dX3_distance_45 : decode cX3_distance 45 = .ok (.ireturn, 1) := by decide +kernel
theorem dX3_distance_46 : decode cX3_distance 46 = .ok (.iload 6, 2) := by decide +kernel
theorem dX3_distance_48 : decode cX3_distance 48 = .ok (.istore 4, 2) := by decide +kernel
theorem dX3_distance_50 : decode cX3_distance 50 = .ok (.iinc 5 1, 3) := by decide +kernel
theorem dX3_distance_53 : decode cX3_distance 53 = .ok (.goto (-45), 3) := by decide +kernel
theorem dX3_distance_56 : decode cX3_distance 56 = .ok (.bipush (-6), 2) := by decide +kernel
theorem dX3_distance_58 : decode cX3_distance 58 = .ok (.ireturn, 1) := by decide +kernel
theorem dX3_hasWay_0 : decode cX3_hasWay 0 = .ok (.aload_n 0, 1) := by decide +kernel
theorem dX3_hasWay_1 : decode cX3_hasWay 1 = .ok (.aload_n 0, 1) := by decide +kernel
theorem dX3_hasWay_2 : decode cX3_hasWay 2 = .ok (.getfield 24, 3) := by decide +kernel
theorem dX3_hasWay_5 : decode cX3_hasWay 5 = .ok (.iload_n 1, 1) := by decide +kernel
theorem dX3_hasWay_6 : decode cX3_hasWay 6 = .ok (.iaload, 1) := by decide +kernel
theorem dX3_hasWay_7 : decode cX3_hasWay 7 = .ok (.iload_n 2, 1) := by decide +kernel
theorem dX3_hasWay_8 : decode cX3_hasWay 8 = .ok (.aload_n 0, 1) := by decide +kernel
theorem dX3_hasWay_9 : decode cX3_hasWay 9 = .ok (.aload_n 0, 1) := by decide +kernel
theorem dX3_hasWay_10 : decode cX3_hasWay 10 = .ok (.iload_n 1, 1) := by decide +kernel
theorem dX3_hasWay_11 : decode cX3_hasWay 11 = .ok (.invokevirtual 100, 3) := by decide +kernel
theorem dX3_hasWay_14 : decode cX3_hasWay 14 = .ok (.invokevirtual 115, 3) := by decide +kernel
theorem dX3_hasWay_17 : decode cX3_hasWay 17 = .ok (.invokevirtual 118, 3) := by decide +kernel
theorem dX3_hasWay_20 : decode cX3_hasWay 20 = .ok (.bipush (-6), 2) := by decide +kernel
theorem dX3_hasWay_22 : decode cX3_hasWay 22 = .ok (.if_icmp .eq 7, 3) := by decide +kernel
theorem dX3_hasWay_25 : decode cX3_hasWay 25 = .ok (.iconst 1, 1) := by decide +kernel
theorem dX3_hasWay_26 : decode cX3_hasWay 26 = .ok (.goto 4, 3) := by decide +kernel
theorem dX3_hasWay_29 : decode cX3_hasWay 29 = .ok (.iconst 0, 1) := by decide +kernel
theorem dX3_hasWay_30 : decode cX3_hasWay 30 = .ok (.ireturn, 1) := by decide +kernel
theorem dX3_otherEnd_0 : decode cX3_otherEnd 0 = .ok (.aload_n 0, 1) := by decide +kernel
theorem dX3_otherEnd_1 : decode cX3_otherEnd 1 = .ok (.getfield 9, 3) := by decide +kernel
theorem dX3_otherEnd_4 : decode cX3_otherEnd 4 = .ok (.iload_n 1, 1) := by decide +kernel
theorem dX3_otherEnd_5 : decode cX3_otherEnd 5 = .ok (.iaload, 1) := by decide +kernel
theorem dX3_otherEnd_6 : decode cX3_otherEnd 6 = .ok (.iload_n 2, 1) := by decide +kernel
theorem dX3_otherEnd_7 : decode cX3_otherEnd 7 = .ok (.if_icmp .ne 12, 3) := by decide +kernel
theorem dX3_otherEnd_10 : decode cX3_otherEnd 10 = .ok (.aload_n 0, 1) := by decide +kernel
theorem dX3_otherEnd_11 : decode cX3_otherEnd 11 = .ok (.getfield 15, 3) := by decide +kernel
theorem dX3_otherEnd_14 : decode cX3_otherEnd 14 = .ok (.iload_n 1, 1) := by decide +kernel
theorem dX3_otherEnd_15 : decode cX3_otherEnd 15 = .ok (.iaload, 1) := by decide +kernel
theorem dX3_otherEnd_16 : decode cX3_otherEnd 16 = .ok (.goto 9, 3) := by decide +kernel
theorem dX3_otherEnd_19 : decode cX3_otherEnd 19 = .ok (.aload_n 0, 1) := by decide +kernel
theorem dX3_otherEnd_20 : decode cX3_otherEnd 20 = .ok (.getfield 9, 3) := by decide +kernel
theorem dX3_otherEnd_23 : decode cX3_otherEnd 23 = .ok (.iload_n 1, 1) := by decide +kernel
theorem dX3_otherEnd_24 : decode cX3_otherEnd 24 = .ok (.iaload, 1) := by decide +kernel
theorem dX3_otherEnd_25 : decode cX3_otherEnd 25 = .ok (.ireturn, 1) := by decide +kernel
theorem dX3_isAtEnd_0 : decode cX3_isAtEnd 0 = .ok (.aload_n 0, 1) := by decide +kernel
theorem dX3_isAtEnd_1 : decode cX3_isAtEnd 1 = .ok (.getfield 9, 3) := by decide +kernel
theorem dX3_isAtEnd_4 : decode cX3_isAtEnd 4 = .ok (.iload_n 1, 1) := by decide +kernel
theorem dX3_isAtEnd_5 : decode cX3_isAtEnd 5 = .ok (.iaload, 1) := by decide +kernel
theorem dX3_isAtEnd_6 : decode cX3_isAtEnd 6 = .ok (.iload_n 2, 1) := by decide +kernel
theorem dX3_isAtEnd_7 : decode cX3_isAtEnd 7 = .ok (.if_icmp .eq 13, 3) := by decide +kernel
theorem dX3_isAtEnd_10 : decode cX3_isAtEnd 10 = .ok (.aload_n 0, 1) := by decide +kernel
theorem dX3_isAtEnd_11 : decode cX3_isAtEnd 11 = .ok (.getfield 15, 3) := by decide +kernel
theorem dX3_isAtEnd_14 : decode cX3_isAtEnd 14 = .ok (.iload_n 1, 1) := by decide +kernel
theorem dX3_isAtEnd_15 : decode cX3_isAtEnd 15 = .ok (.iaload, 1) := by decide +kernel
theorem dX3_isAtEnd_16 : decode cX3_isAtEnd 16 = .ok (.iload_n 2, 1) := by decide +kernel
theorem dX3_isAtEnd_17 : decode cX3_isAtEnd 17 = .ok (.if_icmp .ne 7, 3) := by decide +kernel
theorem dX3_isAtEnd_20 : decode cX3_isAtEnd 20 = .ok (.iconst 1, 1) := by decide +kernel
theorem dX3_isAtEnd_21 : decode cX3_isAtEnd 21 = .ok (.goto 4, 3) := by decide +kernel
theorem dX3_isAtEnd_24 : decode cX3_isAtEnd 24 = .ok (.iconst 0, 1) := by decide +kernel
theorem dX3_isAtEnd_25 : decode cX3_isAtEnd 25 = .ok (.ireturn, 1) := by decide +kernel
theorem dX3_bridgeOfWay_0 : decode cX3_bridgeOfWay 0 = .ok (.iload_n 1, 1) := by decide +kernel
theorem dX3_bridgeOfWay_1 : decode cX3_bridgeOfWay 1 = .ok (.istore 5, 2) := by decide +kernel
theorem dX3_bridgeOfWay_3 : decode cX3_bridgeOfWay 3 = .ok (.bipush (-6), 2) := by decide +kernel
theorem dX3_bridgeOfWay_5 : decode cX3_bridgeOfWay 5 = .ok (.istore 6, 2) := by decide +kernel
theorem dX3_bridgeOfWay_7 : decode cX3_bridgeOfWay 7 = .ok (.iconst 0, 1) := by decide +kernel
theorem dX3_bridgeOfWay_8 : decode cX3_bridgeOfWay 8 = .ok (.istore 7, 2) := by decide +kernel
theorem dX3_bridgeOfWay_10 : decode cX3_bridgeOfWay 10 = .ok (.iload 7, 2) := by decide +kernel
theorem dX3_bridgeOfWay_12 : decode cX3_bridgeOfWay 12 = .ok (.iload 4, 2) := by decide +kernel
theorem dX3_bridgeOfWay_14 : decode cX3_bridgeOfWay 14 = .ok (.if_icmp .gt 46, 3) := by decide +kernel
theorem dX3_bridgeOfWay_17 : decode cX3_bridgeOfWay 17 = .ok (.iload 7, 2) := by decide +kernel
theorem dX3_bridgeOfWay_19 : decode cX3_bridgeOfWay 19 = .ok (.bipush 6, 2) := by decide +kernel
theorem dX3_bridgeOfWay_21 : decode cX3_bridgeOfWay 21 = .ok (.if_icmp .ge 39, 3) := by decide +kernel
theorem dX3_bridgeOfWay_24 : decode cX3_bridgeOfWay 24 = .ok (.aload_n 0, 1) := by decide +kernel
theorem dX3_bridgeOfWay_25 : decode cX3_bridgeOfWay 25 = .ok (.iload 5, 2) := by decide +kernel
theorem dX3_bridgeOfWay_27 : decode cX3_bridgeOfWay 27 = .ok (.iload_n 2, 1) := by decide +kernel
theorem dX3_bridgeOfWay_28 : decode cX3_bridgeOfWay 28 = .ok (.iload_n 3, 1) := by decide +kernel
theorem dX3_bridgeOfWay_29 : decode cX3_bridgeOfWay 29 = .ok (.invokevirtual 122, 3) := by decide +kernel
theorem dX3_bridgeOfWay_32 : decode cX3_bridgeOfWay 32 = .ok (.istore 6, 2) := by decide +kernel
theorem dX3_bridgeOfWay_34 : decode cX3_bridgeOfWay 34 = .ok (.iload 6, 2) := by decide +kernel
theorem dX3_bridgeOfWay_36 : decode cX3_bridgeOfWay 36 = .ok (.bipush (-6), 2) := by decide +kernel
theorem dX3_bridgeOfWay_38 : decode cX3_bridgeOfWay 38 = .ok (.if_icmp .ne 6, 3) := by decide +kernel
theorem dX3_bridgeOfWay_41 : decode cX3_bridgeOfWay 41 = .ok (.bipush (-6), 2) := by decide +kernel
theorem dX3_bridgeOfWay_43 : decode cX3_bridgeOfWay 43 = .ok (.ireturn, 1) := by decide +kernel
theorem dX3_bridgeOfWay_44 : decode cX3_bridgeOfWay 44 = .ok (.aload_n 0, 1) := by decide +kernel
theorem dX3_bridgeOfWay_45 : decode cX3_bridgeOfWay 45 = .ok (.iload 6, 2) := by decide +kernel
theorem dX3_bridgeOfWay_47 : decode cX3_bridgeOfWay 47 = .ok (.iload 5, 2) := by decide +kernel
theorem dX3_bridgeOfWay_49 : decode cX3_bridgeOfWay 49 = .ok (.invokevirtual 125, 3) := by decide +kernel
theorem dX3_bridgeOfWay_52 : decode cX3_bridgeOfWay 52 = .ok (.istore 5, 2) := by decide +kernel
theorem dX3_bridgeOfWay_54 : decode cX3_bridgeOfWay 54 = .ok (.iinc 7 1, 3) := by decide +kernel
theorem dX3_bridgeOfWay_57 : decode cX3_bridgeOfWay 57 = .ok (.goto (-47), 3) := by decide +kernel
theorem dX3_bridgeOfWay_60 : decode cX3_bridgeOfWay 60 = .ok (.iload 6, 2) := by decide +kernel
theorem dX3_bridgeOfWay_62 : decode cX3_bridgeOfWay 62 = .ok (.ireturn, 1) := by decide +kernel
theorem dX3_nextBridge_0 : decode cX3_nextBridge 0 = .ok (.aload_n 0, 1) := by decide +kernel
theorem dX3_nextBridge_1 : decode cX3_nextBridge 1 = .ok (.iload_n 1, 1) := by decide +kernel
theorem dX3_nextBridge_2 : decode cX3_nextBridge 2 = .ok (.iload_n 2, 1) := by decide +kernel
theorem dX3_nextBridge_3 : decode cX3_nextBridge 3 = .ok (.iload_n 3, 1) := by decide +kernel
theorem dX3_nextBridge_4 : decode cX3_nextBridge 4 = .ok (.invokevirtual 118, 3) := by decide +kernel
theorem dX3_nextBridge_7 : decode cX3_nextBridge 7 = .ok (.istore 4, 2) := by decide +kernel
theorem dX3_nextBridge_9 : decode cX3_nextBridge 9 = .ok (.iconst 0, 1) := by decide +kernel
theorem dX3_nextBridge_10 : decode cX3_nextBridge 10 = .ok (.istore 5, 2) := by decide +kernel
theorem dX3_nextBridge_12 : decode cX3_nextBridge 12 = .ok (.iload 5, 2) := by decide +kernel
theorem dX3_nextBridge_14 : decode cX3_nextBridge 14 = .ok (.bipush 8, 2) := by decide +kernel
theorem dX3_nextBridge_16 : decode cX3_nextBridge 16 = .ok (.if_icmp .ge 51, 3) := by decide +kernel
theorem dX3_nextBridge_19 : decode cX3_nextBridge 19 = .ok (.iload_n 3, 1) := by decide +kernel
theorem dX3_nextBridge_20 : decode cX3_nextBridge 20 = .ok (.iload 5, 2) := by decide +kernel
theorem dX3_nextBridge_22 : decode cX3_nextBridge 22 = .ok (.invokestatic 84, 3) := by decide +kernel
theorem dX3_nextBridge_25 : decode cX3_nextBridge 25 = .ok (.ifCond .eq 36, 3) := by decide +kernel
theorem dX3_nextBridge_28 : decode cX3_nextBridge 28 = .ok (.aload_n 0, 1) := by decide +kernel
theorem dX3_nextBridge_29 : decode cX3_nextBridge 29 = .ok (.iload 5, 2) := by decide +kernel
theorem dX3_nextBridge_31 : decode cX3_nextBridge 31 = .ok (.iload_n 1, 1) := by decide +kernel
theorem dX3_nextBridge_32 : decode cX3_nextBridge 32 = .ok (.invokevirtual 128, 3) := by decide +kernel
theorem dX3_nextBridge_35 : decode cX3_nextBridge 35 = .ok (.ifCond .eq 26, 3) := by decide +kernel
theorem dX3_nextBridge_38 : decode cX3_nextBridge 38 = .ok (.aload_n 0, 1) := by decide +kernel
theorem dX3_nextBridge_39 : decode cX3_nextBridge 39 = .ok (.aload_n 0, 1) := by decide +kernel
theorem dX3_nextBridge_40 : decode cX3_nextBridge 40 = .ok (.iload 5, 2) := by decide +kernel
theorem dX3_nextBridge_42 : decode cX3_nextBridge 42 = .ok (.iload_n 1, 1) := by decide +kernel
theorem dX3_nextBridge_43 : decode cX3_nextBridge 43 = .ok (.invokevirtual 125, 3) := by decide +kernel
theorem dX3_nextBridge_46 : decode cX3_nextBridge 46 = .ok (.iload_n 2, 1) := by decide +kernel
theorem dX3_nextBridge_47 : decode cX3_nextBridge 47 = .ok (.iload_n 3, 1) := by decide +kernel
theorem dX3_nextBridge_48 : decode cX3_nextBridge 48 = .ok (.invokevirtual 118, 3) := by decide +kernel
theorem dX3_nextBridge_51 : decode cX3_nextBridge 51 = .ok (.iload 4, 2) := by decide +kernel
theorem dX3_nextBridge_53 : decode cX3_nextBridge 53 = .ok (.iconst 1, 1) := by decide +kernel
theorem dX3_nextBridge_54 : decode cX3_nextBridge 54 = .ok (.isub, 1) := by decide +kernel
theorem dX3_nextBridge_55 : decode cX3_nextBridge 55 = .ok (.if_icmp .ne 6, 3) := by decide +kernel
theorem dX3_nextBridge_58 : decode cX3_nextBridge 58 = .ok (.iload 5, 2) := by decide +kernel
theorem dX3_nextBridge_60 : decode cX3_nextBridge 60 = .ok (.ireturn, 1) := by decide +kernel
theorem dX3_nextBridge_61 : decode cX3_nextBridge 61 = .ok (.iinc 5 1, 3) := by decide +kernel
theorem dX3_nextBridge_64 : decode cX3_nextBridge 64 = .ok (.goto (-52), 3) := by decide +kernel
theorem dX3_nextBridge_67 : decode cX3_nextBridge 67 = .ok (.bipush (-6), 2) := by decide +kernel
theorem dX3_nextBridge_69 : decode cX3_nextBridge 69 = .ok (.ireturn, 1) := by decide +kernel
theorem dX3_tellIfItCanBe_0 : decode cX3_tellIfItCanBe 0 = .ok (.aload_n 0, 1) := by decide +kernel
theorem dX3_tellIfItCanBe_1 : decode cX3_tellIfItCanBe 1 = .ok (.iload_n 1, 1) := by decide +kernel
theorem dX3_tellIfItCanBe_2 : decode cX3_tellIfItCanBe 2 = .ok (.invokevirtual 131, 3) := by decide +kernel
theorem dX3_tellIfItCanBe_5 : decode cX3_tellIfItCanBe 5 = .ok (.ifCond .eq 11, 3) := by decide +kernel
theorem dX3_tellIfItCanBe_8 : decode cX3_tellIfItCanBe 8 = .ok (.aload_n 0, 1) := by decide +kernel
theorem dX3_tellIfItCanBe_9 : decode cX3_tellIfItCanBe 9 = .ok (.iload_n 2, 1) := by decide +kernel
theorem dX3_tellIfItCanBe_10 : decode cX3_tellIfItCanBe 10 = .ok (.invokevirtual 131, 3) := by decide +kernel
theorem dX3_tellIfItCanBe_13 : decode cX3_tellIfItCanBe 13 = .ok (.ifCond .ne 5, 3) := by decide +kernel
theorem dX3_tellIfItCanBe_16 : decode cX3_tellIfItCanBe 16 = .ok (.iconst 1, 1) := by decide +kernel
theorem dX3_tellIfItCanBe_17 : decode cX3_tellIfItCanBe 17 = .ok (.ireturn, 1) := by decide +kernel
theorem dX3_tellIfItCanBe_18 : decode cX3_tellIfItCanBe 18 = .ok (.iload_n 1, 1) := by decide +kernel
theorem dX3_tellIfItCanBe_19 : decode cX3_tellIfItCanBe 19 = .ok (.iload_n 2, 1) := by decide +kernel
theorem dX3_tellIfItCanBe_20 : decode cX3_tellIfItCanBe 20 = .ok (.if_icmp .eq 18, 3) := by decide +kernel
theorem dX3_tellIfItCanBe_23 : decode cX3_tellIfItCanBe 23 = .ok (.aload_n 0, 1) := by decide +kernel
theorem dX3_tellIfItCanBe_24 : decode cX3_tellIfItCanBe 24 = .ok (.getfield 24, 3) := by decide +kernel
theorem dX3_tellIfItCanBe_27 : decode cX3_tellIfItCanBe 27 = .ok (.iload_n 1, 1) := by decide +kernel
theorem dX3_tellIfItCanBe_28 : decode cX3_tellIfItCanBe 28 = .ok (.iaload, 1) := by decide +kernel
theorem dX3_tellIfItCanBe_29 : decode cX3_tellIfItCanBe 29 = .ok (.aload_n 0, 1) := by decide +kernel
theorem dX3_tellIfItCanBe_30 : decode cX3_tellIfItCanBe 30 = .ok (.getfield 24, 3) := by decide +kernel
theorem dX3_tellIfItCanBe_33 : decode cX3_tellIfItCanBe 33 = .ok (.iload_n 2, 1) := by decide +kernel
theorem dX3_tellIfItCanBe_34 : decode cX3_tellIfItCanBe 34 = .ok (.iaload, 1) := by decide +kernel
theorem dX3_tellIfItCanBe_35 : decode cX3_tellIfItCanBe 35 = .ok (.if_icmp .eq 5, 3) := by decide +kernel
theorem dX3_tellIfItCanBe_38 : decode cX3_tellIfItCanBe 38 = .ok (.iconst 2, 1) := by decide +kernel
theorem dX3_tellIfItCanBe_39 : decode cX3_tellIfItCanBe 39 = .ok (.ireturn, 1) := by decide +kernel
theorem dX3_tellIfItCanBe_40 : decode cX3_tellIfItCanBe 40 = .ok (.aload_n 0, 1) := by decide +kernel
theorem dX3_tellIfItCanBe_41 : decode cX3_tellIfItCanBe 41 = .ok (.getfield 30, 3) := by decide +kernel
theorem dX3_tellIfItCanBe_44 : decode cX3_tellIfItCanBe 44 = .ok (.iload_n 1, 1) := by decide +kernel
theorem dX3_tellIfItCanBe_45 : decode cX3_tellIfItCanBe 45 = .ok (.iaload, 1) := by decide +kernel
theorem dX3_tellIfItCanBe_46 : decode cX3_tellIfItCanBe 46 = .ok (.iload_n 3, 1) := by decide +kernel
theorem dX3_tellIfItCanBe_47 : decode cX3_tellIfItCanBe 47 = .ok (.invokestatic 84, 3) := by decide +kernel
theorem dX3_tellIfItCanBe_50 : decode cX3_tellIfItCanBe 50 = .ok (.ifCond .ne 5, 3) := by decide +kernel
theorem dX3_tellIfItCanBe_53 : decode cX3_tellIfItCanBe 53 = .ok (.iconst 3, 1) := by decide +kernel
theorem dX3_tellIfItCanBe_54 : decode cX3_tellIfItCanBe 54 = .ok (.ireturn, 1) := by decide +kernel
theorem dX3_tellIfItCanBe_55 : decode cX3_tellIfItCanBe 55 = .ok (.aload_n 0, 1) := by decide +kernel
theorem dX3_tellIfItCanBe_56 : decode cX3_tellIfItCanBe 56 = .ok (.getfield 30, 3) := by decide +kernel
theorem dX3_tellIfItCanBe_59 : decode cX3_tellIfItCanBe 59 = .ok (.iload_n 2, 1) := by decide +kernel
theorem dX3_tellIfItCanBe_60 : decode cX3_tellIfItCanBe 60 = .ok (.iaload, 1) := by decide +kernel
theorem dX3_tellIfItCanBe_61 : decode cX3_tellIfItCanBe 61 = .ok (.iload_n 3, 1) := by decide +kernel
theorem dX3_tellIfItCanBe_62 : decode cX3_tellIfItCanBe 62 = .ok (.invokestatic 84, 3) := by decide +kernel
theorem dX3_tellIfItCanBe_65 : decode cX3_tellIfItCanBe 65 = .ok (.ifCond .eq 5, 3) := by decide +kernel
theorem dX3_tellIfItCanBe_68 : decode cX3_tellIfItCanBe 68 = .ok (.iconst 4, 1) := by decide +kernel
theorem dX3_tellIfItCanBe_69 : decode cX3_tellIfItCanBe 69 = .ok (.ireturn, 1) := by decide +kernel
theorem dX3_tellIfItCanBe_70 : decode cX3_tellIfItCanBe 70 = .ok (.aload_n 0, 1) := by decide +kernel
theorem dX3_tellIfItCanBe_71 : decode cX3_tellIfItCanBe 71 = .ok (.getfield 30, 3) := by decide +kernel
theorem dX3_tellIfItCanBe_74 : decode cX3_tellIfItCanBe 74 = .ok (.iload_n 2, 1) := by decide +kernel
theorem dX3_tellIfItCanBe_75 : decode cX3_tellIfItCanBe 75 = .ok (.dup2, 1) := by decide +kernel
theorem dX3_tellIfItCanBe_76 : decode cX3_tellIfItCanBe 76 = .ok (.iaload, 1) := by decide +kernel
theorem dX3_tellIfItCanBe_77 : decode cX3_tellIfItCanBe 77 = .ok (.iconst 1, 1) := by decide +kernel
theorem dX3_tellIfItCanBe_78 : decode cX3_tellIfItCanBe 78 = .ok (.iload_n 3, 1) := by decide +kernel
theorem dX3_tellIfItCanBe_79 : decode cX3_tellIfItCanBe 79 = .ok (.ishl, 1) := by decide +kernel
theorem dX3_tellIfItCanBe_80 : decode cX3_tellIfItCanBe 80 = .ok (.ior, 1) := by decide +kernel
theorem dX3_tellIfItCanBe_81 : decode cX3_tellIfItCanBe 81 = .ok (.iastore, 1) := by decide +kernel
theorem dX3_tellIfItCanBe_82 : decode cX3_tellIfItCanBe 82 = .ok (.iconst 0, 1) := by decide +kernel
theorem dX3_tellIfItCanBe_83 : decode cX3_tellIfItCanBe 83 = .ok (.ireturn, 1) := by decide +kernel
theorem dX3_crossIfItCanBe_0 : decode cX3_crossIfItCanBe 0 = .ok (.aload_n 0, 1) := by decide +kernel
theorem dX3_crossIfItCanBe_1 : decode cX3_crossIfItCanBe 1 = .ok (.iload_n 1, 1) := by decide +kernel
theorem dX3_crossIfItCanBe_2 : decode cX3_crossIfItCanBe 2 = .ok (.invokevirtual 131, 3) := by decide +kernel
theorem dX3_crossIfItCanBe_5 : decode cX3_crossIfItCanBe 5 = .ok (.ifCond .ne 5, 3) := by decide +kernel
theorem dX3_crossIfItCanBe_8 : decode cX3_crossIfItCanBe 8 = .ok (.iconst 1, 1) := by decide +kernel
theorem dX3_crossIfItCanBe_9 : decode cX3_crossIfItCanBe 9 = .ok (.ireturn, 1) := by decide +kernel
theorem dX3_crossIfItCanBe_10 : decode cX3_crossIfItCanBe 10 = .ok (.aload_n 0, 1) := by decide +kernel
theorem dX3_crossIfItCanBe_11 : decode cX3_crossIfItCanBe 11 = .ok (.iload_n 2, 1) := by decide +kernel
theorem dX3_crossIfItCanBe_12 : decode cX3_crossIfItCanBe 12 = .ok (.invokevirtual 135, 3) := by decide +kernel
theorem dX3_crossIfItCanBe_15 : decode cX3_crossIfItCanBe 15 = .ok (.ifCond .ne 5, 3) := by decide +kernel
theorem dX3_crossIfItCanBe_18 : decode cX3_crossIfItCanBe 18 = .ok (.iconst 5, 1) := by decide +kernel
theorem dX3_crossIfItCanBe_19 : decode cX3_crossIfItCanBe 19 = .ok (.ireturn, 1) := by decide +kernel
theorem dX3_crossIfItCanBe_20 : decode cX3_crossIfItCanBe 20 = .ok (.aload_n 0, 1) := by decide +kernel
theorem dX3_crossIfItCanBe_21 : decode cX3_crossIfItCanBe 21 = .ok (.iload_n 2, 1) := by decide +kernel
theorem dX3_crossIfItCanBe_22 : decode cX3_crossIfItCanBe 22 = .ok (.aload_n 0, 1) := by decide +kernel
theorem dX3_crossIfItCanBe_23 : decode cX3_crossIfItCanBe 23 = .ok (.getfield 24, 3) := by decide +kernel
theorem dX3_crossIfItCanBe_26 : decode cX3_crossIfItCanBe 26 = .ok (.iload_n 1, 1) := by decide +kernel
theorem dX3_crossIfItCanBe_27 : decode cX3_crossIfItCanBe 27 = .ok (.iaload, 1) := by decide +kernel
theorem dX3_crossIfItCanBe_28 : decode cX3_crossIfItCanBe 28 = .ok (.invokevirtual 128, 3) := by decide +kernel
theorem dX3_crossIfItCanBe_31 : decode cX3_crossIfItCanBe 31 = .ok (.ifCond .ne 6, 3) := by decide +kernel
theorem dX3_crossIfItCanBe_34 : decode cX3_crossIfItCanBe 34 = .ok (.bipush 6, 2) := by decide +kernel
theorem dX3_crossIfItCanBe_36 : decode cX3_crossIfItCanBe 36 = .ok (.ireturn, 1) := by decide +kernel
theorem dX3_crossIfItCanBe_37 : decode cX3_crossIfItCanBe 37 = .ok (.aload_n 0, 1) := by decide +kernel
theorem dX3_crossIfItCanBe_38 : decode cX3_crossIfItCanBe 38 = .ok (.iload_n 1, 1) := by decide +kernel
theorem dX3_crossIfItCanBe_39 : decode cX3_crossIfItCanBe 39 = .ok (.invokevirtual 100, 3) := by decide +kernel
theorem dX3_crossIfItCanBe_42 : decode cX3_crossIfItCanBe 42 = .ok (.istore_n 3, 1) := by decide +kernel
theorem dX3_crossIfItCanBe_43 : decode cX3_crossIfItCanBe 43 = .ok (.iload_n 3, 1) := by decide +kernel
theorem dX3_crossIfItCanBe_44 : decode cX3_crossIfItCanBe 44 = .ok (.aload_n 0, 1) := by decide +kernel
theorem dX3_crossIfItCanBe_45 : decode cX3_crossIfItCanBe 45 = .ok (.getfield 18, 3) := by decide +kernel
theorem dX3_crossIfItCanBe_48 : decode cX3_crossIfItCanBe 48 = .ok (.iload_n 2, 1) := by decide +kernel
theorem dX3_crossIfItCanBe_49 : decode cX3_crossIfItCanBe 49 = .ok (.iaload, 1) := by decide +kernel
theorem dX3_crossIfItCanBe_50 : decode cX3_crossIfItCanBe 50 = .ok (.if_icmp .le 6, 3) := by decide +kernel
theorem dX3_crossIfItCanBe_53 : decode cX3_crossIfItCanBe 53 = .ok (.bipush 7, 2) := by decide +kernel
theorem dX3_crossIfItCanBe_55 : decode cX3_crossIfItCanBe 55 = .ok (.ireturn, 1) := by decide +kernel
theorem dX3_crossIfItCanBe_56 : decode cX3_crossIfItCanBe 56 = .ok (.aload_n 0, 1) := by decide +kernel
theorem dX3_crossIfItCanBe_57 : decode cX3_crossIfItCanBe 57 = .ok (.getfield 21, 3) := by decide +kernel
theorem dX3_crossIfItCanBe_60 : decode cX3_crossIfItCanBe 60 = .ok (.iload_n 2, 1) := by decide +kernel
theorem dX3_crossIfItCanBe_61 : decode cX3_crossIfItCanBe 61 = .ok (.aload_n 0, 1) := by decide +kernel
theorem dX3_crossIfItCanBe_62 : decode cX3_crossIfItCanBe 62 = .ok (.getfield 21, 3) := by decide +kernel
theorem dX3_crossIfItCanBe_65 : decode cX3_crossIfItCanBe 65 = .ok (.iload_n 2, 1) := by decide +kernel
theorem dX3_crossIfItCanBe_66 : decode cX3_crossIfItCanBe 66 = .ok (.iaload, 1) := by decide +kernel
theorem dX3_crossIfItCanBe_67 : decode cX3_crossIfItCanBe 67 = .ok (.iload_n 3, 1) := by decide +kernel
theorem dX3_crossIfItCanBe_68 : decode cX3_crossIfItCanBe 68 = .ok (.invokestatic 95, 3) := by decide +kernel
theorem dX3_crossIfItCanBe_71 : decode cX3_crossIfItCanBe 71 = .ok (.iastore, 1) := by decide +kernel
theorem dX3_crossIfItCanBe_72 : decode cX3_crossIfItCanBe 72 = .ok (.aload_n 0, 1) := by decide +kernel
theorem dX3_crossIfItCanBe_73 : decode cX3_crossIfItCanBe 73 = .ok (.getfield 24, 3) := by decide +kernel
theorem dX3_crossIfItCanBe_76 : decode cX3_crossIfItCanBe 76 = .ok (.iload_n 1, 1) := by decide +kernel
theorem dX3_crossIfItCanBe_77 : decode cX3_crossIfItCanBe 77 = .ok (.aload_n 0, 1) := by decide +kernel
theorem dX3_crossIfItCanBe_78 : decode cX3_crossIfItCanBe 78 = .ok (.iload_n 2, 1) := by decide +kernel
theorem dX3_crossIfItCanBe_79 : decode cX3_crossIfItCanBe 79 = .ok (.aload_n 0, 1) := by decide +kernel
theorem dX3_crossIfItCanBe_80 : decode cX3_crossIfItCanBe 80 = .ok (.getfield 24, 3) := by decide +kernel
theorem dX3_crossIfItCanBe_83 : decode cX3_crossIfItCanBe 83 = .ok (.iload_n 1, 1) := by decide +kernel
theorem dX3_crossIfItCanBe_84 : decode cX3_crossIfItCanBe 84 = .ok (.iaload, 1) := by decide +kernel
theorem dX3_crossIfItCanBe_85 : decode cX3_crossIfItCanBe 85 = .ok (.invokevirtual 125, 3) := by decide +kernel
theorem dX3_crossIfItCanBe_88 : decode cX3_crossIfItCanBe 88 = .ok (.iastore, 1) := by decide +kernel
theorem dX3_crossIfItCanBe_89 : decode cX3_crossIfItCanBe 89 = .ok (.iconst 0, 1) := by decide +kernel
theorem dX3_crossIfItCanBe_90 : decode cX3_crossIfItCanBe 90 = .ok (.ireturn, 1) := by decide +kernel
theorem dX3_publishIfItCanBe_0 : decode cX3_publishIfItCanBe 0 = .ok (.aload_n 0, 1) := by decide +kernel
theorem dX3_publishIfItCanBe_1 : decode cX3_publishIfItCanBe 1 = .ok (.getfield 65, 3) := by decide +kernel
theorem dX3_publishIfItCanBe_4 : decode cX3_publishIfItCanBe 4 = .ok (.iload_n 1, 1) := by decide +kernel
theorem dX3_publishIfItCanBe_5 : decode cX3_publishIfItCanBe 5 = .ok (.invokestatic 84, 3) := by decide +kernel
theorem dX3_publishIfItCanBe_8 : decode cX3_publishIfItCanBe 8 = .ok (.ifCond .eq 6, 3) := by decide +kernel
theorem dX3_publishIfItCanBe_11 : decode cX3_publishIfItCanBe 11 = .ok (.bipush 8, 2) := by decide +kernel
theorem dX3_publishIfItCanBe_13 : decode cX3_publishIfItCanBe 13 = .ok (.ireturn, 1) := by decide +kernel
theorem dX3_publishIfItCanBe_14 : decode cX3_publishIfItCanBe 14 = .ok (.aload_n 0, 1) := by decide +kernel
theorem dX3_publishIfItCanBe_15 : decode cX3_publishIfItCanBe 15 = .ok (.dup, 1) := by decide +kernel
theorem dX3_publishIfItCanBe_16 : decode cX3_publishIfItCanBe 16 = .ok (.getfield 65, 3) := by decide +kernel
theorem dX3_publishIfItCanBe_19 : decode cX3_publishIfItCanBe 19 = .ok (.iconst 1, 1) := by decide +kernel
theorem dX3_publishIfItCanBe_20 : decode cX3_publishIfItCanBe 20 = .ok (.iload_n 1, 1) := by decide +kernel
theorem dX3_publishIfItCanBe_21 : decode cX3_publishIfItCanBe 21 = .ok (.ishl, 1) := by decide +kernel
theorem dX3_publishIfItCanBe_22 : decode cX3_publishIfItCanBe 22 = .ok (.ior, 1) := by decide +kernel
theorem dX3_publishIfItCanBe_23 : decode cX3_publishIfItCanBe 23 = .ok (.putfield 65, 3) := by decide +kernel
theorem dX3_publishIfItCanBe_26 : decode cX3_publishIfItCanBe 26 = .ok (.iconst 0, 1) := by decide +kernel
theorem dX3_publishIfItCanBe_27 : decode cX3_publishIfItCanBe 27 = .ok (.ireturn, 1) := by decide +kernel
theorem dX3_passNight_0 : decode cX3_passNight 0 = .ok (.iconst 0, 1) := by decide +kernel
theorem dX3_passNight_1 : decode cX3_passNight 1 = .ok (.istore_n 1, 1) := by decide +kernel
theorem dX3_passNight_2 : decode cX3_passNight 2 = .ok (.iload_n 1, 1) := by decide +kernel
theorem dX3_passNight_3 : decode cX3_passNight 3 = .ok (.bipush 8, 2) := by decide +kernel
theorem dX3_passNight_5 : decode cX3_passNight 5 = .ok (.if_icmp .ge 39, 3) := by decide +kernel
theorem dX3_passNight_8 : decode cX3_passNight 8 = .ok (.aload_n 0, 1) := by decide +kernel
theorem dX3_passNight_9 : decode cX3_passNight 9 = .ok (.getfield 33, 3) := by decide +kernel
theorem dX3_passNight_12 : decode cX3_passNight 12 = .ok (.iload_n 1, 1) := by decide +kernel
theorem dX3_passNight_13 : decode cX3_passNight 13 = .ok (.iaload, 1) := by decide +kernel
theorem dX3_passNight_14 : decode cX3_passNight 14 = .ok (.ifCond .le 24, 3) := by decide +kernel
theorem dX3_passNight_17 : decode cX3_passNight 17 = .ok (.aload_n 0, 1) := by decide +kernel
theorem dX3_passNight_18 : decode cX3_passNight 18 = .ok (.getfield 33, 3) := by decide +kernel
theorem dX3_passNight_21 : decode cX3_passNight 21 = .ok (.iload_n 1, 1) := by decide +kernel
theorem dX3_passNight_22 : decode cX3_passNight 22 = .ok (.iconst 0, 1) := by decide +kernel
theorem dX3_passNight_23 : decode cX3_passNight 23 = .ok (.aload_n 0, 1) := by decide +kernel
theorem dX3_passNight_24 : decode cX3_passNight 24 = .ok (.getfield 33, 3) := by decide +kernel
theorem dX3_passNight_27 : decode cX3_passNight 27 = .ok (.iload_n 1, 1) := by decide +kernel
theorem dX3_passNight_28 : decode cX3_passNight 28 = .ok (.iaload, 1) := by decide +kernel
theorem dX3_passNight_29 : decode cX3_passNight 29 = .ok (.aload_n 0, 1) := by decide +kernel
theorem dX3_passNight_30 : decode cX3_passNight 30 = .ok (.getfield 45, 3) := by decide +kernel
theorem dX3_passNight_33 : decode cX3_passNight 33 = .ok (.isub, 1) := by decide +kernel
theorem dX3_passNight_34 : decode cX3_passNight 34 = .ok (.invokestatic 95, 3) := by decide +kernel
theorem dX3_passNight_37 : decode cX3_passNight 37 = .ok (.iastore, 1) := by decide +kernel
theorem dX3_passNight_38 : decode cX3_passNight 38 = .ok (.iinc 1 1, 3) := by decide +kernel
theorem dX3_passNight_41 : decode cX3_passNight 41 = .ok (.goto (-39), 3) := by decide +kernel
theorem dX3_passNight_44 : decode cX3_passNight 44 = .ok (.return_, 1) := by decide +kernel
theorem dX3_hearers_0 : decode cX3_hearers 0 = .ok (.iconst 0, 1) := by decide +kernel
theorem dX3_hearers_1 : decode cX3_hearers 1 = .ok (.istore_n 2, 1) := by decide +kernel
theorem dX3_hearers_2 : decode cX3_hearers 2 = .ok (.iconst 0, 1) := by decide +kernel
theorem dX3_hearers_3 : decode cX3_hearers 3 = .ok (.istore_n 3, 1) := by decide +kernel
theorem dX3_hearers_4 : decode cX3_hearers 4 = .ok (.iload_n 3, 1) := by decide +kernel
theorem dX3_hearers_5 : decode cX3_hearers 5 = .ok (.bipush 6, 2) := by decide +kernel
theorem dX3_hearers_7 : decode cX3_hearers 7 = .ok (.if_icmp .ge 44, 3) := by decide +kernel
theorem dX3_hearers_10 : decode cX3_hearers 10 = .ok (.aload_n 0, 1) := by decide +kernel
theorem dX3_hearers_11 : decode cX3_hearers 11 = .ok (.getfield 30, 3) := by decide +kernel
theorem dX3_hearers_14 : decode cX3_hearers 14 = .ok (.iload_n 3, 1) := by decide +kernel
theorem dX3_hearers_15 : decode cX3_hearers 15 = .ok (.iaload, 1) := by decide +kernel
theorem dX3_hearers_16 : decode cX3_hearers 16 = .ok (.iload_n 1, 1) := by decide +kernel
theorem dX3_hearers_17 : decode cX3_hearers 17 = .ok (.invokestatic 84, 3) := by decide +kernel
theorem dX3_hearers_20 : decode cX3_hearers 20 = .ok (.ifCond .eq 25, 3) := by decide +kernel
theorem dX3_hearers_23 : decode cX3_hearers 23 = .ok (.iload_n 2, 1) := by decide +kernel
theorem dX3_hearers_24 : decode cX3_hearers 24 = .ok (.aload_n 0, 1) := by decide +kernel
theorem dX3_hearers_25 : decode cX3_hearers 25 = .ok (.aload_n 0, 1) := by decide +kernel
theorem dX3_hearers_26 : decode cX3_hearers 26 = .ok (.getfield 24, 3) := by decide +kernel
theorem dX3_hearers_29 : decode cX3_hearers 29 = .ok (.iload_n 3, 1) := by decide +kernel
theorem dX3_hearers_30 : decode cX3_hearers 30 = .ok (.iaload, 1) := by decide +kernel
theorem dX3_hearers_31 : decode cX3_hearers 31 = .ok (.aload_n 0, 1) := by decide +kernel
theorem dX3_hearers_32 : decode cX3_hearers 32 = .ok (.aload_n 0, 1) := by decide +kernel
theorem dX3_hearers_33 : decode cX3_hearers 33 = .ok (.iload_n 3, 1) := by decide +kernel
theorem dX3_hearers_34 : decode cX3_hearers 34 = .ok (.invokevirtual 100, 3) := by decide +kernel
theorem dX3_hearers_37 : decode cX3_hearers 37 = .ok (.invokevirtual 115, 3) := by decide +kernel
theorem dX3_hearers_40 : decode cX3_hearers 40 = .ok (.invokevirtual 138, 3) := by decide +kernel
theorem dX3_hearers_43 : decode cX3_hearers 43 = .ok (.ior, 1) := by decide +kernel
theorem dX3_hearers_44 : decode cX3_hearers 44 = .ok (.istore_n 2, 1) := by decide +kernel
theorem dX3_hearers_45 : decode cX3_hearers 45 = .ok (.iinc 3 1, 3) := by decide +kernel
theorem dX3_hearers_48 : decode cX3_hearers 48 = .ok (.goto (-44), 3) := by decide +kernel
theorem dX3_hearers_51 : decode cX3_hearers 51 = .ok (.iload_n 2, 1) := by decide +kernel
theorem dX3_hearers_52 : decode cX3_hearers 52 = .ok (.aload_n 0, 1) := by decide +kernel
theorem dX3_hearers_53 : decode cX3_hearers 53 = .ok (.iload_n 1, 1) := by decide +kernel
theorem dX3_hearers_54 : decode cX3_hearers 54 = .ok (.invokevirtual 104, 3) := by decide +kernel
theorem dX3_hearers_57 : decode cX3_hearers 57 = .ok (.iconst (-1), 1) := by decide +kernel
theorem dX3_hearers_58 : decode cX3_hearers 58 = .ok (.ixor, 1) := by decide +kernel
theorem dX3_hearers_59 : decode cX3_hearers 59 = .ok (.iand, 1) := by decide +kernel
theorem dX3_hearers_60 : decode cX3_hearers 60 = .ok (.ireturn, 1) := by decide +kernel
theorem dX3_neighbours_0 : decode cX3_neighbours 0 = .ok (.iconst 0, 1) := by decide +kernel
theorem dX3_neighbours_1 : decode cX3_neighbours 1 = .ok (.istore_n 3, 1) := by decide +kernel
theorem dX3_neighbours_2 : decode cX3_neighbours 2 = .ok (.iconst 0, 1) := by decide +kernel
theorem dX3_neighbours_3 : decode cX3_neighbours 3 = .ok (.istore 4, 2) := by decide +kernel
theorem dX3_neighbours_5 : decode cX3_neighbours 5 = .ok (.iload 4, 2) := by decide +kernel
theorem dX3_neighbours_7 : decode cX3_neighbours 7 = .ok (.bipush 6, 2) := by decide +kernel
theorem dX3_neighbours_9 : decode cX3_neighbours 9 = .ok (.if_icmp .ge 46, 3) := by decide +kernel
theorem dX3_neighbours_12 : decode cX3_neighbours 12 = .ok (.aload_n 0, 1) := by decide +kernel
theorem dX3_neighbours_13 : decode cX3_neighbours 13 = .ok (.getfield 59, 3) := by decide +kernel
theorem dX3_neighbours_16 : decode cX3_neighbours 16 = .ok (.iload 4, 2) := by decide +kernel
theorem dX3_neighbours_18 : decode cX3_neighbours 18 = .ok (.invokestatic 84, 3) := by decide +kernel
theorem dX3_neighbours_21 : decode cX3_neighbours 21 = .ok (.ifCond .eq 28, 3) := by decide +kernel
theorem dX3_neighbours_24 : decode cX3_neighbours 24 = .ok (.aload_n 0, 1) := by decide +kernel
theorem dX3_neighbours_25 : decode cX3_neighbours 25 = .ok (.iload_n 1, 1) := by decide +kernel
theorem dX3_neighbours_26 : decode cX3_neighbours 26 = .ok (.aload_n 0, 1) := by decide +kernel
theorem dX3_neighbours_27 : decode cX3_neighbours 27 = .ok (.getfield 24, 3) := by decide +kernel
theorem dX3_neighbours_30 : decode cX3_neighbours 30 = .ok (.iload 4, 2) := by decide +kernel
theorem dX3_neighbours_32 : decode cX3_neighbours 32 = .ok (.iaload, 1) := by decide +kernel
theorem dX3_neighbours_33 : decode cX3_neighbours 33 = .ok (.iload_n 2, 1) := by decide +kernel
theorem dX3_neighbours_34 : decode cX3_neighbours 34 = .ok (.invokevirtual 118, 3) := by decide +kernel
theorem dX3_neighbours_37 : decode cX3_neighbours 37 = .ok (.bipush (-6), 2) := by decide +kernel
theorem dX3_neighbours_39 : decode cX3_neighbours 39 = .ok (.if_icmp .eq 10, 3) := by decide +kernel
theorem dX3_neighbours_42 : decode cX3_neighbours 42 = .ok (.iload_n 3, 1) := by decide +kernel
theorem dX3_neighbours_43 : decode cX3_neighbours 43 = .ok (.iconst 1, 1) := by decide +kernel
theorem dX3_neighbours_44 : decode cX3_neighbours 44 = .ok (.iload 4, 2) := by decide +kernel
theorem dX3_neighbours_46 : decode cX3_neighbours 46 = .ok (.ishl, 1) := by decide +kernel
theorem dX3_neighbours_47 : decode cX3_neighbours 47 = .ok (.ior, 1) := by decide +kernel
theorem dX3_neighbours_48 : decode cX3_neighbours 48 = .ok (.istore_n 3, 1) := by decide +kernel
theorem dX3_neighbours_49 : decode cX3_neighbours 49 = .ok (.iinc 4 1, 3) := by decide +kernel
theorem dX3_neighbours_52 : decode cX3_neighbours 52 = .ok (.goto (-47), 3) := by decide +kernel
theorem dX3_neighbours_55 : decode cX3_neighbours 55 = .ok (.iload_n 3, 1) := by decide +kernel
theorem dX3_neighbours_56 : decode cX3_neighbours 56 = .ok (.ireturn, 1) := by decide +kernel
theorem dX3_tellAll_0 : decode cX3_tellAll 0 = .ok (.iconst 0, 1) := by decide +kernel
theorem dX3_tellAll_1 : decode cX3_tellAll 1 = .ok (.istore_n 3, 1) := by decide +kernel
theorem dX3_tellAll_2 : decode cX3_tellAll 2 = .ok (.iload_n 3, 1) := by decide +kernel
theorem dX3_tellAll_3 : decode cX3_tellAll 3 = .ok (.bipush 6, 2) := by decide +kernel
theorem dX3_tellAll_5 : decode cX3_tellAll 5 = .ok (.if_icmp .ge 27, 3) := by decide +kernel
theorem dX3_tellAll_8 : decode cX3_tellAll 8 = .ok (.iload_n 1, 1) := by decide +kernel
theorem dX3_tellAll_9 : decode cX3_tellAll 9 = .ok (.iload_n 3, 1) := by decide +kernel
theorem dX3_tellAll_10 : decode cX3_tellAll 10 = .ok (.invokestatic 84, 3) := by decide +kernel
theorem dX3_tellAll_13 : decode cX3_tellAll 13 = .ok (.ifCond .eq 13, 3) := by decide +kernel
theorem dX3_tellAll_16 : decode cX3_tellAll 16 = .ok (.aload_n 0, 1) := by decide +kernel
theorem dX3_tellAll_17 : decode cX3_tellAll 17 = .ok (.getfield 30, 3) := by decide +kernel
theorem dX3_tellAll_20 : decode cX3_tellAll 20 = .ok (.iload_n 3, 1) := by decide +kernel
theorem dX3_tellAll_21 : decode cX3_tellAll 21 = .ok (.dup2, 1) := by decide +kernel
theorem dX3_tellAll_22 : decode cX3_tellAll 22 = .ok (.iaload, 1) := by decide +kernel
theorem dX3_tellAll_23 : decode cX3_tellAll 23 = .ok (.iload_n 2, 1) := by decide +kernel
theorem dX3_tellAll_24 : decode cX3_tellAll 24 = .ok (.ior, 1) := by decide +kernel
theorem dX3_tellAll_25 : decode cX3_tellAll 25 = .ok (.iastore, 1) := by decide +kernel
theorem dX3_tellAll_26 : decode cX3_tellAll 26 = .ok (.iinc 3 1, 3) := by decide +kernel
theorem dX3_tellAll_29 : decode cX3_tellAll 29 = .ok (.goto (-27), 3) := by decide +kernel
theorem dX3_tellAll_32 : decode cX3_tellAll 32 = .ok (.return_, 1) := by decide +kernel
theorem dX3_arrive_0 : decode cX3_arrive 0 = .ok (.aload_n 0, 1) := by decide +kernel
theorem dX3_arrive_1 : decode cX3_arrive 1 = .ok (.getfield 24, 3) := by decide +kernel
theorem dX3_arrive_4 : decode cX3_arrive 4 = .ok (.iload_n 1, 1) := by decide +kernel
theorem dX3_arrive_5 : decode cX3_arrive 5 = .ok (.iload_n 2, 1) := by decide +kernel
theorem dX3_arrive_6 : decode cX3_arrive 6 = .ok (.iastore, 1) := by decide +kernel
theorem dX3_arrive_7 : decode cX3_arrive 7 = .ok (.aload_n 0, 1) := by decide +kernel
theorem dX3_arrive_8 : decode cX3_arrive 8 = .ok (.aload_n 0, 1) := by decide +kernel
theorem dX3_arrive_9 : decode cX3_arrive 9 = .ok (.iload_n 2, 1) := by decide +kernel
theorem dX3_arrive_10 : decode cX3_arrive 10 = .ok (.iconst 0, 1) := by decide +kernel
theorem dX3_arrive_11 : decode cX3_arrive 11 = .ok (.invokevirtual 138, 3) := by decide +kernel
theorem dX3_arrive_14 : decode cX3_arrive 14 = .ok (.aload_n 0, 1) := by decide +kernel
theorem dX3_arrive_15 : decode cX3_arrive 15 = .ok (.getfield 30, 3) := by decide +kernel
theorem dX3_arrive_18 : decode cX3_arrive 18 = .ok (.iload_n 1, 1) := by decide +kernel
theorem dX3_arrive_19 : decode cX3_arrive 19 = .ok (.iaload, 1) := by decide +kernel
theorem dX3_arrive_20 : decode cX3_arrive 20 = .ok (.invokevirtual 141, 3) := by decide +kernel
theorem dX3_arrive_23 : decode cX3_arrive 23 = .ok (.return_, 1) := by decide +kernel
theorem dJ6_bitCount_0f7a4_0 : decode cJ6_bitCount_0f7a4 0 = .ok (.iload_n 0, 1) := by decide +kernel
theorem dJ6_bitCount_0f7a4_1 : decode cJ6_bitCount_0f7a4 1 = .ok (.iload_n 0, 1) := by decide +kernel
theorem dJ6_bitCount_0f7a4_2 : decode cJ6_bitCount_0f7a4 2 = .ok (.iconst 1, 1) := by decide +kernel
theorem dJ6_bitCount_0f7a4_3 : decode cJ6_bitCount_0f7a4 3 = .ok (.iushr, 1) := by decide +kernel
theorem dJ6_bitCount_0f7a4_4 : decode cJ6_bitCount_0f7a4 4 = .ok (.ldc_w 265, 3) := by decide +kernel
theorem dJ6_bitCount_0f7a4_7 : decode cJ6_bitCount_0f7a4 7 = .ok (.iand, 1) := by decide +kernel
theorem dJ6_bitCount_0f7a4_8 : decode cJ6_bitCount_0f7a4 8 = .ok (.isub, 1) := by decide +kernel
theorem dJ6_bitCount_0f7a4_9 : decode cJ6_bitCount_0f7a4 9 = .ok (.istore_n 0, 1) := by decide +kernel
theorem dJ6_bitCount_0f7a4_10 : decode cJ6_bitCount_0f7a4 10 = .ok (.iload_n 0, 1) := by decide +kernel
theorem dJ6_bitCount_0f7a4_11 : decode cJ6_bitCount_0f7a4 11 = .ok (.ldc_w 266, 3) := by decide +kernel
theorem dJ6_bitCount_0f7a4_14 : decode cJ6_bitCount_0f7a4 14 = .ok (.iand, 1) := by decide +kernel
theorem dJ6_bitCount_0f7a4_15 : decode cJ6_bitCount_0f7a4 15 = .ok (.iload_n 0, 1) := by decide +kernel
theorem dJ6_bitCount_0f7a4_16 : decode cJ6_bitCount_0f7a4 16 = .ok (.iconst 2, 1) := by decide +kernel
theorem dJ6_bitCount_0f7a4_17 : decode cJ6_bitCount_0f7a4 17 = .ok (.iushr, 1) := by decide +kernel
theorem dJ6_bitCount_0f7a4_18 : decode cJ6_bitCount_0f7a4 18 = .ok (.ldc_w 266, 3) := by decide +kernel
theorem dJ6_bitCount_0f7a4_21 : decode cJ6_bitCount_0f7a4 21 = .ok (.iand, 1) := by decide +kernel
theorem dJ6_bitCount_0f7a4_22 : decode cJ6_bitCount_0f7a4 22 = .ok (.iadd, 1) := by decide +kernel
theorem dJ6_bitCount_0f7a4_23 : decode cJ6_bitCount_0f7a4 23 = .ok (.istore_n 0, 1) := by decide +kernel
theorem dJ6_bitCount_0f7a4_24 : decode cJ6_bitCount_0f7a4 24 = .ok (.iload_n 0, 1) := by decide +kernel
theorem dJ6_bitCount_0f7a4_25 : decode cJ6_bitCount_0f7a4 25 = .ok (.iload_n 0, 1) := by decide +kernel
theorem dJ6_bitCount_0f7a4_26 : decode cJ6_bitCount_0f7a4 26 = .ok (.iconst 4, 1) := by decide +kernel
theorem dJ6_bitCount_0f7a4_27 : decode cJ6_bitCount_0f7a4 27 = .ok (.iushr, 1) := by decide +kernel
theorem dJ6_bitCount_0f7a4_28 : decode cJ6_bitCount_0f7a4 28 = .ok (.iadd, 1) := by decide +kernel
theorem dJ6_bitCount_0f7a4_29 : decode cJ6_bitCount_0f7a4 29 = .ok (.ldc_w 267, 3) := by decide +kernel
theorem dJ6_bitCount_0f7a4_32 : decode cJ6_bitCount_0f7a4 32 = .ok (.iand, 1) := by decide +kernel
theorem dJ6_bitCount_0f7a4_33 : decode cJ6_bitCount_0f7a4 33 = .ok (.istore_n 0, 1) := by decide +kernel
theorem dJ6_bitCount_0f7a4_34 : decode cJ6_bitCount_0f7a4 34 = .ok (.iload_n 0, 1) := by decide +kernel
theorem dJ6_bitCount_0f7a4_35 : decode cJ6_bitCount_0f7a4 35 = .ok (.iload_n 0, 1) := by decide +kernel
theorem dJ6_bitCount_0f7a4_36 : decode cJ6_bitCount_0f7a4 36 = .ok (.bipush 8, 2) := by decide +kernel
theorem dJ6_bitCount_0f7a4_38 : decode cJ6_bitCount_0f7a4 38 = .ok (.iushr, 1) := by decide +kernel
theorem dJ6_bitCount_0f7a4_39 : decode cJ6_bitCount_0f7a4 39 = .ok (.iadd, 1) := by decide +kernel
theorem dJ6_bitCount_0f7a4_40 : decode cJ6_bitCount_0f7a4 40 = .ok (.istore_n 0, 1) := by decide +kernel
theorem dJ6_bitCount_0f7a4_41 : decode cJ6_bitCount_0f7a4 41 = .ok (.iload_n 0, 1) := by decide +kernel
theorem dJ6_bitCount_0f7a4_42 : decode cJ6_bitCount_0f7a4 42 = .ok (.iload_n 0, 1) := by decide +kernel
theorem dJ6_bitCount_0f7a4_43 : decode cJ6_bitCount_0f7a4 43 = .ok (.bipush 16, 2) := by decide +kernel
theorem dJ6_bitCount_0f7a4_45 : decode cJ6_bitCount_0f7a4 45 = .ok (.iushr, 1) := by decide +kernel
theorem dJ6_bitCount_0f7a4_46 : decode cJ6_bitCount_0f7a4 46 = .ok (.iadd, 1) := by decide +kernel
theorem dJ6_bitCount_0f7a4_47 : decode cJ6_bitCount_0f7a4 47 = .ok (.istore_n 0, 1) := by decide +kernel
theorem dJ6_bitCount_0f7a4_48 : decode cJ6_bitCount_0f7a4 48 = .ok (.iload_n 0, 1) := by decide +kernel
theorem dJ6_bitCount_0f7a4_49 : decode cJ6_bitCount_0f7a4 49 = .ok (.bipush 63, 2) := by decide +kernel
theorem dJ6_bitCount_0f7a4_51 : decode cJ6_bitCount_0f7a4 51 = .ok (.iand, 1) := by decide +kernel
theorem dJ6_bitCount_0f7a4_52 : decode cJ6_bitCount_0f7a4 52 = .ok (.ireturn, 1) := by decide +kernel
theorem dJ9_floorDiv_7cf53_0 : decode cJ9_floorDiv_7cf53 0 = .ok (.iload_n 0, 1) := by decide +kernel
theorem dJ9_floorDiv_7cf53_1 : decode cJ9_floorDiv_7cf53 1 = .ok (.iload_n 1, 1) := by decide +kernel
theorem dJ9_floorDiv_7cf53_2 : decode cJ9_floorDiv_7cf53 2 = .ok (.idiv, 1) := by decide +kernel
theorem dJ9_floorDiv_7cf53_3 : decode cJ9_floorDiv_7cf53 3 = .ok (.istore_n 2, 1) := by decide +kernel
theorem dJ9_floorDiv_7cf53_4 : decode cJ9_floorDiv_7cf53 4 = .ok (.iload_n 0, 1) := by decide +kernel
theorem dJ9_floorDiv_7cf53_5 : decode cJ9_floorDiv_7cf53 5 = .ok (.iload_n 1, 1) := by decide +kernel
theorem dJ9_floorDiv_7cf53_6 : decode cJ9_floorDiv_7cf53 6 = .ok (.ixor, 1) := by decide +kernel
theorem dJ9_floorDiv_7cf53_7 : decode cJ9_floorDiv_7cf53 7 = .ok (.ifCond .ge 14, 3) := by decide +kernel
theorem dJ9_floorDiv_7cf53_10 : decode cJ9_floorDiv_7cf53 10 = .ok (.iload_n 2, 1) := by decide +kernel
theorem dJ9_floorDiv_7cf53_11 : decode cJ9_floorDiv_7cf53 11 = .ok (.iload_n 1, 1) := by decide +kernel
theorem dJ9_floorDiv_7cf53_12 : decode cJ9_floorDiv_7cf53 12 = .ok (.imul, 1) := by decide +kernel
theorem dJ9_floorDiv_7cf53_13 : decode cJ9_floorDiv_7cf53 13 = .ok (.iload_n 0, 1) := by decide +kernel
theorem dJ9_floorDiv_7cf53_14 : decode cJ9_floorDiv_7cf53 14 = .ok (.if_icmp .eq 7, 3) := by decide +kernel
theorem dJ9_floorDiv_7cf53_17 : decode cJ9_floorDiv_7cf53 17 = .ok (.iload_n 2, 1) := by decide +kernel
theorem dJ9_floorDiv_7cf53_18 : decode cJ9_floorDiv_7cf53 18 = .ok (.iconst 1, 1) := by decide +kernel
theorem dJ9_floorDiv_7cf53_19 : decode cJ9_floorDiv_7cf53 19 = .ok (.isub, 1) := by decide +kernel
theorem dJ9_floorDiv_7cf53_20 : decode cJ9_floorDiv_7cf53 20 = .ok (.ireturn, 1) := by decide +kernel
theorem dJ9_floorDiv_7cf53_21 : decode cJ9_floorDiv_7cf53 21 = .ok (.iload_n 2, 1) := by decide +kernel
theorem dJ9_floorDiv_7cf53_22 : decode cJ9_floorDiv_7cf53 22 = .ok (.ireturn, 1) := by decide +kernel
theorem dJ9_max_7cf53_0 : decode cJ9_max_7cf53 0 = .ok (.iload_n 0, 1) := by decide +kernel
theorem dJ9_max_7cf53_1 : decode cJ9_max_7cf53 1 = .ok (.iload_n 1, 1) := by decide +kernel
theorem dJ9_max_7cf53_2 : decode cJ9_max_7cf53 2 = .ok (.if_icmp .lt 7, 3) := by decide +kernel
theorem dJ9_max_7cf53_5 : decode cJ9_max_7cf53 5 = .ok (.iload_n 0, 1) := by decide +kernel
theorem dJ9_max_7cf53_6 : decode cJ9_max_7cf53 6 = .ok (.goto 4, 3) := by decide +kernel
theorem dJ9_max_7cf53_9 : decode cJ9_max_7cf53 9 = .ok (.iload_n 1, 1) := by decide +kernel
theorem dJ9_max_7cf53_10 : decode cJ9_max_7cf53 10 = .ok (.ireturn, 1) := by decide +kernel
theorem dJ9_max_f86c9_0 : decode cJ9_max_f86c9 0 = .ok (.lload_n 0, 1) := by decide +kernel
theorem dJ9_max_f86c9_1 : decode cJ9_max_f86c9 1 = .ok (.lload_n 2, 1) := by decide +kernel
theorem dJ9_max_f86c9_2 : decode cJ9_max_f86c9 2 = .ok (.lcmp, 1) := by decide +kernel
theorem dJ9_max_f86c9_3 : decode cJ9_max_f86c9 3 = .ok (.ifCond .lt 7, 3) := by decide +kernel
theorem dJ9_max_f86c9_6 : decode cJ9_max_f86c9 6 = .ok (.lload_n 0, 1) := by decide +kernel
theorem dJ9_max_f86c9_7 : decode cJ9_max_f86c9 7 = .ok (.goto 4, 3) := by decide +kernel
theorem dJ9_max_f86c9_10 : decode cJ9_max_f86c9 10 = .ok (.lload_n 2, 1) := by decide +kernel
theorem dJ9_max_f86c9_11 : decode cJ9_max_f86c9 11 = .ok (.lreturn, 1) := by decide +kernel
theorem dJ9_min_7cf53_0 : decode cJ9_min_7cf53 0 = .ok (.iload_n 0, 1) := by decide +kernel
theorem dJ9_min_7cf53_1 : decode cJ9_min_7cf53 1 = .ok (.iload_n 1, 1) := by decide +kernel
theorem dJ9_min_7cf53_2 : decode cJ9_min_7cf53 2 = .ok (.if_icmp .gt 7, 3) := by decide +kernel
theorem dJ9_min_7cf53_5 : decode cJ9_min_7cf53 5 = .ok (.iload_n 0, 1) := by decide +kernel
theorem dJ9_min_7cf53_6 : decode cJ9_min_7cf53 6 = .ok (.goto 4, 3) := by decide +kernel
theorem dJ9_min_7cf53_9 : decode cJ9_min_7cf53 9 = .ok (.iload_n 1, 1) := by decide +kernel
theorem dJ9_min_7cf53_10 : decode cJ9_min_7cf53 10 = .ok (.ireturn, 1) := by decide +kernel
theorem dJ7_fill_53178_0 : decode cJ7_fill_53178 0 = .ok (.iconst 0, 1) := by decide +kernel
theorem dJ7_fill_53178_1 : decode cJ7_fill_53178 1 = .ok (.istore_n 2, 1) := by decide +kernel
theorem dJ7_fill_53178_2 : decode cJ7_fill_53178 2 = .ok (.aload_n 0, 1) := by decide +kernel
theorem dJ7_fill_53178_3 : decode cJ7_fill_53178 3 = .ok (.arraylength, 1) := by decide +kernel
theorem dJ7_fill_53178_4 : decode cJ7_fill_53178 4 = .ok (.istore_n 3, 1) := by decide +kernel
theorem dJ7_fill_53178_5 : decode cJ7_fill_53178 5 = .ok (.iload_n 2, 1) := by decide +kernel
theorem dJ7_fill_53178_6 : decode cJ7_fill_53178 6 = .ok (.iload_n 3, 1) := by decide +kernel
theorem dJ7_fill_53178_7 : decode cJ7_fill_53178 7 = .ok (.if_icmp .ge 13, 3) := by decide +kernel
theorem dJ7_fill_53178_10 : decode cJ7_fill_53178 10 = .ok (.aload_n 0, 1) := by decide +kernel
theorem dJ7_fill_53178_11 : decode cJ7_fill_53178 11 = .ok (.iload_n 2, 1) := by decide +kernel
theorem dJ7_fill_53178_12 : decode cJ7_fill_53178 12 = .ok (.iload_n 1, 1) := by decide +kernel
theorem dJ7_fill_53178_13 : decode cJ7_fill_53178 13 = .ok (.iastore, 1) := by decide +kernel
theorem dJ7_fill_53178_14 : decode cJ7_fill_53178 14 = .ok (.iinc 2 1, 3) := by decide +kernel
theorem dJ7_fill_53178_17 : decode cJ7_fill_53178 17 = .ok (.goto (-12), 3) := by decide +kernel
theorem dJ7_fill_53178_20 : decode cJ7_fill_53178 20 = .ok (.return_, 1) := by decide +kernel
end
section
theorem kac : Cond.native arraycopyName ∈ tb ∧ Cond.static arraycopyName ∈ tb ∧ Cond.initialized "java/lang/System" ∈ tb := ⟨tb_m 348 (by decide +kernel) (by decide +kernel), tb_m 347 (by decide +kernel) (by decide +kernel), tb_m 61 (by decide +kernel) (by decide +kernel)⟩
theorem kmac_X3_74 : Cond.methodLink RX3 74 arraycopyName ∈ tb := tb_m 346 (by decide +kernel) (by decide +kernel)
theorem kmac_X4_285 : Cond.methodLink RX4 285 arraycopyName ∈ tb := tb_m 518 (by decide +kernel) (by decide +kernel)
/-! THE ENGINE: Ctr, a method's contract over a whole world; G, a frame of the method in such a world; a rule an instruction -/
abbrev gE : Type := (Nat → ClassId) × (Nat → Nat → Nat) × ClassId × ClassId × ClassId
abbrev gT (D : gE) : List (ClassId × FieldType) := [(D.2.2.1, .int), (D.2.2.2.1, .boolean), (D.2.2.2.2, .object RX3)]
/-- what stays as it is: classes and array classes, the array over Town, the nest's links -/
def gB (D : gE) (U : State) : Prop := va_K (D.1, D.2.1) vwCl (gT D) U ∧ va_AO RX3 U ∧ va_Nw (.methodLinkNest RX1 21 yX4_has RX4) U ∧ va_Nw (.methodLinkNest RX1 25 yX4_within RX4) U ∧ va_Nw (.methodLinkNest RX2 19 yX4_within RX4) U ∧ va_Nw (.methodLinkNest RX3 80 yX4_within RX4) U ∧ va_Nw (.methodLinkNest RX3 84 yX4_has RX4) U
theorem gB.warm {D : gE} {s U : State} (hW : s.WarmedH U.vm) (h : gB D s) : gB D U := ⟨va_K.moved hW.alike h.1, h.2.1.moved hW.alike, va_Nw.warmM hW h.2.2.1, va_Nw.warmM hW h.2.2.2.1, va_Nw.warmM hW h.2.2.2.2.1, va_Nw.warmM hW h.2.2.2.2.2.1, va_Nw.warmM hW h.2.2.2.2.2.2⟩
theorem gB.same {D : gE} {u U : State} (hv : u.vm = U.vm) (h : gB D u) : gB D U := ⟨va_K.moved (by rw [hv]; exact Vm.Alike.refl U.vm) h.1, h.2.1.moved (by rw [hv]; exact Vm.Alike.refl U.vm), va_Nw.same rfl hv h.2.2.1, va_Nw.same rfl hv h.2.2.2.1, va_Nw.same rfl hv h.2.2.2.2.1, va_Nw.same rfl hv h.2.2.2.2.2.1, va_Nw.same rfl hv h.2.2.2.2.2.2⟩
def gPc (D : gE) (av : List Value) (sz : Nat) (ws : va_W) : Array Value → State → Prop := va_Pc av (fun U => U.heap.size = sz ∧ va_P (D.1, D.2.1) vwCl ws U.heap ∧ gB D U ∧ va_D (fun _ => True) ws)
def gQc (D : gE) (Q : Option Value → va_W → Prop) (A : Nat → Prop) : Array Value → State → Outcome → State → Prop := fun _ st oc t => (∃ (v : Option Value) (u : va_W), oc = .returned v ∧ Q v u ∧ va_P (D.1, D.2.1) vwCl u t.heap ∧ va_D A u) ∧ va_F A st t
/-- CONTRACT: from the world ws with the arguments av the method returns v with a world u, with Q v u -/
def Ctr (l : Launch) (D : gE) (y : MethodName) (cc : ByteArray) (nL : Nat) (rt : Option FieldType) (rm : Room) (av : List Value) (ws : va_W) (Q : Option Value → va_W → Prop) : Prop :=
  ∀ sz : Nat, Met l y (Cond.code y cc nL rt :: tb) rm (gPc D av sz ws) (gQc D Q (va_A ws sz)) rm.cells rm.slots (va_A ws sz)
def gF (D : gE) (y : MethodName) (cc : ByteArray) (nL : Nat) (rt : Option FieldType) (p : Program) (s : State) (m : MethodId) (args : Array Value) (meth : Method) (c : Code) (A : Nat → Prop) : Prop :=
  p.tables.exec = Jvm.exec ∧ c.code = cc ∧ c.maxLocals = nL ∧ meth.sig.returnType = rt ∧ meth.locks = false ∧ meth.name = y.name ∧ s.vm.findClass y.cls = some m.cls ∧ (∀ w ∈ tb, w.before args s = true) ∧ gB D s ∧ (∀ q, s.heap.size ≤ q → A q)
/-- FRAME: the method y at pc, with locals lv, stack st, in the world ws, comes to its end with Q -/
def G (l : Launch) (D : gE) (y : MethodName) (cc : ByteArray) (nL : Nat) (rt : Option FieldType) (rm : Room) (Q : Option Value → va_W → Prop) (cells slots : Nat) (pc : Nat) (lv : List (Nat × Value)) (st : List Value) (ws : va_W) : Prop :=
  ∀ (p : Program) (e : Env) (s : State) (m : MethodId) (args : Array Value) (below : List Frame) (meth : Method) (c : Code) (H : Heap) (locs : List Loc) (A : Nat → Prop) (ls : Array Slot), gF D y cc nL rt p s m args meth c A → va_P (D.1, D.2.1) vwCl ws H → va_D A ws → va_S A s.heap H locs → lv_has ls nL lv →
    W p l e rm s m args below meth c H locs cells slots (MQ below (gQc D Q A) args s rm.cells rm.slots A) (F0 m pc ls st)
/-- rooms: d frames more, nothing made -/
abbrev rr (d : Nat) : Room := { frames := d, cells := 0, slots := 0, locals := 48 * d }
abbrev pv (v : Option Value) (r : List Value) : List Value := match v with
  | some x => x :: r
  | none => r
/-- as Met.ofW, for a method of any class that no row of the natives' table runs -/
theorem g_ofW {l : Launch} {y : MethodName} {ws ws' : List Cond} {rm : Room} {Pc : Array Value → State → Prop} {Qc : Array Value → State → Outcome → State → Prop} {mc ms : Nat} {free : Addr → Prop} {cc : ByteArray} {maxL : Nat} {ret : Option FieldType}
    (hy : plainFor y = true) (hw : ws = Cond.code y cc maxL ret :: ws')
    (body : ∀ p e s m args below meth c s₁, BodyLoose p l y (headSpec ws rm) cc maxL ret e s m args below meth c s₁ → c.maxLocals = maxL → Pc args s →
      W p l e (headSpec ws rm).room s m args below meth c s.heap [] 0 0 (MQ below Qc args s mc ms free) (entryFrame m args maxL)) : Met l y ws rm Pc Qc mc ms free := by
  refine MetFree.of_bodySF (code := cc) (maxLocals := maxL) (ret := ret) hy ?_ ?_
  · intro args s m h hn
    obtain ⟨meth, c, h1, h2, h3, h4, h5, h6, -, -⟩ := Cond.code_spec hn (atoms_spec (ws := ws) h _ (by rw [hw]; exact List.mem_cons_self))
    exact ⟨meth, c, h1, h2, h3, h4, h5, h6⟩
  · intro p e s m args below meth c s₁ B hml hP _
    have hh0 : s₁.heap = s.heap := by rw [B.state]; rfl
    obtain ⟨t, a1, o, b1, b2, b3⟩ := body p e s m args below meth c s₁ B hml hP s₁ hh0 (Stand.of_body B)
    exact ⟨t, o, a1, b1, b2, ⟨b3.1, b3.2⟩⟩
section ENG
variable {l : Launch} {D : gE} {y y' : MethodName} {cc cc' : ByteArray} {nL nL' : Nat} {rt rt' : Option FieldType} {rm rm' : Room} {Q Q' : Option Value → va_W → Prop} {cells slots pc : Nat} {lv lv' : List (Nat × Value)} {st : List Value} {ws ws' : va_W}
theorem g_start {n : Nat} (hy : kY y cc nL rt n) {av : List Value} (hav : (lg_sl av).length ≤ nL) (h : G l D y cc nL rt rm Q 0 0 0 (lv_args 0 av) [] ws) : Ctr l D y cc nL rt rm av ws Q := by
  intro sz
  refine g_ofW (cc := cc) (maxL := nL) (ret := rt) hy.2.2.2 rfl ?_
  intro p e s m args below meth c s₁ B hml hv
  obtain ⟨rfl, hsz, hP, hB, hD0⟩ := hv
  have hts := atoms_spec (ws := Cond.code y cc nL rt :: tb) B.pre
  subst hsz
  have hl := lv_entry av (n := nL) hav
  rw [lg_entry_eq]
  exact h p e s m _ below meth c s.heap [] (va_A ws s.heap.size) _ ⟨B.exec, B.bytes, hml, B.returns, B.notSynchronized, (name_of_methodNamed B.named B.method).1, findClass_of_methodNamed B.named, fun w hw => hts w (List.mem_cons_of_mem _ hw), hB, fun q hq => Or.inr hq⟩ hP hD0.self va_S.rf hl
theorem g_lv (h : ∀ ls : Array Slot, lv_has ls nL lv → lv_has ls nL lv') (k : G l D y cc nL rt rm Q cells slots pc lv' st ws) : G l D y cc nL rt rm Q cells slots pc lv st ws :=
  fun p e s m args below meth c H locs A ls hF hP hD hS hl => k p e s m args below meth c H locs A ls hF hP hD hS (h ls hl)
/-- the locals, fewer or in another order -/
theorem g_pick (ks : List Nat) (h : lv_pick lv ks = lv') (k : G l D y cc nL rt rm Q cells slots pc lv' st ws) : G l D y cc nL rt rm Q cells slots pc lv st ws := g_lv (fun _ hl => lv_sub hl ks h) k
theorem g_ws (h : ws = ws') (k : G l D y cc nL rt rm Q cells slots pc lv st ws') : G l D y cc nL rt rm Q cells slots pc lv st ws := h ▸ k
theorem g_st {st' : List Value} (h : st = st') (k : G l D y cc nL rt rm Q cells slots pc lv st' ws) : G l D y cc nL rt rm Q cells slots pc lv st ws := h ▸ k
theorem g_q (hq : ∀ v u, Q' v u → Q v u) (k : G l D y cc nL rt rm Q' cells slots pc lv st ws) : G l D y cc nL rt rm Q cells slots pc lv st ws := by
  intro p e s m args below meth c H locs A ls hF hP hD hS hl T hT X
  obtain ⟨t, h1, oc, h2, h3, ⟨⟨v, u, h4, h5, h6⟩, h7⟩, h8⟩ := k p e s m args below meth c H locs A ls hF hP hD hS hl T hT X
  exact ⟨t, h1, oc, h2, h3, ⟨⟨v, u, h4, hq v u h5, h6⟩, h7⟩, h8⟩
theorem g_topi {x : Int32} (h : ∀ z : Int32, z = x → G l D y cc nL rt rm Q cells slots pc lv (.int z :: st) ws) : G l D y cc nL rt rm Q cells slots pc lv (.int x :: st) ws := h x rfl
theorem g_topl {x : Int64} (h : ∀ z : Int64, z = x → G l D y cc nL rt rm Q cells slots pc lv (.long z :: st) ws) : G l D y cc nL rt rm Q cells slots pc lv (.long x :: st) ws := h x rfl
theorem g_tope {x z : Int32} (e : x = z) (h : G l D y cc nL rt rm Q cells slots pc lv (.int z :: st) ws) : G l D y cc nL rt rm Q cells slots pc lv (.int x :: st) ws := e ▸ h
theorem g_tople {x z : Int64} (e : x = z) (h : G l D y cc nL rt rm Q cells slots pc lv (.long z :: st) ws) : G l D y cc nL rt rm Q cells slots pc lv (.long x :: st) ws := e ▸ h
theorem g_iconst {n : Int} {v : Int32} (hd : decode cc pc = .ok (.iconst n, 1)) (hv : Int32.ofInt n = v) (k : G l D y cc nL rt rm Q cells slots (pc + 1) lv (.int v :: st) ws) : G l D y cc nL rt rm Q cells slots pc lv st ws :=
  fun p e s m args below meth c H locs A ls hF hP hD hS hl => lv_iconst hF.1 hF.2.1 hd hv (k p e s m args below meth c H locs A ls hF hP hD hS hl)
theorem g_bipush {n : Int} {v : Int32} (hd : decode cc pc = .ok (.bipush n, 2)) (hv : (Int8.ofInt n).toInt32 = v) (k : G l D y cc nL rt rm Q cells slots (pc + 2) lv (.int v :: st) ws) : G l D y cc nL rt rm Q cells slots pc lv st ws :=
  fun p e s m args below meth c H locs A ls hF hP hD hS hl => lv_bipush hF.1 hF.2.1 hd hv (k p e s m args below meth c H locs A ls hF hP hD hS hl)
theorem g_sipush {n : Int} {v : Int32} (hd : decode cc pc = .ok (.sipush n, 3)) (hv : (Int16.ofInt n).toInt32 = v) (k : G l D y cc nL rt rm Q cells slots (pc + 3) lv (.int v :: st) ws) : G l D y cc nL rt rm Q cells slots pc lv st ws :=
  fun p e s m args below meth c H locs A ls hF hP hD hS hl => lv_sipush hF.1 hF.2.1 hd hv (k p e s m args below meth c H locs A ls hF hP hD hS hl)
theorem g_lconst {n : Fin 2} {v : Int64} (hd : decode cc pc = .ok (.lconst n, 1)) (hv : Int64.ofNat (n : Nat) = v) (k : G l D y cc nL rt rm Q cells slots (pc + 1) lv (.long v :: st) ws) : G l D y cc nL rt rm Q cells slots pc lv st ws :=
  fun p e s m args below meth c H locs A ls hF hP hD hS hl => lv_lconst hF.1 hF.2.1 hd hv (k p e s m args below meth c H locs A ls hF hP hD hS hl)
theorem g_ldc {idx : Nat} {v : Int32} (hc : Cond.constant y.cls idx v ∈ tb) (hd : decode cc pc = .ok (.ldc idx, 2)) (k : G l D y cc nL rt rm Q cells slots (pc + 2) lv (.int v :: st) ws) : G l D y cc nL rt rm Q cells slots pc lv st ws :=
  fun p e s m args below meth c H locs A ls hF hP hD hS hl => lv_ldc hF.1 hF.2.1 hF.2.2.2.2.2.2.1 (hF.2.2.2.2.2.2.2.1 _ hc) hd (k p e s m args below meth c H locs A ls hF hP hD hS hl)
theorem g_ldc_w {idx : Nat} {v : Int32} (hc : Cond.constant y.cls idx v ∈ tb) (hd : decode cc pc = .ok (.ldc_w idx, 3)) (k : G l D y cc nL rt rm Q cells slots (pc + 3) lv (.int v :: st) ws) : G l D y cc nL rt rm Q cells slots pc lv st ws :=
  fun p e s m args below meth c H locs A ls hF hP hD hS hl => lv_ldcw hF.1 hF.2.1 hF.2.2.2.2.2.2.1 (hF.2.2.2.2.2.2.2.1 _ hc) hd (k p e s m args below meth c H locs A ls hF hP hD hS hl)
theorem g_ldc2_w {idx : Nat} {v : Int64} (hc : Cond.constantLong y.cls idx v ∈ tb) (hd : decode cc pc = .ok (.ldc2_w idx, 3)) (k : G l D y cc nL rt rm Q cells slots (pc + 3) lv (.long v :: st) ws) : G l D y cc nL rt rm Q cells slots pc lv st ws :=
  fun p e s m args below meth c H locs A ls hF hP hD hS hl => lv_ldc2 hF.1 hF.2.1 hF.2.2.2.2.2.2.1 (hF.2.2.2.2.2.2.2.1 _ hc) hd (k p e s m args below meth c H locs A ls hF hP hD hS hl)
theorem g_iload_n {f : Fin 4} {i : Nat} {x : Int32} (hd : decode cc pc = .ok (.iload_n f, 1)) (hi : (f : Nat) = i) (q : Nat) (hq : lv[q]? = some (i, .int x)) (k : G l D y cc nL rt rm Q cells slots (pc + 1) lv (.int x :: st) ws) : G l D y cc nL rt rm Q cells slots pc lv st ws :=
  fun p e s m args below meth c H locs A ls hF hP hD hS hl => lv_iload_n hF.1 hF.2.1 hd hi (lv_at hl q hq) (k p e s m args below meth c H locs A ls hF hP hD hS hl)
theorem g_iload {i : Nat} {x : Int32} (hd : decode cc pc = .ok (.iload i, 2)) (q : Nat) (hq : lv[q]? = some (i, .int x)) (k : G l D y cc nL rt rm Q cells slots (pc + 2) lv (.int x :: st) ws) : G l D y cc nL rt rm Q cells slots pc lv st ws :=
  fun p e s m args below meth c H locs A ls hF hP hD hS hl => lv_iload hF.1 hF.2.1 hd (lv_at hl q hq) (k p e s m args below meth c H locs A ls hF hP hD hS hl)
theorem g_lload_n {f : Fin 4} {i : Nat} {x : Int64} (hd : decode cc pc = .ok (.lload_n f, 1)) (hi : (f : Nat) = i) (q : Nat) (hq : lv[q]? = some (i, .long x)) (k : G l D y cc nL rt rm Q cells slots (pc + 1) lv (.long x :: st) ws) : G l D y cc nL rt rm Q cells slots pc lv st ws :=
  fun p e s m args below meth c H locs A ls hF hP hD hS hl => lv_lload_n hF.1 hF.2.1 hd hi (lv_at hl q hq) (k p e s m args below meth c H locs A ls hF hP hD hS hl)
theorem g_lload {i : Nat} {x : Int64} (hd : decode cc pc = .ok (.lload i, 2)) (q : Nat) (hq : lv[q]? = some (i, .long x)) (k : G l D y cc nL rt rm Q cells slots (pc + 2) lv (.long x :: st) ws) : G l D y cc nL rt rm Q cells slots pc lv st ws :=
  fun p e s m args below meth c H locs A ls hF hP hD hS hl => lv_lload hF.1 hF.2.1 hd (lv_at hl q hq) (k p e s m args below meth c H locs A ls hF hP hD hS hl)
theorem g_aload_n {f : Fin 4} {i : Nat} {x : Nat} (hd : decode cc pc = .ok (.aload_n f, 1)) (hi : (f : Nat) = i) (q : Nat) (hq : lv[q]? = some (i, .ref x)) (k : G l D y cc nL rt rm Q cells slots (pc + 1) lv (.ref x :: st) ws) : G l D y cc nL rt rm Q cells slots pc lv st ws :=
  fun p e s m args below meth c H locs A ls hF hP hD hS hl => lv_aload_n hF.1 hF.2.1 hd hi (lv_at hl q hq) (k p e s m args below meth c H locs A ls hF hP hD hS hl)
theorem g_aload {i : Nat} {x : Nat} (hd : decode cc pc = .ok (.aload i, 2)) (q : Nat) (hq : lv[q]? = some (i, .ref x)) (k : G l D y cc nL rt rm Q cells slots (pc + 2) lv (.ref x :: st) ws) : G l D y cc nL rt rm Q cells slots pc lv st ws :=
  fun p e s m args below meth c H locs A ls hF hP hD hS hl => lv_aload hF.1 hF.2.1 hd (lv_at hl q hq) (k p e s m args below meth c H locs A ls hF hP hD hS hl)
theorem g_istore_n {f : Fin 4} {i : Nat} {x : Int32} (hd : decode cc pc = .ok (.istore_n f, 1)) (hi : (f : Nat) = i) (hn : i < nL) (hq : (i, Value.int x) :: lv.filter (fun q => !(q.1 == i) && !(q.1 + 1 == i && q.2.category == 2)) = lv') (k : G l D y cc nL rt rm Q cells slots (pc + 1) lv' st ws) : G l D y cc nL rt rm Q cells slots pc lv (.int x :: st) ws :=
  fun p e s m args below meth c H locs A ls hF hP hD hS hl => lv_istore_n hF.1 hF.2.1 hd hi hl hn hq (fun ls hl => k p e s m args below meth c H locs A ls hF hP hD hS hl)
theorem g_istore {i : Nat} {x : Int32} (hd : decode cc pc = .ok (.istore i, 2)) (hn : i < nL) (hq : (i, Value.int x) :: lv.filter (fun q => !(q.1 == i) && !(q.1 + 1 == i && q.2.category == 2)) = lv') (k : G l D y cc nL rt rm Q cells slots (pc + 2) lv' st ws) : G l D y cc nL rt rm Q cells slots pc lv (.int x :: st) ws :=
  fun p e s m args below meth c H locs A ls hF hP hD hS hl => lv_istore hF.1 hF.2.1 hd hl hn hq (fun ls hl => k p e s m args below meth c H locs A ls hF hP hD hS hl)
theorem g_lstore_n {f : Fin 4} {i : Nat} {x : Int64} (hd : decode cc pc = .ok (.lstore_n f, 1)) (hi : (f : Nat) = i) (hn : i + 1 < nL) (hq : (i, Value.long x) :: lv.filter (fun q => !(q.1 == i) && (!(q.1 == i + 1) && !(q.1 + 1 == i && q.2.category == 2))) = lv') (k : G l D y cc nL rt rm Q cells slots (pc + 1) lv' st ws) : G l D y cc nL rt rm Q cells slots pc lv (.long x :: st) ws :=
  fun p e s m args below meth c H locs A ls hF hP hD hS hl => lv_lstore_n hF.1 hF.2.1 hd hi hl hn hq (fun ls hl => k p e s m args below meth c H locs A ls hF hP hD hS hl)
theorem g_lstore {i : Nat} {x : Int64} (hd : decode cc pc = .ok (.lstore i, 2)) (hn : i + 1 < nL) (hq : (i, Value.long x) :: lv.filter (fun q => !(q.1 == i) && (!(q.1 == i + 1) && !(q.1 + 1 == i && q.2.category == 2))) = lv') (k : G l D y cc nL rt rm Q cells slots (pc + 2) lv' st ws) : G l D y cc nL rt rm Q cells slots pc lv (.long x :: st) ws :=
  fun p e s m args below meth c H locs A ls hF hP hD hS hl => lv_lstore hF.1 hF.2.1 hd hl hn hq (fun ls hl => k p e s m args below meth c H locs A ls hF hP hD hS hl)
theorem g_astore_n {f : Fin 4} {i : Nat} {x : Nat} (hd : decode cc pc = .ok (.astore_n f, 1)) (hi : (f : Nat) = i) (hn : i < nL) (hq : (i, Value.ref x) :: lv.filter (fun q => !(q.1 == i) && !(q.1 + 1 == i && q.2.category == 2)) = lv') (k : G l D y cc nL rt rm Q cells slots (pc + 1) lv' st ws) : G l D y cc nL rt rm Q cells slots pc lv (.ref x :: st) ws :=
  fun p e s m args below meth c H locs A ls hF hP hD hS hl => lv_astore_n hF.1 hF.2.1 hd hi hl hn hq (fun ls hl => k p e s m args below meth c H locs A ls hF hP hD hS hl)
theorem g_astore {i : Nat} {x : Nat} (hd : decode cc pc = .ok (.astore i, 2)) (hn : i < nL) (hq : (i, Value.ref x) :: lv.filter (fun q => !(q.1 == i) && !(q.1 + 1 == i && q.2.category == 2)) = lv') (k : G l D y cc nL rt rm Q cells slots (pc + 2) lv' st ws) : G l D y cc nL rt rm Q cells slots pc lv (.ref x :: st) ws :=
  fun p e s m args below meth c H locs A ls hF hP hD hS hl => lv_astore hF.1 hF.2.1 hd hl hn hq (fun ls hl => k p e s m args below meth c H locs A ls hF hP hD hS hl)
theorem g_iinc {i : Nat} {n : Int} {x v : Int32} (hd : decode cc pc = .ok (.iinc i n, 3)) (q : Nat) (hq0 : lv[q]? = some (i, .int x)) (hv : x + Int32.ofInt n = v) (hn : i < nL) (hq : (i, Value.int v) :: lv.filter (fun q => !(q.1 == i) && !(q.1 + 1 == i && q.2.category == 2)) = lv') (k : G l D y cc nL rt rm Q cells slots (pc + 3) lv' st ws) : G l D y cc nL rt rm Q cells slots pc lv st ws :=
  fun p e s m args below meth c H locs A ls hF hP hD hS hl => lv_iinc hF.1 hF.2.1 hd hl hq0 hv hn hq (fun ls hl => k p e s m args below meth c H locs A ls hF hP hD hS hl)
theorem g_iadd {x z : Int32} (hd : decode cc pc = .ok (.iadd, 1)) (k : G l D y cc nL rt rm Q cells slots (pc + 1) lv (.int (x + z) :: st) ws) : G l D y cc nL rt rm Q cells slots pc lv (.int z :: .int x :: st) ws :=
  fun p e s m args below meth c H locs A ls hF hP hD hS hl => lv_iadd hF.1 hF.2.1 hd (k p e s m args below meth c H locs A ls hF hP hD hS hl)
theorem g_isub {x z : Int32} (hd : decode cc pc = .ok (.isub, 1)) (k : G l D y cc nL rt rm Q cells slots (pc + 1) lv (.int (x - z) :: st) ws) : G l D y cc nL rt rm Q cells slots pc lv (.int z :: .int x :: st) ws :=
  fun p e s m args below meth c H locs A ls hF hP hD hS hl => lv_isub hF.1 hF.2.1 hd (k p e s m args below meth c H locs A ls hF hP hD hS hl)
theorem g_imul {x z : Int32} (hd : decode cc pc = .ok (.imul, 1)) (k : G l D y cc nL rt rm Q cells slots (pc + 1) lv (.int (x * z) :: st) ws) : G l D y cc nL rt rm Q cells slots pc lv (.int z :: .int x :: st) ws :=
  fun p e s m args below meth c H locs A ls hF hP hD hS hl => lv_imul hF.1 hF.2.1 hd (k p e s m args below meth c H locs A ls hF hP hD hS hl)
theorem g_iand {x z : Int32} (hd : decode cc pc = .ok (.iand, 1)) (k : G l D y cc nL rt rm Q cells slots (pc + 1) lv (.int (x &&& z) :: st) ws) : G l D y cc nL rt rm Q cells slots pc lv (.int z :: .int x :: st) ws :=
  fun p e s m args below meth c H locs A ls hF hP hD hS hl => lv_iand hF.1 hF.2.1 hd (k p e s m args below meth c H locs A ls hF hP hD hS hl)
theorem g_ior {x z : Int32} (hd : decode cc pc = .ok (.ior, 1)) (k : G l D y cc nL rt rm Q cells slots (pc + 1) lv (.int (x ||| z) :: st) ws) : G l D y cc nL rt rm Q cells slots pc lv (.int z :: .int x :: st) ws :=
  fun p e s m args below meth c H locs A ls hF hP hD hS hl => lv_ior hF.1 hF.2.1 hd (k p e s m args below meth c H locs A ls hF hP hD hS hl)
theorem g_ixor {x z : Int32} (hd : decode cc pc = .ok (.ixor, 1)) (k : G l D y cc nL rt rm Q cells slots (pc + 1) lv (.int (x ^^^ z) :: st) ws) : G l D y cc nL rt rm Q cells slots pc lv (.int z :: .int x :: st) ws :=
  fun p e s m args below meth c H locs A ls hF hP hD hS hl => lv_ixor hF.1 hF.2.1 hd (k p e s m args below meth c H locs A ls hF hP hD hS hl)
theorem g_ishl {x z : Int32} (hd : decode cc pc = .ok (.ishl, 1)) (k : G l D y cc nL rt rm Q cells slots (pc + 1) lv (.int (x <<< (z &&& 31)) :: st) ws) : G l D y cc nL rt rm Q cells slots pc lv (.int z :: .int x :: st) ws :=
  fun p e s m args below meth c H locs A ls hF hP hD hS hl => lv_ishl hF.1 hF.2.1 hd (k p e s m args below meth c H locs A ls hF hP hD hS hl)
theorem g_ishr {x z : Int32} (hd : decode cc pc = .ok (.ishr, 1)) (k : G l D y cc nL rt rm Q cells slots (pc + 1) lv (.int (x >>> (z &&& 31)) :: st) ws) : G l D y cc nL rt rm Q cells slots pc lv (.int z :: .int x :: st) ws :=
  fun p e s m args below meth c H locs A ls hF hP hD hS hl => lv_ishr hF.1 hF.2.1 hd (k p e s m args below meth c H locs A ls hF hP hD hS hl)
theorem g_iushr {x z v : Int32} (hd : decode cc pc = .ok (.iushr, 1)) (hv : (x.toUInt32 >>> (z.toUInt32 &&& Int32.toUInt32 31)).toInt32 = v) (k : G l D y cc nL rt rm Q cells slots (pc + 1) lv (.int v :: st) ws) : G l D y cc nL rt rm Q cells slots pc lv (.int z :: .int x :: st) ws :=
  fun p e s m args below meth c H locs A ls hF hP hD hS hl => lv_iushr hF.1 hF.2.1 hd hv (k p e s m args below meth c H locs A ls hF hP hD hS hl)
theorem g_idiv {x z : Int32} (hd : decode cc pc = .ok (.idiv, 1)) (hz : ¬ z = 0) (k : G l D y cc nL rt rm Q cells slots (pc + 1) lv (.int (x / z) :: st) ws) : G l D y cc nL rt rm Q cells slots pc lv (.int z :: .int x :: st) ws :=
  fun p e s m args below meth c H locs A ls hF hP hD hS hl => lv_idiv hF.1 hF.2.1 hd hz (k p e s m args below meth c H locs A ls hF hP hD hS hl)
theorem g_irem {x z : Int32} (hd : decode cc pc = .ok (.irem, 1)) (hz : ¬ z = 0) (k : G l D y cc nL rt rm Q cells slots (pc + 1) lv (.int (x - x / z * z) :: st) ws) : G l D y cc nL rt rm Q cells slots pc lv (.int z :: .int x :: st) ws :=
  fun p e s m args below meth c H locs A ls hF hP hD hS hl => lv_irem hF.1 hF.2.1 hd hz (k p e s m args below meth c H locs A ls hF hP hD hS hl)
theorem g_ldiv {x z : Int64} (hd : decode cc pc = .ok (.ldiv, 1)) (hz : ¬ z = 0) (k : G l D y cc nL rt rm Q cells slots (pc + 1) lv (.long (x / z) :: st) ws) : G l D y cc nL rt rm Q cells slots pc lv (.long z :: .long x :: st) ws :=
  fun p e s m args below meth c H locs A ls hF hP hD hS hl => lv_ldiv hF.1 hF.2.1 hd hz (k p e s m args below meth c H locs A ls hF hP hD hS hl)
theorem g_lrem {x z : Int64} (hd : decode cc pc = .ok (.lrem, 1)) (hz : ¬ z = 0) (k : G l D y cc nL rt rm Q cells slots (pc + 1) lv (.long (x - x / z * z) :: st) ws) : G l D y cc nL rt rm Q cells slots pc lv (.long z :: .long x :: st) ws :=
  fun p e s m args below meth c H locs A ls hF hP hD hS hl => lv_lrem hF.1 hF.2.1 hd hz (k p e s m args below meth c H locs A ls hF hP hD hS hl)
theorem g_ladd {x z : Int64} (hd : decode cc pc = .ok (.ladd, 1)) (k : G l D y cc nL rt rm Q cells slots (pc + 1) lv (.long (x + z) :: st) ws) : G l D y cc nL rt rm Q cells slots pc lv (.long z :: .long x :: st) ws :=
  fun p e s m args below meth c H locs A ls hF hP hD hS hl => lv_ladd hF.1 hF.2.1 hd (k p e s m args below meth c H locs A ls hF hP hD hS hl)
theorem g_lsub {x z : Int64} (hd : decode cc pc = .ok (.lsub, 1)) (k : G l D y cc nL rt rm Q cells slots (pc + 1) lv (.long (x - z) :: st) ws) : G l D y cc nL rt rm Q cells slots pc lv (.long z :: .long x :: st) ws :=
  fun p e s m args below meth c H locs A ls hF hP hD hS hl => lv_lsub hF.1 hF.2.1 hd (k p e s m args below meth c H locs A ls hF hP hD hS hl)
theorem g_lmul {x z : Int64} (hd : decode cc pc = .ok (.lmul, 1)) (k : G l D y cc nL rt rm Q cells slots (pc + 1) lv (.long (x * z) :: st) ws) : G l D y cc nL rt rm Q cells slots pc lv (.long z :: .long x :: st) ws :=
  fun p e s m args below meth c H locs A ls hF hP hD hS hl => lv_lmul hF.1 hF.2.1 hd (k p e s m args below meth c H locs A ls hF hP hD hS hl)
theorem g_lcmp {x z : Int64} (hd : decode cc pc = .ok (.lcmp, 1)) (k : G l D y cc nL rt rm Q cells slots (pc + 1) lv (.int (lg_cmp x z) :: st) ws) : G l D y cc nL rt rm Q cells slots pc lv (.long z :: .long x :: st) ws :=
  fun p e s m args below meth c H locs A ls hF hP hD hS hl => W.lcmp hF.1 hF.2.1 hd (k p e s m args below meth c H locs A ls hF hP hD hS hl)
theorem g_i2l {x : Int32} (hd : decode cc pc = .ok (.i2l, 1)) (k : G l D y cc nL rt rm Q cells slots (pc + 1) lv (.long x.toInt64 :: st) ws) : G l D y cc nL rt rm Q cells slots pc lv (.int x :: st) ws :=
  fun p e s m args below meth c H locs A ls hF hP hD hS hl => lv_i2l hF.1 hF.2.1 hd rfl (k p e s m args below meth c H locs A ls hF hP hD hS hl)
theorem g_l2i {x : Int64} (hd : decode cc pc = .ok (.l2i, 1)) (k : G l D y cc nL rt rm Q cells slots (pc + 1) lv (.int x.toInt32 :: st) ws) : G l D y cc nL rt rm Q cells slots pc lv (.long x :: st) ws :=
  fun p e s m args below meth c H locs A ls hF hP hD hS hl => lv_l2i hF.1 hF.2.1 hd rfl (k p e s m args below meth c H locs A ls hF hP hD hS hl)
theorem g_dup {v : Value} (hd : decode cc pc = .ok (.dup, 1)) (hc : v.category = 1) (k : G l D y cc nL rt rm Q cells slots (pc + 1) lv (v :: v :: st) ws) : G l D y cc nL rt rm Q cells slots pc lv (v :: st) ws :=
  fun p e s m args below meth c H locs A ls hF hP hD hS hl => lv_dup hF.1 hF.2.1 hd hc (k p e s m args below meth c H locs A ls hF hP hD hS hl)
theorem g_pop {v : Value} (hd : decode cc pc = .ok (.pop, 1)) (hc : v.category = 1) (k : G l D y cc nL rt rm Q cells slots (pc + 1) lv st ws) : G l D y cc nL rt rm Q cells slots pc lv (v :: st) ws :=
  fun p e s m args below meth c H locs A ls hF hP hD hS hl => lv_pop hF.1 hF.2.1 hd hc (k p e s m args below meth c H locs A ls hF hP hD hS hl)
theorem g_dup2 {v w : Value} (hd : decode cc pc = .ok (.dup2, 1)) (hc : v.category = 1) (hc2 : w.category = 1) (k : G l D y cc nL rt rm Q cells slots (pc + 1) lv (v :: w :: v :: w :: st) ws) : G l D y cc nL rt rm Q cells slots pc lv (v :: w :: st) ws :=
  fun p e s m args below meth c H locs A ls hF hP hD hS hl => lv_dup2_11 hF.1 hF.2.1 hd hc hc2 (k p e s m args below meth c H locs A ls hF hP hD hS hl)
theorem g_ifeq {x : Int32} {off : Int} (tgt : Nat) (hd : decode cc pc = .ok (.ifCond .eq off, 3)) (ht : (pc : Int) + off = (tgt : Int)) (kt : x = 0 → G l D y cc nL rt rm Q cells slots tgt lv st ws) (kf : ¬ x = 0 → G l D y cc nL rt rm Q cells slots (pc + 3) lv st ws) : G l D y cc nL rt rm Q cells slots pc lv (.int x :: st) ws :=
  fun p e s m args below meth c H locs A ls hF hP hD hS hl => lv_if_eq hF.1 hF.2.1 hd ht (fun h => (kt h) p e s m args below meth c H locs A ls hF hP hD hS hl) (fun h => ((fun h => kf h) h) p e s m args below meth c H locs A ls hF hP hD hS hl)
theorem g_icmpeq {x z : Int32} {off : Int} (tgt : Nat) (hd : decode cc pc = .ok (.if_icmp .eq off, 3)) (ht : (pc : Int) + off = (tgt : Int)) (kt : x = z → G l D y cc nL rt rm Q cells slots tgt lv st ws) (kf : ¬ x = z → G l D y cc nL rt rm Q cells slots (pc + 3) lv st ws) : G l D y cc nL rt rm Q cells slots pc lv (.int z :: .int x :: st) ws :=
  fun p e s m args below meth c H locs A ls hF hP hD hS hl => lv_icmp_eq hF.1 hF.2.1 hd ht (fun h => (kt h) p e s m args below meth c H locs A ls hF hP hD hS hl) (fun h => ((fun h => kf h) h) p e s m args below meth c H locs A ls hF hP hD hS hl)
theorem g_ifne {x : Int32} {off : Int} (tgt : Nat) (hd : decode cc pc = .ok (.ifCond .ne off, 3)) (ht : (pc : Int) + off = (tgt : Int)) (kt : ¬ x = 0 → G l D y cc nL rt rm Q cells slots tgt lv st ws) (kf : x = 0 → G l D y cc nL rt rm Q cells slots (pc + 3) lv st ws) : G l D y cc nL rt rm Q cells slots pc lv (.int x :: st) ws :=
  fun p e s m args below meth c H locs A ls hF hP hD hS hl => lv_if_ne hF.1 hF.2.1 hd ht (fun h => (kt h) p e s m args below meth c H locs A ls hF hP hD hS hl) (fun h => ((fun h => kf h) h) p e s m args below meth c H locs A ls hF hP hD hS hl)
theorem g_icmpne {x z : Int32} {off : Int} (tgt : Nat) (hd : decode cc pc = .ok (.if_icmp .ne off, 3)) (ht : (pc : Int) + off = (tgt : Int)) (kt : ¬ x = z → G l D y cc nL rt rm Q cells slots tgt lv st ws) (kf : x = z → G l D y cc nL rt rm Q cells slots (pc + 3) lv st ws) : G l D y cc nL rt rm Q cells slots pc lv (.int z :: .int x :: st) ws :=
  fun p e s m args below meth c H locs A ls hF hP hD hS hl => lv_icmp_ne hF.1 hF.2.1 hd ht (fun h => (kt h) p e s m args below meth c H locs A ls hF hP hD hS hl) (fun h => ((fun h => kf h) h) p e s m args below meth c H locs A ls hF hP hD hS hl)
theorem g_iflt {x : Int32} {off : Int} (tgt : Nat) (hd : decode cc pc = .ok (.ifCond .lt off, 3)) (ht : (pc : Int) + off = (tgt : Int)) (kt : x < 0 → G l D y cc nL rt rm Q cells slots tgt lv st ws) (kf : ¬ x < 0 → G l D y cc nL rt rm Q cells slots (pc + 3) lv st ws) : G l D y cc nL rt rm Q cells slots pc lv (.int x :: st) ws :=
  fun p e s m args below meth c H locs A ls hF hP hD hS hl => lv_if_lt hF.1 hF.2.1 hd ht (fun h => (kt h) p e s m args below meth c H locs A ls hF hP hD hS hl) (fun h => ((fun h => kf h) h) p e s m args below meth c H locs A ls hF hP hD hS hl)
theorem g_icmplt {x z : Int32} {off : Int} (tgt : Nat) (hd : decode cc pc = .ok (.if_icmp .lt off, 3)) (ht : (pc : Int) + off = (tgt : Int)) (kt : x < z → G l D y cc nL rt rm Q cells slots tgt lv st ws) (kf : ¬ x < z → G l D y cc nL rt rm Q cells slots (pc + 3) lv st ws) : G l D y cc nL rt rm Q cells slots pc lv (.int z :: .int x :: st) ws :=
  fun p e s m args below meth c H locs A ls hF hP hD hS hl => lv_icmp_lt hF.1 hF.2.1 hd ht (fun h => (kt h) p e s m args below meth c H locs A ls hF hP hD hS hl) (fun h => ((fun h => kf h) h) p e s m args below meth c H locs A ls hF hP hD hS hl)
theorem g_ifge {x : Int32} {off : Int} (tgt : Nat) (hd : decode cc pc = .ok (.ifCond .ge off, 3)) (ht : (pc : Int) + off = (tgt : Int)) (kt : 0 ≤ x → G l D y cc nL rt rm Q cells slots tgt lv st ws) (kf : ¬ 0 ≤ x → G l D y cc nL rt rm Q cells slots (pc + 3) lv st ws) : G l D y cc nL rt rm Q cells slots pc lv (.int x :: st) ws :=
  fun p e s m args below meth c H locs A ls hF hP hD hS hl => lv_if_ge hF.1 hF.2.1 hd ht (fun h => (kt h) p e s m args below meth c H locs A ls hF hP hD hS hl) (fun h => ((fun h => kf h) h) p e s m args below meth c H locs A ls hF hP hD hS hl)
theorem g_icmpge {x z : Int32} {off : Int} (tgt : Nat) (hd : decode cc pc = .ok (.if_icmp .ge off, 3)) (ht : (pc : Int) + off = (tgt : Int)) (kt : z ≤ x → G l D y cc nL rt rm Q cells slots tgt lv st ws) (kf : ¬ z ≤ x → G l D y cc nL rt rm Q cells slots (pc + 3) lv st ws) : G l D y cc nL rt rm Q cells slots pc lv (.int z :: .int x :: st) ws :=
  fun p e s m args below meth c H locs A ls hF hP hD hS hl => lv_icmp_ge hF.1 hF.2.1 hd ht (fun h => (kt h) p e s m args below meth c H locs A ls hF hP hD hS hl) (fun h => ((fun h => kf h) h) p e s m args below meth c H locs A ls hF hP hD hS hl)
theorem g_ifgt {x : Int32} {off : Int} (tgt : Nat) (hd : decode cc pc = .ok (.ifCond .gt off, 3)) (ht : (pc : Int) + off = (tgt : Int)) (kt : 0 < x → G l D y cc nL rt rm Q cells slots tgt lv st ws) (kf : ¬ 0 < x → G l D y cc nL rt rm Q cells slots (pc + 3) lv st ws) : G l D y cc nL rt rm Q cells slots pc lv (.int x :: st) ws :=
  fun p e s m args below meth c H locs A ls hF hP hD hS hl => lv_if_gt hF.1 hF.2.1 hd ht (fun h => (kt h) p e s m args below meth c H locs A ls hF hP hD hS hl) (fun h => ((fun h => kf h) h) p e s m args below meth c H locs A ls hF hP hD hS hl)
theorem g_icmpgt {x z : Int32} {off : Int} (tgt : Nat) (hd : decode cc pc = .ok (.if_icmp .gt off, 3)) (ht : (pc : Int) + off = (tgt : Int)) (kt : z < x → G l D y cc nL rt rm Q cells slots tgt lv st ws) (kf : ¬ z < x → G l D y cc nL rt rm Q cells slots (pc + 3) lv st ws) : G l D y cc nL rt rm Q cells slots pc lv (.int z :: .int x :: st) ws :=
  fun p e s m args below meth c H locs A ls hF hP hD hS hl => lv_icmp_gt hF.1 hF.2.1 hd ht (fun h => (kt h) p e s m args below meth c H locs A ls hF hP hD hS hl) (fun h => ((fun h => kf h) h) p e s m args below meth c H locs A ls hF hP hD hS hl)
theorem g_ifle {x : Int32} {off : Int} (tgt : Nat) (hd : decode cc pc = .ok (.ifCond .le off, 3)) (ht : (pc : Int) + off = (tgt : Int)) (kt : x ≤ 0 → G l D y cc nL rt rm Q cells slots tgt lv st ws) (kf : ¬ x ≤ 0 → G l D y cc nL rt rm Q cells slots (pc + 3) lv st ws) : G l D y cc nL rt rm Q cells slots pc lv (.int x :: st) ws :=
  fun p e s m args below meth c H locs A ls hF hP hD hS hl => lv_if_le hF.1 hF.2.1 hd ht (fun h => (kt h) p e s m args below meth c H locs A ls hF hP hD hS hl) (fun h => ((fun h => kf h) h) p e s m args below meth c H locs A ls hF hP hD hS hl)
theorem g_icmple {x z : Int32} {off : Int} (tgt : Nat) (hd : decode cc pc = .ok (.if_icmp .le off, 3)) (ht : (pc : Int) + off = (tgt : Int)) (kt : x ≤ z → G l D y cc nL rt rm Q cells slots tgt lv st ws) (kf : ¬ x ≤ z → G l D y cc nL rt rm Q cells slots (pc + 3) lv st ws) : G l D y cc nL rt rm Q cells slots pc lv (.int z :: .int x :: st) ws :=
  fun p e s m args below meth c H locs A ls hF hP hD hS hl => lv_icmp_le hF.1 hF.2.1 hd ht (fun h => (kt h) p e s m args below meth c H locs A ls hF hP hD hS hl) (fun h => ((fun h => kf h) h) p e s m args below meth c H locs A ls hF hP hD hS hl)
theorem g_goto {off : Int} (tgt : Nat) (hd : decode cc pc = .ok (.goto off, 3)) (ht : (pc : Int) + off = (tgt : Int)) (k : G l D y cc nL rt rm Q cells slots tgt lv st ws) : G l D y cc nL rt rm Q cells slots pc lv st ws :=
  fun p e s m args below meth c H locs A ls hF hP hD hS hl => lv_goto hF.1 hF.2.1 hd ht (k p e s m args below meth c H locs A ls hF hP hD hS hl)
theorem g_ifnonnull {a : Nat} {off : Int} (tgt : Nat) (hd : decode cc pc = .ok (.ifnonnull off, 3)) (ht : (pc : Int) + off = (tgt : Int)) (k : G l D y cc nL rt rm Q cells slots tgt lv st ws) : G l D y cc nL rt rm Q cells slots pc lv (.ref a :: st) ws :=
  fun p e s m args below meth c H locs A ls hF hP hD hS hl => lv_ifnonnull hF.1 hF.2.1 hd ht (k p e s m args below meth c H locs A ls hF hP hD hS hl)
theorem g_ifnonnullN {off : Int} (hd : decode cc pc = .ok (.ifnonnull off, 3)) (k : G l D y cc nL rt rm Q cells slots (pc + 3) lv st ws) : G l D y cc nL rt rm Q cells slots pc lv (.null :: st) ws :=
  fun p e s m args below meth c H locs A ls hF hP hD hS hl => lv_ifnonnullN hF.1 hF.2.1 hd (k p e s m args below meth c H locs A ls hF hP hD hS hl)
theorem g_lookup {dflt : Int} {ps : Array (Int × Int)} {len : Nat} {x : Int32} {off : Int} (tgt : Nat) (hd : decode cc pc = .ok (.lookupswitch dflt ps, len)) (hp : (ps.toList.zip (ps.toList.drop 1)).all (fun (a, next) => a.1 < next.1) = true) (ho : Op.lookupswitch.offset ps.toList dflt x.toInt = off) (ht : (pc : Int) + off = (tgt : Int)) (k : G l D y cc nL rt rm Q cells slots tgt lv st ws) : G l D y cc nL rt rm Q cells slots pc lv (.int x :: st) ws :=
  fun p e s m args below meth c H locs A ls hF hP hD hS hl => lv_lookup hF.1 hF.2.1 hd hp ho ht (k p e s m args below meth c H locs A ls hF hP hD hS hl)
theorem g_tableOut {dflt lo hi : Int} {offs : Array Int} {len : Nat} {x : Int32} (tgt : Nat) (hd : decode cc pc = .ok (.tableswitch dflt lo hi offs, len)) (h : x.toInt < lo ∨ hi < x.toInt) (ht : (pc : Int) + dflt = (tgt : Int)) (k : G l D y cc nL rt rm Q cells slots tgt lv st ws) : G l D y cc nL rt rm Q cells slots pc lv (.int x :: st) ws :=
  fun p e s m args below meth c H locs A ls hF hP hD hS hl => lv_tableOut hF.1 hF.2.1 hd h ht (k p e s m args below meth c H locs A ls hF hP hD hS hl)
theorem g_tableIn {dflt lo hi : Int} {offs : Array Int} {len : Nat} {x : Int32} {off : Int} (tgt : Nat) (hd : decode cc pc = .ok (.tableswitch dflt lo hi offs, len)) (h1 : ¬ x.toInt < lo) (h2 : ¬ hi < x.toInt) (ho : offs[(x.toInt - lo).toNat]? = some off) (ht : (pc : Int) + off = (tgt : Int)) (k : G l D y cc nL rt rm Q cells slots tgt lv st ws) : G l D y cc nL rt rm Q cells slots pc lv (.int x :: st) ws :=
  fun p e s m args below meth c H locs A ls hF hP hD hS hl => lv_tableIn hF.1 hF.2.1 hd h1 h2 ho ht (k p e s m args below meth c H locs A ls hF hP hD hS hl)
/-- fields -/
theorem g_get {C : String} {T : u_T} {N ci idx a k : Nat} {fs : List Value} {v : Value} (hf : kF y.cls idx C T k) (hC : kC ci C T N) (hk : k < N) (q0 : Nat) (he : ws[q0]? = some (a, .inr (ci, fs))) (hv : fs[k]? = some v) (hd : decode cc pc = .ok (.getfield idx, 3)) (kk : G l D y cc nL rt rm Q cells slots (pc + 3) lv (v :: st) ws) : G l D y cc nL rt rm Q cells slots pc lv (.ref a :: st) ws :=
  fun p e s m args below meth c H locs A ls hF hP hD hS hl => va_get (ref := C) hF.1 hF.2.1 hF.2.2.2.2.2.2.2.1 hC.2.1 hF.2.2.2.2.2.2.1 hF.2.2.2.2.2.2.2.2.1.1 hP q0 he hC.1 k hk (hF.2.2.2.2.2.2.2.1 _ hf) (fun x hx => by rw [hC.2.2 k hk] at hx; exact hx) hv hd (kk p e s m args below meth c H locs A ls hF hP hD hS hl)
theorem g_put {C : String} {T : u_T} {N ci idx a k : Nat} {ty : Nat → FieldType} {fs : List Value} {v : Value} (hf : kF y.cls idx C T k) (hC : kC ci C T N) (hT : kT T N ty) (hk : k < N) (q0 : Nat) (he : ws[q0]? = some (a, .inr (ci, fs))) (hfin : (T k).2.2.2 = false) (hn : narrow (ty k) v = v) (hfit : fits (ty k) v = true) (hl0 : k < fs.length) (hd : decode cc pc = .ok (.putfield idx, 3)) (hw : ws.set q0 (a, .inr (ci, fs.set k v)) = ws') (kk : G l D y cc nL rt rm Q cells slots (pc + 3) lv st ws') : G l D y cc nL rt rm Q cells slots pc lv (v :: .ref a :: st) ws :=
  fun p e s m args below meth c H locs A ls hF hP hD hS hl => va_put (ref := C) hF.1 hF.2.1 hF.2.2.2.2.2.2.2.1 hC.2.1 ty hT.1 hT.2 hF.2.2.2.2.2.2.1 hF.2.2.2.2.2.2.2.2.1.1 hP hD hS q0 he hC.1 k hk (hF.2.2.2.2.2.2.2.1 _ hf) (fun x hx => by rw [hC.2.2 k hk] at hx; exact hx) hfin (hT.1 k hk) hn hfit hl0 hd (fun H locs hP hD hS => by rw [hw] at hP hD; exact kk p e s m args below meth c H locs A ls hF hP hD hS hl)
theorem g_putF {C : String} {T : u_T} {N ci idx a k : Nat} {ty : Nat → FieldType} {fs : List Value} {v : Value} (hf : kF y.cls idx C T k) (hC : kC ci C T N) (hT : kT T N ty) (hk : k < N) (q0 : Nat) (he : ws[q0]? = some (a, .inr (ci, fs))) (hfin : (T k).2.2.2 = true) (hi : y.name = "<init>") (hcl : C = y.cls) (hn : narrow (ty k) v = v) (hfit : fits (ty k) v = true) (hl0 : k < fs.length) (hd : decode cc pc = .ok (.putfield idx, 3)) (hw : ws.set q0 (a, .inr (ci, fs.set k v)) = ws') (kk : G l D y cc nL rt rm Q cells slots (pc + 3) lv st ws') : G l D y cc nL rt rm Q cells slots pc lv (v :: .ref a :: st) ws :=
  fun p e s m args below meth c H locs A ls hF hP hD hS hl => va_putF (ref := C) hF.1 hF.2.1 hF.2.2.2.2.2.2.2.1 hC.2.1 ty hT.1 hT.2 hF.2.2.2.2.2.2.1 hF.2.2.2.2.2.2.2.2.1.1 hP hD hS q0 he hC.1 k hk (hF.2.2.2.2.2.2.2.1 _ hf) (fun x hx => by rw [hC.2.2 k hk] at hx; exact hx) hfin (hF.2.2.2.2.2.1.trans hi) ((hC.2.2 k hk).trans hcl) (hT.1 k hk) hn hfit hl0 hd (fun H locs hP hD hS => by rw [hw] at hP hD; exact kk p e s m args below meth c H locs A ls hF hP hD hS hl)
/-- arrays of int, of boolean, of Town -/
theorem g_iaload {a n : Nat} {f : Nat → Int32} {i : Int32} (q0 : Nat) (ha : ws[q0]? = some (a, .inl (D.2.2.1, n, .inl f))) (hin : vp_in i n) (hd : decode cc pc = .ok (.iaload, 1)) (kk : G l D y cc nL rt rm Q cells slots (pc + 1) lv (.int (f i.toNatClampNeg) :: st) ws) : G l D y cc nL rt rm Q cells slots pc lv (.int i :: .ref a :: st) ws :=
  fun p e s m args below meth c H locs A ls hF hP hD hS hl => va_iald hF.1 hF.2.1 hF.2.2.2.2.2.2.2.2.1.1 hP q0 0 ha rfl hin hd (kk p e s m args below meth c H locs A ls hF hP hD hS hl)
theorem g_iastore {a n : Nat} {f : Nat → Int32} {i x : Int32} (q0 : Nat) (ha : ws[q0]? = some (a, .inl (D.2.2.1, n, .inl f))) (hin : vp_in i n) (hd : decode cc pc = .ok (.iastore, 1)) (hw : ws.set q0 (a, .inl (D.2.2.1, n, .inl (upd f i.toNatClampNeg x))) = ws') (kk : G l D y cc nL rt rm Q cells slots (pc + 1) lv st ws') : G l D y cc nL rt rm Q cells slots pc lv (.int x :: .int i :: .ref a :: st) ws :=
  fun p e s m args below meth c H locs A ls hF hP hD hS hl => va_iast hF.1 hF.2.1 hF.2.2.2.2.2.2.2.2.1.1 hP hD hS q0 0 ha rfl hin hd (fun H locs hP hD hS => by rw [hw] at hP hD; exact kk p e s m args below meth c H locs A ls hF hP hD hS hl)
theorem g_baload {a n : Nat} {f : Nat → Int32} {i : Int32} (q0 : Nat) (ha : ws[q0]? = some (a, .inl (D.2.2.2.1, n, .inl f))) (hin : vp_in i n) (hd : decode cc pc = .ok (.baload, 1)) (kk : G l D y cc nL rt rm Q cells slots (pc + 1) lv (.int (f i.toNatClampNeg) :: st) ws) : G l D y cc nL rt rm Q cells slots pc lv (.int i :: .ref a :: st) ws :=
  fun p e s m args below meth c H locs A ls hF hP hD hS hl => va_zald hF.1 hF.2.1 hF.2.2.2.2.2.2.2.2.1.1 hP q0 1 ha rfl hin hd (kk p e s m args below meth c H locs A ls hF hP hD hS hl)
theorem g_bastore1 {a n : Nat} {f : Nat → Int32} {i : Int32} (q0 : Nat) (ha : ws[q0]? = some (a, .inl (D.2.2.2.1, n, .inl f))) (hin : vp_in i n) (hd : decode cc pc = .ok (.bastore, 1)) (hw : ws.set q0 (a, .inl (D.2.2.2.1, n, .inl (upd f i.toNatClampNeg 1))) = ws') (kk : G l D y cc nL rt rm Q cells slots (pc + 1) lv st ws') : G l D y cc nL rt rm Q cells slots pc lv (.int 1 :: .int i :: .ref a :: st) ws :=
  fun p e s m args below meth c H locs A ls hF hP hD hS hl => va_zast hF.1 hF.2.1 hF.2.2.2.2.2.2.2.2.1.1 hP hD hS q0 1 ha rfl hin hd (fun H locs hP hD hS => by first | (rw [hw] at hP hD; exact kk p e s m args below meth c H locs A ls hF hP hD hS hl) | (have e1 : vp_nar .boolean 1 = 1 := rfl; rw [e1, hw] at hP hD; exact kk p e s m args below meth c H locs A ls hF hP hD hS hl))
theorem g_aaload {a n : Nat} {f : Nat → Option Nat} {i : Int32} (q0 : Nat) (ha : ws[q0]? = some (a, .inl (D.2.2.2.2, n, .inr (.inr (.inr (.inr f)))))) (hin : vp_in i n) (hd : decode cc pc = .ok (.aaload, 1)) (kk : G l D y cc nL rt rm Q cells slots (pc + 1) lv (va_rf (f i.toNatClampNeg) :: st) ws) : G l D y cc nL rt rm Q cells slots pc lv (.int i :: .ref a :: st) ws :=
  fun p e s m args below meth c H locs A ls hF hP hD hS hl => va_aldq hF.1 hF.2.1 hF.2.2.2.2.2.2.2.2.1.1 hP q0 2 ha rfl hin hd (kk p e s m args below meth c H locs A ls hF hP hD hS hl)
theorem g_aastore {a n v ci : Nat} {vs : List Value} {f : Nat → Option Nat} {i : Int32} {r : vw_C} (q0 qk : Nat) (ha : ws[q0]? = some (a, .inl (D.2.2.2.2, n, .inr (.inr (.inr (.inr f)))))) (hv : ws[qk]? = some (v, .inr (ci, vs))) (hc : vwCl[ci]? = some r) (hr : r.1 = RX3) (hin : vp_in i n) (hd : decode cc pc = .ok (.aastore, 1)) (hw : ws.set q0 (a, .inl (D.2.2.2.2, n, .inr (.inr (.inr (.inr (va_up f i.toNatClampNeg (some v))))))) = ws') (kk : G l D y cc nL rt rm Q cells slots (pc + 1) lv st ws') : G l D y cc nL rt rm Q cells slots pc lv (.ref v :: .int i :: .ref a :: st) ws :=
  fun p e s m args below meth c H locs A ls hF hP hD hS hl => va_astq hF.1 hF.2.1 hF.2.2.2.2.2.2.2.2.1.1 hP hD hS q0 2 qk ci ha (by rw [hr]; rfl) hv hc hin hd (fun H locs hP hD hS => by rw [hw] at hP hD; exact kk p e s m args below meth c H locs A ls hF hP hD hS hl)
theorem g_alen {a : Nat} {x : vp_A} {v : Int32} (q0 : Nat) (ha : ws[q0]? = some (a, .inl (D.2.2.1, x))) (hv : Int32.ofNat x.1 = v) (hd : decode cc pc = .ok (.arraylength, 1)) (kk : G l D y cc nL rt rm Q cells slots (pc + 1) lv (.int v :: st) ws) : G l D y cc nL rt rm Q cells slots pc lv (.ref a :: st) ws :=
  fun p e s m args below meth c H locs A ls hF hP hD hS hl => va_alen hF.1 hF.2.1 hF.2.2.2.2.2.2.2.2.1.1 hP q0 0 ha (ty := .int) rfl hv hd (kk p e s m args below meth c H locs A ls hF hP hD hS hl)
theorem g_arraycopy {idx a a0 n0 n1 : Nat} {f g : Nat → Int32} {sp dp n : Int32} (hm : Cond.methodLink y.cls idx arraycopyName ∈ tb) (q0 q1 : Nat) (ha0 : ws[q0]? = some (a0, .inl (D.2.2.1, n0, .inl f))) (ha1 : ws[q1]? = some (a, .inl (D.2.2.1, n1, .inl g))) (h1 : ¬ sp < 0) (h2 : ¬ dp < 0) (h3 : ¬ n < 0) (h4 : sp.toNatClampNeg + n.toNatClampNeg ≤ n0) (h5 : dp.toNatClampNeg + n.toNatClampNeg ≤ n1) (hfr : 1 ≤ rm.frames) (hlo : (st.map fun v => v.category).sum + (nativeFrameWords "java/lang/System" "arraycopy" 5 + 11) ≤ rm.locals) (hd : decode cc pc = .ok (.invokestatic idx, 3)) (hw : ws.set q1 (a, .inl (D.2.2.1, n1, .inl (va_cpy f g sp.toNatClampNeg dp.toNatClampNeg n.toNatClampNeg))) = ws') (kk : G l D y cc nL rt rm Q cells slots (pc + 3) lv st ws') : G l D y cc nL rt rm Q cells slots pc lv (.int n :: .int dp :: .ref a :: .int sp :: .ref a0 :: st) ws :=
  fun p e s m args below meth c H locs A ls hF hP hD hS hl => va_copyi hF.1 hF.2.1 (hF.2.2.1.trans hl.1.symm) hF.2.2.2.2.2.2.1 (hF.2.2.2.2.2.2.2.1 _ hm) (hF.2.2.2.2.2.2.2.1 _ kac.1) (hF.2.2.2.2.2.2.2.1 _ kac.2.1) (hF.2.2.2.2.2.2.2.1 _ kac.2.2) hF.2.2.2.2.2.2.2.2.1.1 hP hD hS q0 q1 0 0 ha0 ha1 (ty := .int) rfl rfl rfl h1 h2 h3 h4 h5 (fun _ _ => rfl) hfr hlo hd (fun H locs hP hD hS => by rw [hw] at hP hD; exact kk p e s m args below meth c H locs A ls hF hP hD hS hl)
/-- returns -/
theorem g_ireturn {v : Int32} (hd : decode cc pc = .ok (.ireturn, 1)) (hc : cells ≤ rm.cells) (hs : slots ≤ rm.slots) (hq : Q (some (.int v)) ws) : G l D y cc nL (some .int) rm Q cells slots pc lv [.int v] ws :=
  fun p e s m args below meth c H locs A ls hF hP hD hS hl => W.widen hc hs (W.iret hF.1 hF.2.1 hF.2.2.2.1 (fun t ht _ => ⟨⟨_, ws, rfl, hq, by rw [ht]; exact hP, hD⟩, hS.F ht⟩) hS.2.2 hd hF.2.2.2.2.1)
theorem g_zreturn {v : Int32} (hd : decode cc pc = .ok (.ireturn, 1)) (hc : cells ≤ rm.cells) (hs : slots ≤ rm.slots) (hv : v = 0 ∨ v = 1) (hq : Q (some (.int v)) ws) : G l D y cc nL (some .boolean) rm Q cells slots pc lv [.int v] ws :=
  fun p e s m args below meth c H locs A ls hF hP hD hS hl => W.widen hc hs (W.zret hF.1 hF.2.1 hF.2.2.2.1 (by rcases hv with rfl | rfl <;> rfl) (fun t ht _ => ⟨⟨_, ws, rfl, hq, by rw [ht]; exact hP, hD⟩, hS.F ht⟩) hS.2.2 hd hF.2.2.2.2.1)
theorem g_lreturn {v : Int64} (hd : decode cc pc = .ok (.lreturn, 1)) (hc : cells ≤ rm.cells) (hs : slots ≤ rm.slots) (hq : Q (some (.long v)) ws) : G l D y cc nL (some .long) rm Q cells slots pc lv [.long v] ws :=
  fun p e s m args below meth c H locs A ls hF hP hD hS hl => W.widen hc hs (W.lret hF.1 hF.2.1 hF.2.2.2.1 (fun t ht _ => ⟨⟨_, ws, rfl, hq, by rw [ht]; exact hP, hD⟩, hS.F ht⟩) hS.2.2 hd hF.2.2.2.2.1)
theorem g_return (hd : decode cc pc = .ok (.return_, 1)) (hc : cells ≤ rm.cells) (hs : slots ≤ rm.slots) (hq : Q none ws) : G l D y cc nL none rm Q cells slots pc lv [] ws :=
  fun p e s m args below meth c H locs A ls hF hP hD hS hl => W.widen hc hs (W.vret hF.1 hF.2.1 hF.2.2.2.1 (fun t ht _ => ⟨⟨_, ws, rfl, hq, by rw [ht]; exact hP, hD⟩, hS.F ht⟩) hS.2.2 hd hF.2.2.2.2.1)
/-- calls: a run of the callee by its contract, then on -/
theorem g_run {p : Program} {e : Env} {s : State} {m : MethodId} {args : Array Value} {below : List Frame} {meth : Method} {c : Code} {H : Heap} {locs : List Loc} {A : Nat → Prop} {ls : Array Slot} {mc ms : Nat} {st0 : List Value} {a : Array Value}
    (hr : va_Run p l e rm s m args below meth c H locs cells slots mc ms (F0 m pc ls st0) st (gQc D Q' (va_A ws H.size) a) (va_A ws H.size)) (hF : gF D y cc nL rt p s m args meth c A) (hD : va_D A ws) (hS : va_S A s.heap H locs) (hl : lv_has ls nL lv)
    (kk : ∀ v u, Q' v u → G l D y cc nL rt rm Q (cells + mc) (slots + ms) (pc + 3) lv (pv v st) u) : W p l e rm s m args below meth c H locs cells slots (MQ below (gQc D Q A) args s rm.cells rm.slots A) (F0 m pc ls st0) := by
  have hA : ∀ q, va_A ws H.size q → A q := by
    intro q h
    rcases h with ⟨k, e, h⟩ | h
    · exact hD.2 k (q, e) h
    · exact hF.2.2.2.2.2.2.2.2.2 q (Nat.le_trans hS.1 h)
  intro T hT X
  obtain ⟨v, st₀, t, T', L, h0, X', hL, e1, e2, ⟨⟨v', u, hv, hp, hP1, hD1⟩, hz, hk⟩, stp⟩ := hr T hT X
  cases hv
  rw [h0] at hz hk
  have hS1 : va_S A s.heap T'.heap (locs ++ L) := ⟨Nat.le_trans hS.1 (by rw [e1]; exact hz), fun q h1 h2 => by rw [e1, hk q (Nat.lt_of_lt_of_le h1 hS.1) (fun z => h2 (hA q z))]; exact hS.2.1 q h1 h2, fun q hq => by
      rcases List.mem_append.mp hq with h | h
      · exact hS.2.2 q h
      · exact hA _ (hL q h)⟩
  have hK := kk v u hp p e s m args below meth c T'.heap (locs ++ L) A ls hF (by rw [e1]; exact hP1) (hD1.weaken (fun k q _ h => hA q.1 h)) hS1 hl
  cases v with
  | none =>
    obtain ⟨t2, a1, b1⟩ := hK T' rfl X'
    exact ⟨t2, stp t2 a1, b1⟩
  | some x =>
    obtain ⟨t2, a1, b1⟩ := hK T' rfl X'
    exact ⟨t2, stp t2 a1, b1⟩
theorem g_goodin {n : Nat} (hy : kY y' cc' nL' rt' n) : GoodIn tb (Cond.code y' cc' nL' rt' :: tb) := by
  intro w hw
  rcases List.mem_cons.mp hw with rfl | h
  · exact ⟨hy.1, good_of_word (tb_all hy.1).2⟩
  · exact ⟨h, good_of_word (tb_all h).2⟩
theorem g_pre {av : List Value} {s : State} {H : Heap} {A : Nat → Prop} (hB : gB D s) (hP : va_P (D.1, D.2.1) vwCl ws H) (hD : va_D A ws) : PreS s H (gPc D av H.size ws) av :=
  ⟨fun a U g mk q => by obtain ⟨q0, q1, qP, qB, qD⟩ := q; exact ⟨q0, q1, qP, gB.same (u := U) rfl qB, qD⟩, fun U hU hW => ⟨rfl, by rw [hU], by rw [hU]; exact hP, gB.warm hW hB, hD.weaken (fun _ _ _ _ => trivial)⟩⟩
/-- an instance method (private too) of an object of the world -/
theorem g_callVA {idx n b ci N : Nat} {T : u_T} {fs As : List Value} (hm : kM y.cls idx y') (hy : kY y' cc' nL' rt' n) (hi : kI y') (hR : rm'.frames + 1 ≤ rm.frames ∧ 8 + (nL' + 11) + rm'.locals ≤ rm.locals) (hcs : cells + rm'.cells ≤ rm.cells ∧ slots + rm'.slots ≤ rm.slots) (q0 : Nat) (he : ws[q0]? = some (b, .inr (ci, fs))) (hC : vwCl[ci]? = some (y'.cls, T, N)) (hn : As.length = n) (hst : (st.map fun v => v.category).sum ≤ 8) (hd : decode cc pc = .ok (.invokevirtual idx, 3)) {st0 : List Value} (hs : st0 = As.reverse ++ .ref b :: st)
    (hM : Ctr l D y' cc' nL' rt' rm' (.ref b :: As) ws (fun v u => G l D y cc nL rt rm Q (cells + rm'.cells) (slots + rm'.slots) (pc + 3) lv (pv v st) u)) : G l D y cc nL rt rm Q cells slots pc lv st0 ws := by
  intro p e s m args below meth c H locs A ls hF hP hD hS hl
  have hpre := g_pre (av := .ref b :: As) hF.2.2.2.2.2.2.2.2.1 hP hD
  refine g_run (va_runV (As := As) (rest := st) (b := b) (C := y'.cls) (bytes := cc') (maxL := nL') (ret := rt') ⟨hF.1, hF.2.1, hF.2.2.1, hF.2.2.2.2.2.2.1, hF.2.2.2.2.2.2.2.1⟩ (hM H.size) ⟨callB_of n hF.2.2.2.2.2.2.2.1 (g_goodin hy) rfl rfl rfl (hF.2.2.2.2.2.2.2.1 _ hy.2.1) (hF.2.2.2.2.2.2.2.1 _ hm) hy.2.2.1 hR, hF.2.2.2.2.2.2.2.1 _ hi.1, hF.2.2.2.2.2.2.2.1 _ hi.2⟩ ⟨hpre.1, va_recv hF.2.2.2.2.2.2.2.2.1.1 hP hC he, hpre.2⟩ rfl hn hl.1 hs (lv_room hst) hd hcs) hF hD hS hl (fun v u h => h)
/-- a static method of any class, by a plain link -/
theorem g_callSA {idx n : Nat} {As : List Value} (hm : kM y.cls idx y') (hy : kY y' cc' nL' rt' n) (hi : kS y') (hR : rm'.frames + 1 ≤ rm.frames ∧ 8 + (nL' + 11) + rm'.locals ≤ rm.locals) (hcs : cells + rm'.cells ≤ rm.cells ∧ slots + rm'.slots ≤ rm.slots) (hn : As.length = n) (hst : (st.map fun v => v.category).sum ≤ 8) (hd : decode cc pc = .ok (.invokestatic idx, 3)) {st0 : List Value} (hs : st0 = As.reverse ++ st)
    (hM : Ctr l D y' cc' nL' rt' rm' As ws (fun v u => G l D y cc nL rt rm Q (cells + rm'.cells) (slots + rm'.slots) (pc + 3) lv (pv v st) u)) : G l D y cc nL rt rm Q cells slots pc lv st0 ws := by
  intro p e s m args below meth c H locs A ls hF hP hD hS hl
  refine g_run (va_runS (As := As) (rest := st) (bytes := cc') (maxL := nL') (ret := rt') ⟨hF.1, hF.2.1, hF.2.2.1, hF.2.2.2.2.2.2.1, hF.2.2.2.2.2.2.2.1⟩ (hM H.size) ⟨callB_of n hF.2.2.2.2.2.2.2.1 (g_goodin hy) rfl rfl rfl (hF.2.2.2.2.2.2.2.1 _ hy.2.1) (hF.2.2.2.2.2.2.2.1 _ hm) hy.2.2.1 hR, hF.2.2.2.2.2.2.2.1 _ hi⟩ (g_pre hF.2.2.2.2.2.2.2.2.1 hP hD) rfl hn hl.1 hs (lv_room hst) hd hcs) hF hD hS hl (fun v u h => h)
/-- a constructor -/
theorem g_callIA {idx n b : Nat} {As : List Value} (hm : kM y.cls idx y') (hy : kY y' cc' nL' none n) (hi : kN y') (hR : rm'.frames + 1 ≤ rm.frames ∧ 8 + (nL' + 11) + rm'.locals ≤ rm.locals) (hcs : cells + rm'.cells ≤ rm.cells ∧ slots + rm'.slots ≤ rm.slots) (hn : As.length = n) (hst : (st.map fun v => v.category).sum ≤ 8) (hd : decode cc pc = .ok (.invokespecial idx, 3)) {st0 : List Value} (hs : st0 = As.reverse ++ .ref b :: st)
    (hM : Ctr l D y' cc' nL' none rm' (.ref b :: As) ws (fun v u => G l D y cc nL rt rm Q (cells + rm'.cells) (slots + rm'.slots) (pc + 3) lv (pv v st) u)) : G l D y cc nL rt rm Q cells slots pc lv st0 ws := by
  intro p e s m args below meth c H locs A ls hF hP hD hS hl
  refine g_run (va_runI (As := As) (rest := st) (b := b) (bytes := cc') (maxL := nL') ⟨hF.1, hF.2.1, hF.2.2.1, hF.2.2.2.2.2.2.1, hF.2.2.2.2.2.2.2.1⟩ (hM H.size) ⟨callB_of n hF.2.2.2.2.2.2.2.1 (g_goodin hy) rfl rfl rfl (hF.2.2.2.2.2.2.2.1 _ hy.2.1) (hF.2.2.2.2.2.2.2.1 _ hm) hy.2.2.1 hR, hi.2, hF.2.2.2.2.2.2.2.1 _ hi.1⟩ (g_pre hF.2.2.2.2.2.2.2.2.1 hP hD) rfl hn hl.1 hs (lv_room hst) hd hcs) hF hD hS hl (fun v u h => h)
/-- a private static method of the nest's host -/
theorem g_callNA {idx n : Nat} {As : List Value} {host : String} (hm : ∀ s : State, gB D s → va_Nw (.methodLinkNest y.cls idx y' host) s) (hy : kY y' cc' nL' rt' n) (hi : kS y') (hR : rm'.frames + 1 ≤ rm.frames ∧ 8 + (nL' + 11) + rm'.locals ≤ rm.locals) (hcs : cells + rm'.cells ≤ rm.cells ∧ slots + rm'.slots ≤ rm.slots) (hn : As.length = n) (hst : (st.map fun v => v.category).sum ≤ 8) (hd : decode cc pc = .ok (.invokestatic idx, 3)) {st0 : List Value} (hs : st0 = As.reverse ++ st)
    (hM : Ctr l D y' cc' nL' rt' rm' As ws (fun v u => G l D y cc nL rt rm Q (cells + rm'.cells) (slots + rm'.slots) (pc + 3) lv (pv v st) u)) : G l D y cc nL rt rm Q cells slots pc lv st0 ws := by
  intro p e s m args below meth c H locs A ls hF hP hD hS hl
  refine g_run (va_runSN (As := As) (rest := st) (bytes := cc') (maxL := nL') (ret := rt') (host := host) ⟨hF.1, hF.2.1, hF.2.2.1, hF.2.2.2.2.2.2.1, hF.2.2.2.2.2.2.2.1⟩ (hM H.size) ⟨va_cnB n hF.2.2.2.2.2.2.2.1 (g_goodin hy) rfl rfl rfl (hm s hF.2.2.2.2.2.2.2.2.1) (hF.2.2.2.2.2.2.2.1 _ hy.2.1) hy.2.2.1 hR, hF.2.2.2.2.2.2.2.1 _ hi, trivial⟩ (g_pre hF.2.2.2.2.2.2.2.2.1 hP hD) rfl hn hl.1 hs (lv_room hst) hd hcs) hF hD hS hl (fun v u h => h)
theorem rr_ok {d : Nat} (h : nL' ≤ 29) : (rr d).frames + 1 ≤ (rr (d + 1)).frames ∧ 8 + (nL' + 11) + (rr d).locals ≤ (rr (d + 1)).locals := ⟨Nat.le_refl _, by show 8 + (nL' + 11) + 48 * d ≤ 48 * (d + 1); omega⟩
theorem g_callV {d : Nat} {idx n b ci N : Nat} {T : u_T} {fs As : List Value} (hm : kM y.cls idx y') (hy : kY y' cc' nL' rt' n) (hi : kI y') (hnl : nL' ≤ 29) (q0 : Nat) (he : ws[q0]? = some (b, .inr (ci, fs))) (hC : vwCl[ci]? = some (y'.cls, T, N)) (hn : As.length = n) (hst : (st.map fun v => v.category).sum ≤ 8) (hd : decode cc pc = .ok (.invokevirtual idx, 3)) {st0 : List Value} (hs : st0 = As.reverse ++ .ref b :: st)
    (hM : Ctr l D y' cc' nL' rt' (rr d) (.ref b :: As) ws (fun v u => G l D y cc nL rt (rr (d + 1)) Q 0 0 (pc + 3) lv (pv v st) u)) : G l D y cc nL rt (rr (d + 1)) Q 0 0 pc lv st0 ws := by
  have hcs : 0 + (rr d).cells ≤ (rr (d + 1)).cells ∧ 0 + (rr d).slots ≤ (rr (d + 1)).slots := ⟨Nat.le_refl _, Nat.le_refl _⟩
  exact g_callVA hm hy hi (rr_ok hnl) ⟨hcs.1, hcs.2⟩ q0 he hC hn hst hd hs hM
theorem g_callS {d : Nat} {idx n : Nat} {As : List Value} (hm : kM y.cls idx y') (hy : kY y' cc' nL' rt' n) (hi : kS y') (hnl : nL' ≤ 29) (hn : As.length = n) (hst : (st.map fun v => v.category).sum ≤ 8) (hd : decode cc pc = .ok (.invokestatic idx, 3)) {st0 : List Value} (hs : st0 = As.reverse ++ st)
    (hM : Ctr l D y' cc' nL' rt' (rr d) As ws (fun v u => G l D y cc nL rt (rr (d + 1)) Q 0 0 (pc + 3) lv (pv v st) u)) : G l D y cc nL rt (rr (d + 1)) Q 0 0 pc lv st0 ws := by
  have hcs : 0 + (rr d).cells ≤ (rr (d + 1)).cells ∧ 0 + (rr d).slots ≤ (rr (d + 1)).slots := ⟨Nat.le_refl _, Nat.le_refl _⟩
  exact g_callSA hm hy hi (rr_ok hnl) ⟨hcs.1, hcs.2⟩ hn hst hd hs hM
theorem g_callN {d : Nat} {idx n : Nat} {As : List Value} {host : String} (hm : ∀ s : State, gB D s → va_Nw (.methodLinkNest y.cls idx y' host) s) (hy : kY y' cc' nL' rt' n) (hi : kS y') (hnl : nL' ≤ 29) (hn : As.length = n) (hst : (st.map fun v => v.category).sum ≤ 8) (hd : decode cc pc = .ok (.invokestatic idx, 3)) {st0 : List Value} (hs : st0 = As.reverse ++ st)
    (hM : Ctr l D y' cc' nL' rt' (rr d) As ws (fun v u => G l D y cc nL rt (rr (d + 1)) Q 0 0 (pc + 3) lv (pv v st) u)) : G l D y cc nL rt (rr (d + 1)) Q 0 0 pc lv st0 ws := by
  have hcs : 0 + (rr d).cells ≤ (rr (d + 1)).cells ∧ 0 + (rr d).slots ≤ (rr (d + 1)).slots := ⟨Nat.le_refl _, Nat.le_refl _⟩
  exact g_callNA hm hy hi (rr_ok hnl) ⟨hcs.1, hcs.2⟩ hn hst hd hs hM
end ENG
end
section
/-! THE WORLD: every cell of class and reference by its number (Towns 0, 12, 62, 74 with their rows behind them; WeighedWords 24, images 25, Pad 26, signs 27, Day 28, Orders 29, its rows 30 to 32; the reference 33, its rows 34 to 61); L: the addresses; the state: ints of objects, rows of ints, how many images were made, which image lies where -/
abbrev St : Type := (Nat → Nat → Int32) × (Nat → Nat → Int32) × Nat × (Nat → Option Nat)
abbrev sI (σ : St) : Nat → Nat → Int32 := σ.1
abbrev sA (σ : St) : Nat → Nat → Int32 := σ.2.1
abbrev sK (σ : St) : Nat := σ.2.2.1
abbrev sM (σ : St) : Nat → Option Nat := σ.2.2.2
def tnF (I : Nat → Int32) (L : Nat → Nat) (b : Nat) : List Value := [.int (I 0), .int (I 1), .ref (L (b + 1)), .ref (L (b + 2)), .ref (L (b + 3)), .ref (L (b + 4)), .int (I 6), .ref (L (b + 5)), .ref (L (b + 6)), .ref (L (b + 7)), .ref (L (b + 8)), .ref (L (b + 9)), .int (I 12), .int (I 13), .int (I 14), .ref (L (b + 10)), .ref (L (b + 11))]
def mdF (I : Nat → Int32) (L : Nat → Nat) : List Value := [.int (I 0), .int (I 1), .int (I 2), .int (I 3), .ref (L 34), .ref (L 35), .ref (L 36), .ref (L 37), .ref (L 38), .ref (L 39), .ref (L 40), .ref (L 41), .ref (L 42), .int (I 13), .ref (L 43), .ref (L 44), .int (I 16), .ref (L 45), .int (I 18), .ref (L 46), .ref (L 47), .ref (L 48), .ref (L 49), .int (I 23), .int (I 24), .int (I 25), .int (I 26), .int (I 27), .int (I 28), .int (I 29), .ref (L 50), .ref (L 51), .ref (L 52), .ref (L 53), .int (I 34), .ref (L 54), .int (I 36), .ref (L 55), .ref (L 56), .int (I 39), .ref (L 57), .ref (L 58), .ref (L 59), .ref (L 60), .ref (L 61), .int (I 45), .int (I 46)]
def alens : List Nat := [0, 8, 8, 8, 8, 6, 6, 6, 8, 8, 6, 6, 0, 8, 8, 8, 8, 6, 6, 6, 8, 8, 6, 6, 0, 2, 0, 60, 0, 0, 6, 6, 36, 0, 8, 8, 8, 8, 6, 6, 6, 8, 8, 6, 6, 60, 60, 60, 60, 60, 6, 6, 8, 8, 6, 6, 6, 6, 6, 6, 200, 2]
def alen (q : Nat) : Nat := alens.getD (if q < 62 then q else (q - 62) % 12) 0
def cellE (D : gE) (L : Nat → Nat) (q : Nat) (I A : Nat → Int32) (im : Nat → Option Nat) : va_E :=
  if q = 0 ∨ q = 12 ∨ q = 62 ∨ q = 74 then .inr (3, tnF I L q)
  else if q = 24 then .inr (4, [.ref (L 0), .ref (L 12), .ref (L 25), .ref (L 26), .ref (L 28), .ref (L 29)])
  else if q = 25 then .inl (D.2.2.2.2, 2, .inr (.inr (.inr (.inr (fun i => (im i).map L)))))
  else if q = 26 then .inr (2, [.ref (L 27), .int (I 1)])
  else if q = 28 then .inr (0, [.int (I 0), .int (I 1), .int (I 2), .int (I 3), .int (I 4), .int (I 5)])
  else if q = 29 then .inr (1, [.ref (L 30), .ref (L 31), .ref (L 32)])
  else if q = 33 then .inr (5, mdF I L)
  else if q = 61 then .inl (D.2.2.2.1, 2, .inl A)
  else .inl (D.2.2.1, alen q, .inl A)
def wsOf (D : gE) (L : Nat → Nat) (σ : St) : va_W := (List.range (62 + 12 * sK σ)).map (fun q => (L q, cellE D L q (sI σ q) (sA σ q) (sM σ)))
def setI (σ : St) (o k : Nat) (x : Int32) : St := (fun o' => if o' = o then upd (sI σ o) k x else sI σ o', sA σ, sK σ, sM σ)
def setA (σ : St) (q : Nat) (f : Nat → Int32) : St := (sI σ, fun q' => if q' = q then f else sA σ q', sK σ, sM σ)
/-- a Town that is there -/
def tn (σ : St) (b : Nat) : Prop := b = 0 ∨ b = 12 ∨ (b = 62 ∧ 1 ≤ sK σ) ∨ (b = 74 ∧ 2 ≤ sK σ)
/-- an int row with a number of its own -/
def isIA (q : Nat) : Bool := q < 62 && !(q == 0 || q == 12 || q == 24 || q == 25 || q == 26 || q == 28 || q == 29 || q == 33 || q == 61)
section WLD
variable {D : gE} {L : Nat → Nat} {σ : St}
theorem ws_len : (wsOf D L σ).length = 62 + 12 * sK σ := by simp [wsOf]
theorem ws_at {q : Nat} (h : q < 62 + 12 * sK σ) : (wsOf D L σ)[q]? = some (L q, cellE D L q (sI σ q) (sA σ q) (sM σ)) := by
  simp only [wsOf, List.getElem?_map, List.getElem?_range h, Option.map_some]
theorem tn_lt {b : Nat} (h : tn σ b) : b + 11 < 62 + 12 * sK σ := by
  rcases h with h | h | ⟨h, h2⟩ | ⟨h, h2⟩ <;> omega
theorem at_tn {b : Nat} (h : tn σ b) : (wsOf D L σ)[b]? = some (L b, .inr (3, tnF (sI σ b) L b)) := by
  rw [ws_at (by have := tn_lt h; omega)]
  have hb : b = 0 ∨ b = 12 ∨ b = 62 ∨ b = 74 := by rcases h with h | h | ⟨h, -⟩ | ⟨h, -⟩ <;> simp [h]
  unfold cellE
  rw [if_pos hb]
theorem at_ta {b : Nat} (h : tn σ b) (j : Nat) (h1 : 1 ≤ j) (h2 : j ≤ 11) : (wsOf D L σ)[b + j]? = some (L (b + j), .inl (D.2.2.1, alen j, .inl (sA σ (b + j)))) := by
  rw [ws_at (by have := tn_lt h; omega)]
  unfold cellE
  have hb : b = 0 ∨ b = 12 ∨ b = 62 ∨ b = 74 := by rcases h with h | h | ⟨h, -⟩ | ⟨h, -⟩ <;> simp [h]
  rw [if_neg (by omega), if_neg (by omega), if_neg (by omega), if_neg (by omega), if_neg (by omega), if_neg (by omega), if_neg (by omega), if_neg (by omega)]
  have e : alen (b + j) = alen j := by
    have hj : ∀ j, j < 12 → 1 ≤ j → alen (0 + j) = alen j ∧ alen (12 + j) = alen j ∧ alen (62 + j) = alen j ∧ alen (74 + j) = alen j := by decide +kernel
    have := hj j (by omega) h1
    rcases hb with rfl | rfl | rfl | rfl
    · exact this.1
    · exact this.2.1
    · exact this.2.2.1
    · exact this.2.2.2
  rw [e]
theorem at_ia {q : Nat} (h : isIA q = true) : (wsOf D L σ)[q]? = some (L q, .inl (D.2.2.1, alen q, .inl (sA σ q))) := by
  simp only [isIA, Bool.and_eq_true, Bool.not_eq_true', Bool.or_eq_false_iff, beq_eq_false_iff_ne, decide_eq_true_eq] at h
  rw [ws_at (by omega)]
  unfold cellE
  rw [if_neg (by omega), if_neg (by omega), if_neg (by omega), if_neg (by omega), if_neg (by omega), if_neg (by omega), if_neg (by omega), if_neg (by omega)]
theorem at_24 : (wsOf D L σ)[24]? = some (L 24, .inr (4, [.ref (L 0), .ref (L 12), .ref (L 25), .ref (L 26), .ref (L 28), .ref (L 29)])) := ws_at (by omega)
theorem at_25 : (wsOf D L σ)[25]? = some (L 25, .inl (D.2.2.2.2, 2, .inr (.inr (.inr (.inr (fun i => (sM σ i).map L)))))) := ws_at (by omega)
theorem at_26 : (wsOf D L σ)[26]? = some (L 26, .inr (2, [.ref (L 27), .int (sI σ 26 1)])) := ws_at (by omega)
theorem at_28 : (wsOf D L σ)[28]? = some (L 28, .inr (0, [.int (sI σ 28 0), .int (sI σ 28 1), .int (sI σ 28 2), .int (sI σ 28 3), .int (sI σ 28 4), .int (sI σ 28 5)])) := ws_at (by omega)
theorem at_29 : (wsOf D L σ)[29]? = some (L 29, .inr (1, [.ref (L 30), .ref (L 31), .ref (L 32)])) := ws_at (by omega)
theorem at_33 : (wsOf D L σ)[33]? = some (L 33, .inr (5, mdF (sI σ 33) L)) := ws_at (by omega)
theorem at_61 : (wsOf D L σ)[61]? = some (L 61, .inl (D.2.2.2.1, 2, .inl (sA σ 61))) := ws_at (by omega)
theorem ws_ext {σ' : St} {q : Nat} {e : va_E} (hk : sK σ' = sK σ) (h : q < 62 + 12 * sK σ) (hq : cellE D L q (sI σ' q) (sA σ' q) (sM σ') = e) (ho : ∀ r, r ≠ q → cellE D L r (sI σ' r) (sA σ' r) (sM σ') = cellE D L r (sI σ r) (sA σ r) (sM σ)) : (wsOf D L σ).set q (L q, e) = wsOf D L σ' := by
  apply List.ext_getElem?
  intro r
  by_cases hr : r < 62 + 12 * sK σ
  · rw [List.getElem?_set, ws_at (σ := σ') (by rw [hk]; exact hr)]
    by_cases e1 : q = r
    · subst e1
      rw [if_pos rfl, if_pos (by rw [ws_len]; exact hr), hq]
    · rw [if_neg e1, ws_at hr, ho r (fun z => e1 z.symm)]
  · rw [List.getElem?_eq_none (by rw [List.length_set, ws_len]; omega), List.getElem?_eq_none (by rw [ws_len, hk]; omega)]
theorem ws_setI {o k ci : Nat} {x : Int32} {fs : List Value} (ho : o < 62 + 12 * sK σ) (hc : cellE D L o (upd (sI σ o) k x) (sA σ o) (sM σ) = .inr (ci, fs)) : (wsOf D L σ).set o (L o, .inr (ci, fs)) = wsOf D L (setI σ o k x) := by
  refine ws_ext (by rfl) ho ?_ ?_
  · show cellE D L o (if o = o then _ else _) _ _ = _
    rw [if_pos rfl]
    exact hc
  · intro r hr
    show cellE D L r (if r = o then _ else _) _ _ = _
    rw [if_neg hr]
    rfl
theorem ws_setA {q n : Nat} {c : ClassId} (h : (wsOf D L σ)[q]? = some (L q, .inl (c, n, .inl (sA σ q)))) (f : Nat → Int32) : (wsOf D L σ).set q (L q, .inl (c, n, .inl f)) = wsOf D L (setA σ q f) := by
  have hq : q < 62 + 12 * sK σ := by
    rw [← ws_len (D := D) (L := L)]
    exact (List.getElem?_eq_some_iff.mp h).1
  rw [ws_at hq] at h
  have h1 := (Prod.mk.inj (Option.some.inj h)).2
  refine ws_ext (by rfl) hq ?_ ?_
  · show cellE D L q _ (if q = q then _ else _) _ = _
    rw [if_pos rfl]
    show cellE D L q (sI σ q) f (sM σ) = _
    revert h1
    unfold cellE
    split
    · intro h1; cases h1
    split
    · intro h1; cases h1
    split
    · intro h1; injection h1 with h1; injection h1 with h1 h2; injection h2 with h2 h3; cases h3
    split
    · intro h1; cases h1
    split
    · intro h1; cases h1
    split
    · intro h1; cases h1
    split
    · intro h1; cases h1
    split
    · intro h1; injection h1 with h1; injection h1 with h1 h2; injection h2 with h2 h3; rw [h1, h2]
    · intro h1; injection h1 with h1; injection h1 with h1 h2; injection h2 with h2 h3; rw [h1, h2]
  · intro r hr
    show cellE D L r _ (if r = q then _ else _) _ = _
    rw [if_neg hr]
    rfl
theorem tnF_set {I : Nat → Int32} {b k : Nat} {x : Int32} (hk : k = 0 ∨ k = 1 ∨ k = 6 ∨ k = 12 ∨ k = 13 ∨ k = 14) : tnF (upd I k x) L b = (tnF I L b).set k (.int x) := by
  rcases hk with rfl | rfl | rfl | rfl | rfl | rfl <;> rfl
theorem mdF_set {I : Nat → Int32} {k : Nat} {x : Int32} (hk : [0, 1, 2, 3, 13, 16, 18, 23, 24, 25, 26, 27, 28, 29, 34, 36, 39, 45, 46].contains k = true) : mdF (upd I k x) L = (mdF I L).set k (.int x) := by
  have hk := List.contains_iff_mem.mp hk
  simp only [List.mem_cons, List.not_mem_nil, or_false] at hk
  rcases hk with rfl | rfl | rfl | rfl | rfl | rfl | rfl | rfl | rfl | rfl | rfl | rfl | rfl | rfl | rfl | rfl | rfl | rfl | rfl <;> rfl
theorem put_tn {b k : Nat} {x : Int32} (h : tn σ b) (hk : k = 0 ∨ k = 1 ∨ k = 6 ∨ k = 12 ∨ k = 13 ∨ k = 14) : (wsOf D L σ).set b (L b, .inr (3, (tnF (sI σ b) L b).set k (.int x))) = wsOf D L (setI σ b k x) := by
  have hb : b = 0 ∨ b = 12 ∨ b = 62 ∨ b = 74 := by rcases h with h | h | ⟨h, -⟩ | ⟨h, -⟩ <;> simp [h]
  refine ws_setI (by have := tn_lt h; omega) ?_
  unfold cellE
  rw [if_pos hb, tnF_set hk]
theorem put_33 {k : Nat} {x : Int32} (hk : [0, 1, 2, 3, 13, 16, 18, 23, 24, 25, 26, 27, 28, 29, 34, 36, 39, 45, 46].contains k = true) : (wsOf D L σ).set 33 (L 33, .inr (5, (mdF (sI σ 33) L).set k (.int x))) = wsOf D L (setI σ 33 k x) := by
  refine ws_setI (by omega) ?_
  show (Sum.inr (5, mdF _ L) : va_E) = _
  rw [mdF_set hk]
theorem put_26 {x : Int32} : (wsOf D L σ).set 26 (L 26, .inr (2, ([.ref (L 27), .int (sI σ 26 1)] : List Value).set 1 (.int x))) = wsOf D L (setI σ 26 1 x) := ws_setI (by omega) rfl
theorem put_28 {k : Nat} {x : Int32} (hk : k < 6) : (wsOf D L σ).set 28 (L 28, .inr (0, ([.int (sI σ 28 0), .int (sI σ 28 1), .int (sI σ 28 2), .int (sI σ 28 3), .int (sI σ 28 4), .int (sI σ 28 5)] : List Value).set k (.int x))) = wsOf D L (setI σ 28 k x) := by
  refine ws_setI (by omega) ?_
  rcases (show k = 0 ∨ k = 1 ∨ k = 2 ∨ k = 3 ∨ k = 4 ∨ k = 5 by omega) with rfl | rfl | rfl | rfl | rfl | rfl <;> rfl
end WLD
section WR
variable {l : Launch} {D : gE} {y y' : MethodName} {cc cc' : ByteArray} {nL nL' : Nat} {rt rt' : Option FieldType} {rm rm' : Room} {Q Q' : Option Value → va_W → Prop} {cells slots pc : Nat} {lv lv' : List (Nat × Value)} {st : List Value} {L : Nat → Nat} {σ : St}
/-- a row read and written at a number -/
theorem s_ald {q n j : Nat} (ha : (wsOf D L σ)[q]? = some (L q, .inl (D.2.2.1, n, .inl (sA σ q)))) (hj : j < n) (hn : n < 2 ^ 31) (hd : decode cc pc = .ok (.iaload, 1)) (kk : G l D y cc nL rt rm Q cells slots (pc + 1) lv (.int (sA σ q j) :: st) (wsOf D L σ)) : G l D y cc nL rt rm Q cells slots pc lv (.int (nI j) :: .ref (L q) :: st) (wsOf D L σ) := by
  refine g_iaload q ha (vp_in_nI hj hn) hd ?_
  rw [nI_clamp (by omega)]
  exact kk
theorem s_ast {q n j : Nat} {x : Int32} (ha : (wsOf D L σ)[q]? = some (L q, .inl (D.2.2.1, n, .inl (sA σ q)))) (hj : j < n) (hn : n < 2 ^ 31) (hd : decode cc pc = .ok (.iastore, 1)) (kk : G l D y cc nL rt rm Q cells slots (pc + 1) lv st (wsOf D L (setA σ q (upd (sA σ q) j x)))) : G l D y cc nL rt rm Q cells slots pc lv (.int x :: .int (nI j) :: .ref (L q) :: st) (wsOf D L σ) := by
  refine g_iastore q ha (vp_in_nI hj hn) hd (ws' := wsOf D L (setA σ q (upd (sA σ q) j x))) ?_ kk
  rw [nI_clamp (by omega)]
  exact ws_setA ha _
/-- fields of a Town -/
theorem s_getT {b idx k : Nat} {v : Value} (hb : tn σ b) (hf : kF y.cls idx RX3 TX3 k) (hk : k < 17) (hv : (tnF (sI σ b) L b)[k]? = some v) (hd : decode cc pc = .ok (.getfield idx, 3)) (kk : G l D y cc nL rt rm Q cells slots (pc + 3) lv (v :: st) (wsOf D L σ)) : G l D y cc nL rt rm Q cells slots pc lv (.ref (L b) :: st) (wsOf D L σ) := g_get hf kC_X3 hk b (at_tn hb) hv hd kk
theorem s_putT {b idx k : Nat} {x : Int32} (hb : tn σ b) (hf : kF y.cls idx RX3 TX3 k) (hk : k = 0 ∨ k = 1 ∨ k = 6 ∨ k = 12 ∨ k = 13 ∨ k = 14) (hd : decode cc pc = .ok (.putfield idx, 3)) (kk : G l D y cc nL rt rm Q cells slots (pc + 3) lv st (wsOf D L (setI σ b k x))) : G l D y cc nL rt rm Q cells slots pc lv (.int x :: .ref (L b) :: st) (wsOf D L σ) := by
  have h0 : k < 17 ∧ (TX3 k).2.2.2 = false ∧ tyX3 k = .int := by rcases hk with rfl | rfl | rfl | rfl | rfl | rfl <;> exact ⟨by omega, rfl, rfl⟩
  exact g_put hf kC_X3 kT_X3 h0.1 b (at_tn hb) h0.2.1 (by rw [h0.2.2]; rfl) (by rw [h0.2.2]; rfl) h0.1 hd (put_tn hb hk) kk
/-- fields of the reference -/
theorem s_getM {idx k : Nat} {v : Value} (hf : kF y.cls idx RX5 TX5 k) (hk : k < 47) (hv : (mdF (sI σ 33) L)[k]? = some v) (hd : decode cc pc = .ok (.getfield idx, 3)) (kk : G l D y cc nL rt rm Q cells slots (pc + 3) lv (v :: st) (wsOf D L σ)) : G l D y cc nL rt rm Q cells slots pc lv (.ref (L 33) :: st) (wsOf D L σ) := g_get hf kC_X5 hk 33 at_33 hv hd kk
theorem s_putM {idx k : Nat} {x : Int32} (hf : kF y.cls idx RX5 TX5 k) (hk : [0, 1, 2, 3, 13, 16, 18, 23, 24, 25, 26, 27, 28, 29, 34, 36, 39, 45].contains k = true) (hd : decode cc pc = .ok (.putfield idx, 3)) (kk : G l D y cc nL rt rm Q cells slots (pc + 3) lv st (wsOf D L (setI σ 33 k x))) : G l D y cc nL rt rm Q cells slots pc lv (.int x :: .ref (L 33) :: st) (wsOf D L σ) := by
  have h0 : ∀ k, [0, 1, 2, 3, 13, 16, 18, 23, 24, 25, 26, 27, 28, 29, 34, 36, 39, 45].contains k = true → k < 47 ∧ (TX5 k).2.2.2 = false ∧ tyX5 k = .int := by
    intro k hk
    have hk := List.contains_iff_mem.mp hk
    simp only [List.mem_cons, List.not_mem_nil, or_false] at hk
    rcases hk with rfl | rfl | rfl | rfl | rfl | rfl | rfl | rfl | rfl | rfl | rfl | rfl | rfl | rfl | rfl | rfl | rfl | rfl <;> exact ⟨by omega, rfl, rfl⟩
  have h0 := h0 k hk
  exact g_put hf kC_X5 kT_X5 h0.1 33 at_33 h0.2.1 (by rw [h0.2.2]; rfl) (by rw [h0.2.2]; rfl) (by show k < 47; exact h0.1) hd (put_33 (by revert hk; simp only [List.contains_iff_mem, List.mem_cons, List.not_mem_nil, or_false]; omega)) kk
/-- the reference's boolean field -/
theorem s_putMz {idx : Nat} {x : Int32} (hx : x = 0 ∨ x = 1) (hf : kF y.cls idx RX5 TX5 46) (hd : decode cc pc = .ok (.putfield idx, 3)) (kk : G l D y cc nL rt rm Q cells slots (pc + 3) lv st (wsOf D L (setI σ 33 46 x))) : G l D y cc nL rt rm Q cells slots pc lv (.int x :: .ref (L 33) :: st) (wsOf D L σ) :=
  g_put hf kC_X5 kT_X5 (by decide) 33 at_33 rfl (by rcases hx with rfl | rfl <;> rfl) (by rcases hx with rfl | rfl <;> rfl) (by show 46 < 47; decide) hd (put_33 (by decide)) kk
theorem s_putP {idx : Nat} {x : Int32} (hf : kF y.cls idx RX2 TX2 1) (hd : decode cc pc = .ok (.putfield idx, 3)) (kk : G l D y cc nL rt rm Q cells slots (pc + 3) lv st (wsOf D L (setI σ 26 1 x))) : G l D y cc nL rt rm Q cells slots pc lv (.int x :: .ref (L 26) :: st) (wsOf D L σ) :=
  g_put hf kC_X2 kT_X2 (by decide) 26 at_26 rfl rfl rfl (Nat.lt_succ_self 1) hd put_26 kk
theorem s_putD {idx k : Nat} {x : Int32} (hk : k < 6) (hf : kF y.cls idx RX0 TX0 k) (hd : decode cc pc = .ok (.putfield idx, 3)) (kk : G l D y cc nL rt rm Q cells slots (pc + 3) lv st (wsOf D L (setI σ 28 k x))) : G l D y cc nL rt rm Q cells slots pc lv (.int x :: .ref (L 28) :: st) (wsOf D L σ) := by
  have h0 : (TX0 k).2.2.2 = false ∧ tyX0 k = .int := by rcases (show k = 0 ∨ k = 1 ∨ k = 2 ∨ k = 3 ∨ k = 4 ∨ k = 5 by omega) with rfl | rfl | rfl | rfl | rfl | rfl <;> exact ⟨rfl, rfl⟩
  exact g_put hf kC_X0 kT_X0 hk 28 at_28 h0.1 (by rw [h0.2]; rfl) (by rw [h0.2]; rfl) hk hd (put_28 hk) kk
end WR
end
section
-- out of kit/laws (starting texts): fa_, fb_, bt rows
theorem fa_lt (a b : Int32) : a < b ↔ a.toInt < b.toInt := Int32.lt_iff_toInt_lt
theorem fa_le (a b : Int32) : a ≤ b ↔ a.toInt ≤ b.toInt := Int32.le_iff_toInt_le
theorem fa_eq (a b : Int32) : a = b ↔ a.toInt = b.toInt := Int32.toInt_inj.symm
theorem fa_lt64 (a b : Int64) : a < b ↔ a.toInt < b.toInt := Int64.lt_iff_toInt_lt
theorem fa_le64 (a b : Int64) : a ≤ b ↔ a.toInt ≤ b.toInt := Int64.le_iff_toInt_le
theorem fa_eq64 (a b : Int64) : a = b ↔ a.toInt = b.toInt := Int64.toInt_inj.symm
theorem fa_wide_lt (a b : Int32) : a.toInt64 < b.toInt64 ↔ a < b := by rw [fa_lt64, fa_lt, Int32.toInt_toInt64, Int32.toInt_toInt64]
theorem fa_wide_le (a b : Int32) : a.toInt64 ≤ b.toInt64 ↔ a ≤ b := by rw [fa_le64, fa_le, Int32.toInt_toInt64, Int32.toInt_toInt64]
theorem fa_wide_eq (a b : Int32) : a.toInt64 = b.toInt64 ↔ a = b := by rw [fa_eq64, fa_eq, Int32.toInt_toInt64, Int32.toInt_toInt64]
theorem fa_and (a b : Nat) : nI a &&& nI b = nI (a &&& b) := by
  apply Int32.toBitVec_inj.1
  show BitVec.ofNat 32 a &&& BitVec.ofNat 32 b = BitVec.ofNat 32 (a &&& b)
  apply BitVec.eq_of_getLsbD_eq
  intro i hi
  simp [hi]
theorem fa_or (a b : Nat) : nI a ||| nI b = nI (a ||| b) := by
  apply Int32.toBitVec_inj.1
  show BitVec.ofNat 32 a ||| BitVec.ofNat 32 b = BitVec.ofNat 32 (a ||| b)
  apply BitVec.eq_of_getLsbD_eq
  intro i hi
  simp [hi]
theorem fa_or_sum {a k : Nat} (b : Nat) (h : a < 2 ^ k) : nI (2 ^ k * b) ||| nI a = nI (2 ^ k * b + a) := by rw [fa_or, Nat.two_pow_add_eq_or_of_lt h]
theorem fa_lit (n : Nat) : (OfNat.ofNat n : Int32) = nI n := rfl
theorem fa_litL (n : Nat) : (OfNat.ofNat n : Int64) = lN n := rfl
theorem fb_xorI (a b : Nat) : nI a ^^^ nI b = nI (a ^^^ b) := by
  apply Int32.toBitVec_inj.1
  show BitVec.ofNat 32 a ^^^ BitVec.ofNat 32 b = BitVec.ofNat 32 (a ^^^ b)
  apply BitVec.eq_of_getLsbD_eq
  intro i hi
  simp [hi]
theorem fb_rng (x : Int32) : -2147483648 ≤ x.toInt ∧ x.toInt < 2147483648 := by
  have h1 := Int32.le_toInt x
  have h2 := Int32.toInt_lt x
  omega
theorem fb_bmod {z : Int} (h1 : -2147483648 ≤ z) (h2 : z < 2147483648) : z.bmod (2 ^ 32) = z := by
  rw [Int.bmod_eq_of_le (by omega) (by omega)]
theorem fb_addI {x y : Int32} (h1 : -2147483648 ≤ x.toInt + y.toInt) (h2 : x.toInt + y.toInt < 2147483648) : (x + y).toInt = x.toInt + y.toInt := by
  rw [Int32.toInt_add, fb_bmod h1 h2]
theorem fb_subI {x y : Int32} (h1 : -2147483648 ≤ x.toInt - y.toInt) (h2 : x.toInt - y.toInt < 2147483648) : (x - y).toInt = x.toInt - y.toInt := by
  rw [Int32.toInt_sub, fb_bmod h1 h2]
theorem fb_mulI {x y : Int32} (h1 : -2147483648 ≤ x.toInt * y.toInt) (h2 : x.toInt * y.toInt < 2147483648) : (x * y).toInt = x.toInt * y.toInt := by
  rw [Int32.toInt_mul, fb_bmod h1 h2]
theorem fb_ofI {z : Int} (h1 : -2147483648 ≤ z) (h2 : z < 2147483648) : (Int32.ofInt z).toInt = z := by
  rw [Int32.toInt_ofInt, fb_bmod h1 h2]
theorem fb_asI (x : Int32) : Int32.ofInt x.toInt = x := Int32.ofInt_toInt x
theorem fb_rngL (x : Int64) : -9223372036854775808 ≤ x.toInt ∧ x.toInt < 9223372036854775808 := by
  have h1 := Int64.le_toInt x
  have h2 := Int64.toInt_lt x
  omega
theorem fb_bmodL {z : Int} (h1 : -9223372036854775808 ≤ z) (h2 : z < 9223372036854775808) : z.bmod (2 ^ 64) = z := by
  rw [Int.bmod_eq_of_le (by omega) (by omega)]
theorem fb_addL {x y : Int64} (h1 : -9223372036854775808 ≤ x.toInt + y.toInt) (h2 : x.toInt + y.toInt < 9223372036854775808) : (x + y).toInt = x.toInt + y.toInt := by
  rw [Int64.toInt_add, fb_bmodL h1 h2]
theorem fb_subL {x y : Int64} (h1 : -9223372036854775808 ≤ x.toInt - y.toInt) (h2 : x.toInt - y.toInt < 9223372036854775808) : (x - y).toInt = x.toInt - y.toInt := by
  rw [Int64.toInt_sub, fb_bmodL h1 h2]
theorem fb_mulL {x y : Int64} (h1 : -9223372036854775808 ≤ x.toInt * y.toInt) (h2 : x.toInt * y.toInt < 9223372036854775808) : (x * y).toInt = x.toInt * y.toInt := by
  rw [Int64.toInt_mul, fb_bmodL h1 h2]
def bt (x : Int32) (i : Nat) : Bool := x.toBitVec.getLsbD i
theorem b_ext {x y : Int32} (h : ∀ i, i < 32 → bt x i = bt y i) : x = y := Int32.toBitVec_inj.mp (BitVec.eq_of_getLsbD_eq (fun i hi => h i hi))
theorem b_or (x y : Int32) (i : Nat) : bt (x ||| y) i = (bt x i || bt y i) := by unfold bt; rw [Int32.toBitVec_or, BitVec.getLsbD_or]
theorem b_and (x y : Int32) (i : Nat) : bt (x &&& y) i = (bt x i && bt y i) := by unfold bt; rw [Int32.toBitVec_and, BitVec.getLsbD_and]
theorem b_xor (x y : Int32) (i : Nat) : bt (x ^^^ y) i = (bt x i ^^ bt y i) := by unfold bt; rw [Int32.toBitVec_xor, BitVec.getLsbD_xor]
theorem b_big {x : Int32} {i : Nat} (h : 32 ≤ i) : bt x i = false := BitVec.getLsbD_of_ge _ _ h
theorem b_m1 : ∀ i, i < 32 → bt (-1) i = true := by decide +kernel
theorem s_l : ∀ n, n < 32 → ((nI n &&& 31).toBitVec.smod 32).toNat = n := by decide +kernel
theorem s_u : ∀ n, n < 32 → (((nI n).toUInt32 &&& Int32.toUInt32 31).toBitVec % 32).toNat = n := by decide +kernel
theorem b_shl (n : Nat) (hn : n < 32) (x : Int32) {i : Nat} (hi : i < 32) : bt (x <<< (nI n &&& 31)) i = (decide (n ≤ i) && bt x (i - n)) := by
  unfold bt
  rw [Int32.toBitVec_shiftLeft]
  show (x.toBitVec <<< ((nI n &&& 31).toBitVec.smod 32).toNat).getLsbD i = _
  rw [s_l n hn, BitVec.getLsbD_shiftLeft]
  rcases Nat.lt_or_ge i n with h | h
  · simp [h, Nat.not_le.mpr h]
  · simp [hi, h, Nat.not_lt.mpr h]
theorem b_ushr (n : Nat) (hn : n < 32) (x : Int32) (i : Nat) : bt ((x.toUInt32 >>> ((nI n).toUInt32 &&& Int32.toUInt32 31)).toInt32) i = bt x (n + i) := by
  show (x.toUInt32 >>> ((nI n).toUInt32 &&& Int32.toUInt32 31)).toBitVec.getLsbD i = x.toUInt32.toBitVec.getLsbD (n + i)
  rw [UInt32.toBitVec_shiftRight]
  show (x.toUInt32.toBitVec >>> (((nI n).toUInt32 &&& Int32.toUInt32 31).toBitVec % 32).toNat).getLsbD i = _
  rw [s_u n hn, BitVec.getLsbD_ushiftRight]
theorem b_sshr (n : Nat) (hn : n < 32) (x : Int32) {i : Nat} (hi : i < 32) : bt (x >>> (nI n &&& 31)) i = if n + i < 32 then bt x (n + i) else bt x 31 := by
  unfold bt
  rw [Int32.toBitVec_shiftRight]
  show (x.toBitVec.sshiftRight ((nI n &&& 31).toBitVec.smod 32).toNat).getLsbD i = _
  rw [s_l n hn, BitVec.getLsbD_sshiftRight, BitVec.msb_eq_getLsbD_last]
  simp [hi]
/-! numbers of one bit, bits by a predicate -/
def b2n (b : Bool) : Nat := if b then 1 else 0
theorem b2n_t : b2n true = 1 := rfl
theorem b2n_f : b2n false = 0 := rfl
theorem b2n_lt (b : Bool) : b2n b < 2 := by cases b <;> decide
def bitsN (f : Nat → Bool) : Nat → Nat
  | 0 => 0
  | n + 1 => bitsN f n + (if f n then 2 ^ n else 0)
theorem bitsN_lt (f : Nat → Bool) : ∀ n, bitsN f n < 2 ^ n
  | 0 => by simp [bitsN]
  | n + 1 => by
    have h := bitsN_lt f n
    simp only [bitsN, Nat.pow_succ]
    split <;> omega
theorem bitsN_tb (f : Nat → Bool) : ∀ (n i : Nat), (bitsN f n).testBit i = (decide (i < n) && f i)
  | 0, i => by simp [bitsN]
  | n + 1, i => by
    have h := bitsN_lt f n
    have ih := bitsN_tb f n i
    have e : bitsN f (n + 1) = 2 ^ n * (b2n (f n)) + bitsN f n := by
      simp only [bitsN, b2n]
      split <;> omega
    rw [e, Nat.testBit_two_pow_mul_add _ h]
    by_cases h1 : i < n
    · rw [if_pos h1, ih]
      simp [h1, Nat.lt_succ_of_lt h1]
    · rw [if_neg h1]
      by_cases h2 : i = n
      · subst h2
        rw [Nat.sub_self]
        cases f i <;> simp [b2n]
      · rw [decide_eq_false (by omega : ¬ i < n + 1), Bool.false_and]
        obtain ⟨j, hj⟩ : ∃ j, i - n = j + 1 := ⟨i - n - 1, by omega⟩
        rw [hj]
        cases f n <;> simp [b2n, Nat.testBit_succ]
theorem bitsN_in (f : Nat → Bool) {n i : Nat} (h : i < n) : (bitsN f n).testBit i = f i := by rw [bitsN_tb, decide_eq_true h, Bool.true_and]
theorem bitsN_cong {f g : Nat → Bool} : ∀ {n : Nat}, (∀ i, i < n → f i = g i) → bitsN f n = bitsN g n
  | 0, _ => rfl
  | n + 1, h => by
    simp only [bitsN]
    rw [bitsN_cong (fun i hi => h i (Nat.lt_succ_of_lt hi)), h n (Nat.lt_succ_self n)]
theorem bitsN_of {a n : Nat} (h : a < 2 ^ n) : bitsN a.testBit n = a := by
  apply Nat.eq_of_testBit_eq
  intro i
  rw [bitsN_tb]
  by_cases hi : i < n
  · simp [hi]
  · rw [decide_eq_false hi, Bool.false_and, Nat.testBit_lt_two_pow (Nat.lt_of_lt_of_le h (Nat.pow_le_pow_right (by decide) (by omega)))]
theorem bitsN_inj {f g : Nat → Bool} {n : Nat} (h : bitsN f n = bitsN g n) {i : Nat} (hi : i < n) : f i = g i := by rw [← bitsN_in f hi, h, bitsN_in g hi]
theorem bitsN_of_tb {f : Nat → Bool} {n a : Nat} (ha : a < 2 ^ n) (h : ∀ i, i < n → a.testBit i = f i) : a = bitsN f n := by rw [← bitsN_of ha]; exact bitsN_cong h
theorem p31 {n : Nat} (h : n ≤ 31) : 2 ^ n ≤ 2 ^ 31 := Nat.pow_le_pow_right (by decide) h
theorem bitsN31 (f : Nat → Bool) {n : Nat} (h : n ≤ 31) : bitsN f n < 2 ^ 31 := Nat.lt_of_lt_of_le (bitsN_lt f n) (p31 h)
theorem sh1 : ∀ k, k < 31 → nI 1 <<< (nI k &&& 31) = nI (2 ^ k) := by decide +kernel
theorem tb_mod (a k : Nat) : a / 2 ^ k % 2 = b2n (a.testBit k) := by
  rw [Nat.testBit_eq_decide_div_mod_eq]
  unfold b2n
  by_cases h : a / 2 ^ k % 2 = 1
  · simp [h]
  · simp only [h, decide_false]; simp; omega
/-- a bit of a number, shifted down -/
theorem gb {a k : Nat} (ha : a < 2 ^ 31) (hk : k < 31) : (nI a >>> (nI k &&& 31)) &&& nI 1 = nI (b2n (a.testBit k)) := by
  rw [pk_shrN ha (nI k &&& 31) k (s_l k (by omega)), show (nI 1) = nI (2 ^ 1 - 1) from rfl, fa_and, Nat.and_two_pow_sub_one_eq_mod, ← tb_mod]
theorem gbB (f : Nat → Bool) {n k : Nat} (hn : n ≤ 31) (hk : k < n) : (nI (bitsN f n) >>> (nI k &&& 31)) &&& nI 1 = nI (b2n (f k)) := by
  rw [gb (bitsN31 f hn) (by omega), bitsN_in f hk]
theorem obB (f : Nat → Bool) {n k : Nat} (hn : n ≤ 31) (hk : k < n) : nI (bitsN f n) ||| (nI 1 <<< (nI k &&& 31)) = nI (bitsN (fun i => f i || i == k) n) := by
  rw [sh1 k (by omega), fa_or]
  congr 1
  refine bitsN_of_tb (Nat.or_lt_two_pow (bitsN_lt f n) (Nat.pow_lt_pow_right (by decide) hk)) (fun i hi => ?_)
  rw [Nat.testBit_or, bitsN_in f hi, Nat.testBit_two_pow]
  by_cases h : k = i
  · simp [h]
  · simp [h]
    intro e
    exact absurd e.symm h
/-- one more bit on top -/
theorem obT (f : Nat → Bool) {k : Nat} (hk : k < 31) (h : f k = true) : nI (bitsN f k) ||| (nI 1 <<< (nI k &&& 31)) = nI (bitsN f (k + 1)) := by
  rw [sh1 k hk, fa_or]
  congr 1
  simp only [bitsN, h, if_true]
  rw [Nat.or_comm, show 2 ^ k = 2 ^ k * 1 by omega, ← Nat.two_pow_add_eq_or_of_lt (bitsN_lt f k) 1]
  omega
theorem obF (f : Nat → Bool) {k : Nat} (h : f k = false) : nI (bitsN f k) = nI (bitsN f (k + 1)) := by
  simp [bitsN, h]
theorem or0 (x : Int32) : x ||| nI 0 = x := by
  apply b_ext
  intro i hi
  rw [b_or]
  have : bt (nI 0) i = false := by unfold bt nI; simp
  rw [this, Bool.or_false]
theorem nb0 (a b : Nat) : nI a &&& (nI b ^^^ (-1)) = nI (a ^^^ (a &&& b)) := by
  rw [← fb_xorI, ← fa_and]
  apply b_ext
  intro i hi
  rw [b_and, b_xor, b_m1 i hi, b_xor, b_and]
  cases bt (nI a) i <;> cases bt (nI b) i <;> rfl
theorem nbB (f : Nat → Bool) {n k : Nat} (hn : n ≤ 31) (hk : k < n) : nI (bitsN f n) &&& ((nI 1 <<< (nI k &&& 31)) ^^^ (-1)) = nI (bitsN (fun i => f i && !(i == k)) n) := by
  rw [sh1 k (by omega), nb0]
  congr 1
  refine bitsN_of_tb (Nat.xor_lt_two_pow (bitsN_lt f n) (Nat.lt_of_le_of_lt Nat.and_le_left (bitsN_lt f n))) (fun i hi => ?_)
  rw [Nat.testBit_xor, Nat.testBit_and, bitsN_in f hi, Nat.testBit_two_pow]
  by_cases h : k = i
  · subst h; cases f k <;> simp
  · simp [h]
    intro _ e
    exact h e.symm
theorem abB (f : Nat → Bool) {n k : Nat} (hn : n ≤ 31) (hk : k < n) : nI (bitsN f n) &&& (nI 1 <<< (nI k &&& 31)) = nI (if f k then 2 ^ k else 0) := by
  rw [sh1 k (by omega), fa_and]
  congr 1
  apply Nat.eq_of_testBit_eq
  intro i
  rw [Nat.testBit_and, bitsN_tb, Nat.testBit_two_pow]
  by_cases h : k = i
  · subst h; cases hf : f k <;> simp [hk, Nat.testBit_two_pow]
  · cases hf : f k <;> simp [h, Nat.testBit_two_pow]
theorem sbB {a : Nat} (f : Nat → Bool) {n : Nat} (hn : n ≤ 31) (ha : a < 2 ^ n) : nI a &&& (nI (bitsN f n) ^^^ (-1)) = 0 ↔ ∀ i, i < n → a.testBit i = true → f i = true := by
  rw [nb0]
  have h31 : a ^^^ (a &&& bitsN f n) < 2 ^ 31 := Nat.lt_of_lt_of_le (Nat.xor_lt_two_pow ha (Nat.lt_of_le_of_lt Nat.and_le_left ha)) (p31 hn)
  rw [show (0 : Int32) = nI 0 from rfl, nI_eq h31 (by decide)]
  constructor
  · intro h i hi ht
    have h1 : (a ^^^ (a &&& bitsN f n)).testBit i = false := by rw [h]; simp
    rw [Nat.testBit_xor, Nat.testBit_and, bitsN_in f hi, ht] at h1
    cases hf : f i
    · rw [hf] at h1; simp at h1
    · rfl
  · intro h
    apply Nat.eq_of_testBit_eq
    intro i
    rw [Nat.testBit_xor, Nat.testBit_and, bitsN_tb]
    by_cases hi : i < n
    · cases ht : a.testBit i
      · simp
      · simp [hi, h i hi ht]
    · rw [Nat.testBit_lt_two_pow (Nat.lt_of_lt_of_le ha (Nat.pow_le_pow_right (by decide) (by omega)))]
      simp
/-- how many -/
def cntN (f : Nat → Bool) : Nat → Nat
  | 0 => 0
  | n + 1 => cntN f n + b2n (f n)
theorem cntN_le (f : Nat → Bool) : ∀ n, cntN f n ≤ n
  | 0 => Nat.le_refl _
  | n + 1 => by have h := cntN_le f n; have := b2n_lt (f n); simp only [cntN]; omega
theorem cntN_cong {f g : Nat → Bool} : ∀ {n : Nat}, (∀ i, i < n → f i = g i) → cntN f n = cntN g n
  | 0, _ => rfl
  | n + 1, h => by
    simp only [cntN]
    rw [cntN_cong (fun i hi => h i (Nat.lt_succ_of_lt hi)), h n (Nat.lt_succ_self n)]
theorem cntN_pos {f : Nat → Bool} : ∀ {n i : Nat}, i < n → f i = true → 0 < cntN f n
  | 0, _, h, _ => absurd h (Nat.not_lt_zero _)
  | n + 1, i, h, hf => by
    simp only [cntN]
    by_cases hi : i = n
    · subst hi; rw [hf, b2n_t]; omega
    · have := cntN_pos (n := n) (i := i) (by omega) hf; omega
def pop (n : Nat) : Nat := cntN n.testBit 8
theorem pop_bits {f : Nat → Bool} {n : Nat} (hn : n ≤ 8) : pop (bitsN f n) = cntN f n := by
  have h : ∀ m, n ≤ m → cntN (bitsN f n).testBit m = cntN f n := by
    intro m hm
    induction m with
    | zero => have : n = 0 := by omega
              subst this; rfl
    | succ m ih =>
      by_cases e : n = m + 1
      · subst e
        exact cntN_cong (fun i hi => bitsN_in f hi)
      · simp only [cntN]
        rw [ih (by omega), bitsN_tb, decide_eq_false (by omega), Bool.false_and, b2n_f]; rfl
  exact h 8 hn
/-- a sum of whole numbers -/
def sumN (f : Nat → Int) : Nat → Int
  | 0 => 0
  | n + 1 => sumN f n + f n
theorem sumN_cong {f g : Nat → Int} : ∀ {n : Nat}, (∀ i, i < n → f i = g i) → sumN f n = sumN g n
  | 0, _ => rfl
  | n + 1, h => by
    simp only [sumN]
    rw [sumN_cong (fun i hi => h i (Nat.lt_succ_of_lt hi)), h n (Nat.lt_succ_self n)]
theorem sumN_bound {f : Nat → Int} {c : Int} : ∀ {n : Nat}, (∀ i, i < n → -c ≤ f i ∧ f i ≤ c) → -(n * c) ≤ sumN f n ∧ sumN f n ≤ n * c
  | 0, _ => by simp [sumN]
  | n + 1, h => by
    have h1 := sumN_bound (n := n) (fun i hi => h i (Nat.lt_succ_of_lt hi))
    have h2 := h n (Nat.lt_succ_self n)
    have e : ((n + 1 : Nat) : Int) * c = n * c + c := by rw [Int.natCast_add, Int.add_mul]; simp
    simp only [sumN]
    rw [e]
    omega
theorem sumN_add (f g : Nat → Int) : ∀ n, sumN (fun i => f i + g i) n = sumN f n + sumN g n
  | 0 => rfl
  | n + 1 => by simp only [sumN]; rw [sumN_add f g n]; omega
/-- an int by its value -/
abbrev zI (z : Int) : Int32 := Int32.ofInt z
theorem zI_nat (n : Nat) : zI (n : Int) = nI n := by
  unfold zI nI
  rfl
theorem zI_to {z : Int} (h1 : -2147483648 ≤ z) (h2 : z < 2147483648) : (zI z).toInt = z := fb_ofI h1 h2
theorem zI_eq {x : Int32} {z : Int} (h : x.toInt = z) : x = zI z := by rw [← h]; exact (fb_asI x).symm
theorem zI_add (a b : Int) : zI a + zI b = zI (a + b) := by
  unfold zI
  exact (Int32.ofInt_add a b).symm
theorem zI_sub (a b : Int) : zI a - zI b = zI (a - b) := by
  unfold zI
  exact (Int32.ofInt_sub a b).symm
theorem zI_mul (a b : Int) : zI a * zI b = zI (a * b) := by
  unfold zI
  exact (Int32.ofInt_mul a b).symm
theorem zI_le {a b : Int} (ha : -2147483648 ≤ a ∧ a < 2147483648) (hb : -2147483648 ≤ b ∧ b < 2147483648) : zI a ≤ zI b ↔ a ≤ b := by rw [fa_le, zI_to ha.1 ha.2, zI_to hb.1 hb.2]
theorem zI_lt {a b : Int} (ha : -2147483648 ≤ a ∧ a < 2147483648) (hb : -2147483648 ≤ b ∧ b < 2147483648) : zI a < zI b ↔ a < b := by rw [fa_lt, zI_to ha.1 ha.2, zI_to hb.1 hb.2]
theorem zI_inj {a b : Int} (ha : -2147483648 ≤ a ∧ a < 2147483648) (hb : -2147483648 ≤ b ∧ b < 2147483648) : zI a = zI b ↔ a = b := by rw [fa_eq, zI_to ha.1 ha.2, zI_to hb.1 hb.2]
theorem zI_div {a b : Int} (ha : -2147483648 < a ∧ a < 2147483648) (hb : -2147483648 ≤ b ∧ b < 2147483648) (h0 : b ≠ 0) : zI a / zI b = zI (a.tdiv b) := by
  apply zI_eq
  rw [Int32.toInt_div, zI_to (by omega) (by omega), zI_to hb.1 hb.2]
  apply fb_bmod
  · have h := Int.natAbs_tdiv_le_natAbs a b; omega
  · have h := Int.natAbs_tdiv_le_natAbs a b; omega
end
section
/-! THE TOWN as a value: TERRACES; BRIDGES: there, lesser and greater end, LOAD, BENT; PEOPLE: there, place, KIN, what each KNOWS; NEWS: WEIGHT, about whom, PUBLISHED; FADE; SIGHTS: how many, of which BRIDGE, how much -/
abbrev XT : Type := (Nat) × (Nat → Bool) × (Nat → Nat) × (Nat → Nat) × (Nat → Nat) × (Nat → Nat) × (Nat → Bool) × (Nat → Nat) × (Nat → Nat) × (Nat → Nat → Bool) × (Nat → Int) × (Nat → Nat) × (Nat → Bool) × (Nat) × (Nat) × (Nat → Nat) × (Nat → Nat)
def x_sz (X : XT) : Nat := X.1
def x_br (X : XT) : Nat → Bool := X.2.1
def x_lo (X : XT) : Nat → Nat := X.2.2.1
def x_hi (X : XT) : Nat → Nat := X.2.2.2.1
def x_ld (X : XT) : Nat → Nat := X.2.2.2.2.1
def x_bn (X : XT) : Nat → Nat := X.2.2.2.2.2.1
def x_th (X : XT) : Nat → Bool := X.2.2.2.2.2.2.1
def x_pl (X : XT) : Nat → Nat := X.2.2.2.2.2.2.2.1
def x_ki (X : XT) : Nat → Nat := X.2.2.2.2.2.2.2.2.1
def x_kn (X : XT) : Nat → Nat → Bool := X.2.2.2.2.2.2.2.2.2.1
def x_wt (X : XT) : Nat → Int := X.2.2.2.2.2.2.2.2.2.2.1
def x_ab (X : XT) : Nat → Nat := X.2.2.2.2.2.2.2.2.2.2.2.1
def x_pu (X : XT) : Nat → Bool := X.2.2.2.2.2.2.2.2.2.2.2.2.1
def x_fa (X : XT) : Nat := X.2.2.2.2.2.2.2.2.2.2.2.2.2.1
def x_sg (X : XT) : Nat := X.2.2.2.2.2.2.2.2.2.2.2.2.2.2.1
def x_sb (X : XT) : Nat → Nat := X.2.2.2.2.2.2.2.2.2.2.2.2.2.2.2.1
def x_sv (X : XT) : Nat → Nat := X.2.2.2.2.2.2.2.2.2.2.2.2.2.2.2.2
def xs_sz (X : XT) (v : Nat) : XT := (v, X.2.1, X.2.2.1, X.2.2.2.1, X.2.2.2.2.1, X.2.2.2.2.2.1, X.2.2.2.2.2.2.1, X.2.2.2.2.2.2.2.1, X.2.2.2.2.2.2.2.2.1, X.2.2.2.2.2.2.2.2.2.1, X.2.2.2.2.2.2.2.2.2.2.1, X.2.2.2.2.2.2.2.2.2.2.2.1, X.2.2.2.2.2.2.2.2.2.2.2.2.1, X.2.2.2.2.2.2.2.2.2.2.2.2.2.1, X.2.2.2.2.2.2.2.2.2.2.2.2.2.2.1, X.2.2.2.2.2.2.2.2.2.2.2.2.2.2.2.1, X.2.2.2.2.2.2.2.2.2.2.2.2.2.2.2.2)
def xs_br (X : XT) (v : Nat → Bool) : XT := (X.1, v, X.2.2.1, X.2.2.2.1, X.2.2.2.2.1, X.2.2.2.2.2.1, X.2.2.2.2.2.2.1, X.2.2.2.2.2.2.2.1, X.2.2.2.2.2.2.2.2.1, X.2.2.2.2.2.2.2.2.2.1, X.2.2.2.2.2.2.2.2.2.2.1, X.2.2.2.2.2.2.2.2.2.2.2.1, X.2.2.2.2.2.2.2.2.2.2.2.2.1, X.2.2.2.2.2.2.2.2.2.2.2.2.2.1, X.2.2.2.2.2.2.2.2.2.2.2.2.2.2.1, X.2.2.2.2.2.2.2.2.2.2.2.2.2.2.2.1, X.2.2.2.2.2.2.2.2.2.2.2.2.2.2.2.2)
def xs_lo (X : XT) (v : Nat → Nat) : XT := (X.1, X.2.1, v, X.2.2.2.1, X.2.2.2.2.1, X.2.2.2.2.2.1, X.2.2.2.2.2.2.1, X.2.2.2.2.2.2.2.1, X.2.2.2.2.2.2.2.2.1, X.2.2.2.2.2.2.2.2.2.1, X.2.2.2.2.2.2.2.2.2.2.1, X.2.2.2.2.2.2.2.2.2.2.2.1, X.2.2.2.2.2.2.2.2.2.2.2.2.1, X.2.2.2.2.2.2.2.2.2.2.2.2.2.1, X.2.2.2.2.2.2.2.2.2.2.2.2.2.2.1, X.2.2.2.2.2.2.2.2.2.2.2.2.2.2.2.1, X.2.2.2.2.2.2.2.2.2.2.2.2.2.2.2.2)
def xs_hi (X : XT) (v : Nat → Nat) : XT := (X.1, X.2.1, X.2.2.1, v, X.2.2.2.2.1, X.2.2.2.2.2.1, X.2.2.2.2.2.2.1, X.2.2.2.2.2.2.2.1, X.2.2.2.2.2.2.2.2.1, X.2.2.2.2.2.2.2.2.2.1, X.2.2.2.2.2.2.2.2.2.2.1, X.2.2.2.2.2.2.2.2.2.2.2.1, X.2.2.2.2.2.2.2.2.2.2.2.2.1, X.2.2.2.2.2.2.2.2.2.2.2.2.2.1, X.2.2.2.2.2.2.2.2.2.2.2.2.2.2.1, X.2.2.2.2.2.2.2.2.2.2.2.2.2.2.2.1, X.2.2.2.2.2.2.2.2.2.2.2.2.2.2.2.2)
def xs_ld (X : XT) (v : Nat → Nat) : XT := (X.1, X.2.1, X.2.2.1, X.2.2.2.1, v, X.2.2.2.2.2.1, X.2.2.2.2.2.2.1, X.2.2.2.2.2.2.2.1, X.2.2.2.2.2.2.2.2.1, X.2.2.2.2.2.2.2.2.2.1, X.2.2.2.2.2.2.2.2.2.2.1, X.2.2.2.2.2.2.2.2.2.2.2.1, X.2.2.2.2.2.2.2.2.2.2.2.2.1, X.2.2.2.2.2.2.2.2.2.2.2.2.2.1, X.2.2.2.2.2.2.2.2.2.2.2.2.2.2.1, X.2.2.2.2.2.2.2.2.2.2.2.2.2.2.2.1, X.2.2.2.2.2.2.2.2.2.2.2.2.2.2.2.2)
def xs_bn (X : XT) (v : Nat → Nat) : XT := (X.1, X.2.1, X.2.2.1, X.2.2.2.1, X.2.2.2.2.1, v, X.2.2.2.2.2.2.1, X.2.2.2.2.2.2.2.1, X.2.2.2.2.2.2.2.2.1, X.2.2.2.2.2.2.2.2.2.1, X.2.2.2.2.2.2.2.2.2.2.1, X.2.2.2.2.2.2.2.2.2.2.2.1, X.2.2.2.2.2.2.2.2.2.2.2.2.1, X.2.2.2.2.2.2.2.2.2.2.2.2.2.1, X.2.2.2.2.2.2.2.2.2.2.2.2.2.2.1, X.2.2.2.2.2.2.2.2.2.2.2.2.2.2.2.1, X.2.2.2.2.2.2.2.2.2.2.2.2.2.2.2.2)
def xs_th (X : XT) (v : Nat → Bool) : XT := (X.1, X.2.1, X.2.2.1, X.2.2.2.1, X.2.2.2.2.1, X.2.2.2.2.2.1, v, X.2.2.2.2.2.2.2.1, X.2.2.2.2.2.2.2.2.1, X.2.2.2.2.2.2.2.2.2.1, X.2.2.2.2.2.2.2.2.2.2.1, X.2.2.2.2.2.2.2.2.2.2.2.1, X.2.2.2.2.2.2.2.2.2.2.2.2.1, X.2.2.2.2.2.2.2.2.2.2.2.2.2.1, X.2.2.2.2.2.2.2.2.2.2.2.2.2.2.1, X.2.2.2.2.2.2.2.2.2.2.2.2.2.2.2.1, X.2.2.2.2.2.2.2.2.2.2.2.2.2.2.2.2)
def xs_pl (X : XT) (v : Nat → Nat) : XT := (X.1, X.2.1, X.2.2.1, X.2.2.2.1, X.2.2.2.2.1, X.2.2.2.2.2.1, X.2.2.2.2.2.2.1, v, X.2.2.2.2.2.2.2.2.1, X.2.2.2.2.2.2.2.2.2.1, X.2.2.2.2.2.2.2.2.2.2.1, X.2.2.2.2.2.2.2.2.2.2.2.1, X.2.2.2.2.2.2.2.2.2.2.2.2.1, X.2.2.2.2.2.2.2.2.2.2.2.2.2.1, X.2.2.2.2.2.2.2.2.2.2.2.2.2.2.1, X.2.2.2.2.2.2.2.2.2.2.2.2.2.2.2.1, X.2.2.2.2.2.2.2.2.2.2.2.2.2.2.2.2)
def xs_ki (X : XT) (v : Nat → Nat) : XT := (X.1, X.2.1, X.2.2.1, X.2.2.2.1, X.2.2.2.2.1, X.2.2.2.2.2.1, X.2.2.2.2.2.2.1, X.2.2.2.2.2.2.2.1, v, X.2.2.2.2.2.2.2.2.2.1, X.2.2.2.2.2.2.2.2.2.2.1, X.2.2.2.2.2.2.2.2.2.2.2.1, X.2.2.2.2.2.2.2.2.2.2.2.2.1, X.2.2.2.2.2.2.2.2.2.2.2.2.2.1, X.2.2.2.2.2.2.2.2.2.2.2.2.2.2.1, X.2.2.2.2.2.2.2.2.2.2.2.2.2.2.2.1, X.2.2.2.2.2.2.2.2.2.2.2.2.2.2.2.2)
def xs_kn (X : XT) (v : Nat → Nat → Bool) : XT := (X.1, X.2.1, X.2.2.1, X.2.2.2.1, X.2.2.2.2.1, X.2.2.2.2.2.1, X.2.2.2.2.2.2.1, X.2.2.2.2.2.2.2.1, X.2.2.2.2.2.2.2.2.1, v, X.2.2.2.2.2.2.2.2.2.2.1, X.2.2.2.2.2.2.2.2.2.2.2.1, X.2.2.2.2.2.2.2.2.2.2.2.2.1, X.2.2.2.2.2.2.2.2.2.2.2.2.2.1, X.2.2.2.2.2.2.2.2.2.2.2.2.2.2.1, X.2.2.2.2.2.2.2.2.2.2.2.2.2.2.2.1, X.2.2.2.2.2.2.2.2.2.2.2.2.2.2.2.2)
def xs_wt (X : XT) (v : Nat → Int) : XT := (X.1, X.2.1, X.2.2.1, X.2.2.2.1, X.2.2.2.2.1, X.2.2.2.2.2.1, X.2.2.2.2.2.2.1, X.2.2.2.2.2.2.2.1, X.2.2.2.2.2.2.2.2.1, X.2.2.2.2.2.2.2.2.2.1, v, X.2.2.2.2.2.2.2.2.2.2.2.1, X.2.2.2.2.2.2.2.2.2.2.2.2.1, X.2.2.2.2.2.2.2.2.2.2.2.2.2.1, X.2.2.2.2.2.2.2.2.2.2.2.2.2.2.1, X.2.2.2.2.2.2.2.2.2.2.2.2.2.2.2.1, X.2.2.2.2.2.2.2.2.2.2.2.2.2.2.2.2)
def xs_ab (X : XT) (v : Nat → Nat) : XT := (X.1, X.2.1, X.2.2.1, X.2.2.2.1, X.2.2.2.2.1, X.2.2.2.2.2.1, X.2.2.2.2.2.2.1, X.2.2.2.2.2.2.2.1, X.2.2.2.2.2.2.2.2.1, X.2.2.2.2.2.2.2.2.2.1, X.2.2.2.2.2.2.2.2.2.2.1, v, X.2.2.2.2.2.2.2.2.2.2.2.2.1, X.2.2.2.2.2.2.2.2.2.2.2.2.2.1, X.2.2.2.2.2.2.2.2.2.2.2.2.2.2.1, X.2.2.2.2.2.2.2.2.2.2.2.2.2.2.2.1, X.2.2.2.2.2.2.2.2.2.2.2.2.2.2.2.2)
def xs_pu (X : XT) (v : Nat → Bool) : XT := (X.1, X.2.1, X.2.2.1, X.2.2.2.1, X.2.2.2.2.1, X.2.2.2.2.2.1, X.2.2.2.2.2.2.1, X.2.2.2.2.2.2.2.1, X.2.2.2.2.2.2.2.2.1, X.2.2.2.2.2.2.2.2.2.1, X.2.2.2.2.2.2.2.2.2.2.1, X.2.2.2.2.2.2.2.2.2.2.2.1, v, X.2.2.2.2.2.2.2.2.2.2.2.2.2.1, X.2.2.2.2.2.2.2.2.2.2.2.2.2.2.1, X.2.2.2.2.2.2.2.2.2.2.2.2.2.2.2.1, X.2.2.2.2.2.2.2.2.2.2.2.2.2.2.2.2)
def xs_fa (X : XT) (v : Nat) : XT := (X.1, X.2.1, X.2.2.1, X.2.2.2.1, X.2.2.2.2.1, X.2.2.2.2.2.1, X.2.2.2.2.2.2.1, X.2.2.2.2.2.2.2.1, X.2.2.2.2.2.2.2.2.1, X.2.2.2.2.2.2.2.2.2.1, X.2.2.2.2.2.2.2.2.2.2.1, X.2.2.2.2.2.2.2.2.2.2.2.1, X.2.2.2.2.2.2.2.2.2.2.2.2.1, v, X.2.2.2.2.2.2.2.2.2.2.2.2.2.2.1, X.2.2.2.2.2.2.2.2.2.2.2.2.2.2.2.1, X.2.2.2.2.2.2.2.2.2.2.2.2.2.2.2.2)
def xs_sg (X : XT) (v : Nat) : XT := (X.1, X.2.1, X.2.2.1, X.2.2.2.1, X.2.2.2.2.1, X.2.2.2.2.2.1, X.2.2.2.2.2.2.1, X.2.2.2.2.2.2.2.1, X.2.2.2.2.2.2.2.2.1, X.2.2.2.2.2.2.2.2.2.1, X.2.2.2.2.2.2.2.2.2.2.1, X.2.2.2.2.2.2.2.2.2.2.2.1, X.2.2.2.2.2.2.2.2.2.2.2.2.1, X.2.2.2.2.2.2.2.2.2.2.2.2.2.1, v, X.2.2.2.2.2.2.2.2.2.2.2.2.2.2.2.1, X.2.2.2.2.2.2.2.2.2.2.2.2.2.2.2.2)
def xs_sb (X : XT) (v : Nat → Nat) : XT := (X.1, X.2.1, X.2.2.1, X.2.2.2.1, X.2.2.2.2.1, X.2.2.2.2.2.1, X.2.2.2.2.2.2.1, X.2.2.2.2.2.2.2.1, X.2.2.2.2.2.2.2.2.1, X.2.2.2.2.2.2.2.2.2.1, X.2.2.2.2.2.2.2.2.2.2.1, X.2.2.2.2.2.2.2.2.2.2.2.1, X.2.2.2.2.2.2.2.2.2.2.2.2.1, X.2.2.2.2.2.2.2.2.2.2.2.2.2.1, X.2.2.2.2.2.2.2.2.2.2.2.2.2.2.1, v, X.2.2.2.2.2.2.2.2.2.2.2.2.2.2.2.2)
def xs_sv (X : XT) (v : Nat → Nat) : XT := (X.1, X.2.1, X.2.2.1, X.2.2.2.1, X.2.2.2.2.1, X.2.2.2.2.2.1, X.2.2.2.2.2.2.1, X.2.2.2.2.2.2.2.1, X.2.2.2.2.2.2.2.2.1, X.2.2.2.2.2.2.2.2.2.1, X.2.2.2.2.2.2.2.2.2.2.1, X.2.2.2.2.2.2.2.2.2.2.2.1, X.2.2.2.2.2.2.2.2.2.2.2.2.1, X.2.2.2.2.2.2.2.2.2.2.2.2.2.1, X.2.2.2.2.2.2.2.2.2.2.2.2.2.2.1, X.2.2.2.2.2.2.2.2.2.2.2.2.2.2.2.1, v)
theorem x_sz_sz (X : XT) (v : Nat) : x_sz (xs_sz X v) = v := rfl
theorem x_br_sz (X : XT) (v : Nat) : x_br (xs_sz X v) = x_br X := rfl
theorem x_lo_sz (X : XT) (v : Nat) : x_lo (xs_sz X v) = x_lo X := rfl
theorem x_hi_sz (X : XT) (v : Nat) : x_hi (xs_sz X v) = x_hi X := rfl
theorem x_ld_sz (X : XT) (v : Nat) : x_ld (xs_sz X v) = x_ld X := rfl
theorem x_bn_sz (X : XT) (v : Nat) : x_bn (xs_sz X v) = x_bn X := rfl
theorem x_th_sz (X : XT) (v : Nat) : x_th (xs_sz X v) = x_th X := rfl
theorem x_pl_sz (X : XT) (v : Nat) : x_pl (xs_sz X v) = x_pl X := rfl
theorem x_ki_sz (X : XT) (v : Nat) : x_ki (xs_sz X v) = x_ki X := rfl
theorem x_kn_sz (X : XT) (v : Nat) : x_kn (xs_sz X v) = x_kn X := rfl
theorem x_wt_sz (X : XT) (v : Nat) : x_wt (xs_sz X v) = x_wt X := rfl
theorem x_ab_sz (X : XT) (v : Nat) : x_ab (xs_sz X v) = x_ab X := rfl
theorem x_pu_sz (X : XT) (v : Nat) : x_pu (xs_sz X v) = x_pu X := rfl
theorem x_fa_sz (X : XT) (v : Nat) : x_fa (xs_sz X v) = x_fa X := rfl
theorem x_sg_sz (X : XT) (v : Nat) : x_sg (xs_sz X v) = x_sg X := rfl
theorem x_sb_sz (X : XT) (v : Nat) : x_sb (xs_sz X v) = x_sb X := rfl
theorem x_sv_sz (X : XT) (v : Nat) : x_sv (xs_sz X v) = x_sv X := rfl
theorem x_sz_br (X : XT) (v : Nat → Bool) : x_sz (xs_br X v) = x_sz X := rfl
theorem x_br_br (X : XT) (v : Nat → Bool) : x_br (xs_br X v) = v := rfl
theorem x_lo_br (X : XT) (v : Nat → Bool) : x_lo (xs_br X v) = x_lo X := rfl
theorem x_hi_br (X : XT) (v : Nat → Bool) : x_hi (xs_br X v) = x_hi X := rfl
theorem x_ld_br (X : XT) (v : Nat → Bool) : x_ld (xs_br X v) = x_ld X := rfl
theorem x_bn_br (X : XT) (v : Nat → Bool) : x_bn (xs_br X v) = x_bn X := rfl
theorem x_th_br (X : XT) (v : Nat → Bool) : x_th (xs_br X v) = x_th X := rfl
theorem x_pl_br (X : XT) (v : Nat → Bool) : x_pl (xs_br X v) = x_pl X := rfl
theorem x_ki_br (X : XT) (v : Nat → Bool) : x_ki (xs_br X v) = x_ki X := rfl
theorem x_kn_br (X : XT) (v : Nat → Bool) : x_kn (xs_br X v) = x_kn X := rfl
theorem x_wt_br (X : XT) (v : Nat → Bool) : x_wt (xs_br X v) = x_wt X := rfl
theorem x_ab_br (X : XT) (v : Nat → Bool) : x_ab (xs_br X v) = x_ab X := rfl
theorem x_pu_br (X : XT) (v : Nat → Bool) : x_pu (xs_br X v) = x_pu X := rfl
theorem x_fa_br (X : XT) (v : Nat → Bool) : x_fa (xs_br X v) = x_fa X := rfl
theorem x_sg_br (X : XT) (v : Nat → Bool) : x_sg (xs_br X v) = x_sg X := rfl
theorem x_sb_br (X : XT) (v : Nat → Bool) : x_sb (xs_br X v) = x_sb X := rfl
theorem x_sv_br (X : XT) (v : Nat → Bool) : x_sv (xs_br X v) = x_sv X := rfl
theorem x_sz_lo (X : XT) (v : Nat → Nat) : x_sz (xs_lo X v) = x_sz X := rfl
theorem x_br_lo (X : XT) (v : Nat → Nat) : x_br (xs_lo X v) = x_br X := rfl
theorem x_lo_lo (X : XT) (v : Nat → Nat) : x_lo (xs_lo X v) = v := rfl
theorem x_hi_lo (X : XT) (v : Nat → Nat) : x_hi (xs_lo X v) = x_hi X := rfl
theorem x_ld_lo (X : XT) (v : Nat → Nat) : x_ld (xs_lo X v) = x_ld X := rfl
theorem x_bn_lo (X : XT) (v : Nat → Nat) : x_bn (xs_lo X v) = x_bn X := rfl
theorem x_th_lo (X : XT) (v : Nat → Nat) : x_th (xs_lo X v) = x_th X := rfl
theorem x_pl_lo (X : XT) (v : Nat → Nat) : x_pl (xs_lo X v) = x_pl X := rfl
theorem x_ki_lo (X : XT) (v : Nat → Nat) : x_ki (xs_lo X v) = x_ki X := rfl
theorem x_kn_lo (X : XT) (v : Nat → Nat) : x_kn (xs_lo X v) = x_kn X := rfl
theorem x_wt_lo (X : XT) (v : Nat → Nat) : x_wt (xs_lo X v) = x_wt X := rfl
theorem x_ab_lo (X : XT) (v : Nat → Nat) : x_ab (xs_lo X v) = x_ab X := rfl
theorem x_pu_lo (X : XT) (v : Nat → Nat) : x_pu (xs_lo X v) = x_pu X := rfl
theorem x_fa_lo (X : XT) (v : Nat → Nat) : x_fa (xs_lo X v) = x_fa X := rfl
theorem x_sg_lo (X : XT) (v : Nat → Nat) : x_sg (xs_lo X v) = x_sg X := rfl
theorem x_sb_lo (X : XT) (v : Nat → Nat) : x_sb (xs_lo X v) = x_sb X := rfl
theorem x_sv_lo (X : XT) (v : Nat → Nat) : x_sv (xs_lo X v) = x_sv X := rfl
theorem x_sz_hi (X : XT) (v : Nat → Nat) : x_sz (xs_hi X v) = x_sz X := rfl
theorem x_br_hi (X : XT) (v : Nat → Nat) : x_br (xs_hi X v) = x_br X := rfl
theorem x_lo_hi (X : XT) (v : Nat → Nat) : x_lo (xs_hi X v) = x_lo X := rfl
theorem x_hi_hi (X : XT) (v : Nat → Nat) : x_hi (xs_hi X v) = v := rfl
theorem x_ld_hi (X : XT) (v : Nat → Nat) : x_ld (xs_hi X v) = x_ld X := rfl
theorem x_bn_hi (X : XT) (v : Nat → Nat) : x_bn (xs_hi X v) = x_bn X := rfl
theorem x_th_hi (X : XT) (v : Nat → Nat) : x_th (xs_hi X v) = x_th X := rfl
theorem x_pl_hi (X : XT) (v : Nat → Nat) : x_pl (xs_hi X v) = x_pl X := rfl
theorem x_ki_hi (X : XT) (v : Nat → Nat) : x_ki (xs_hi X v) = x_ki X := rfl
theorem x_kn_hi (X : XT) (v : Nat → Nat) : x_kn (xs_hi X v) = x_kn X := rfl
theorem x_wt_hi (X : XT) (v : Nat → Nat) : x_wt (xs_hi X v) = x_wt X := rfl
theorem x_ab_hi (X : XT) (v : Nat → Nat) : x_ab (xs_hi X v) = x_ab X := rfl
theorem x_pu_hi (X : XT) (v : Nat → Nat) : x_pu (xs_hi X v) = x_pu X := rfl
theorem x_fa_hi (X : XT) (v : Nat → Nat) : x_fa (xs_hi X v) = x_fa X := rfl
theorem x_sg_hi (X : XT) (v : Nat → Nat) : x_sg (xs_hi X v) = x_sg X := rfl
theorem x_sb_hi (X : XT) (v : Nat → Nat) : x_sb (xs_hi X v) = x_sb X := rfl
theorem x_sv_hi (X : XT) (v : Nat → Nat) : x_sv (xs_hi X v) = x_sv X := rfl
theorem x_sz_ld (X : XT) (v : Nat → Nat) : x_sz (xs_ld X v) = x_sz X := rfl
theorem x_br_ld (X : XT) (v : Nat → Nat) : x_br (xs_ld X v) = x_br X := rfl
theorem x_lo_ld (X : XT) (v : Nat → Nat) : x_lo (xs_ld X v) = x_lo X := rfl
theorem x_hi_ld (X : XT) (v : Nat → Nat) : x_hi (xs_ld X v) = x_hi X := rfl
theorem x_ld_ld (X : XT) (v : Nat → Nat) : x_ld (xs_ld X v) = v := rfl
theorem x_bn_ld (X : XT) (v : Nat → Nat) : x_bn (xs_ld X v) = x_bn X := rfl
theorem x_th_ld (X : XT) (v : Nat → Nat) : x_th (xs_ld X v) = x_th X := rfl
theorem x_pl_ld (X : XT) (v : Nat → Nat) : x_pl (xs_ld X v) = x_pl X := rfl
theorem x_ki_ld (X : XT) (v : Nat → Nat) : x_ki (xs_ld X v) = x_ki X := rfl
theorem x_kn_ld (X : XT) (v : Nat → Nat) : x_kn (xs_ld X v) = x_kn X := rfl
theorem x_wt_ld (X : XT) (v : Nat → Nat) : x_wt (xs_ld X v) = x_wt X := rfl
theorem x_ab_ld (X : XT) (v : Nat → Nat) : x_ab (xs_ld X v) = x_ab X := rfl
theorem x_pu_ld (X : XT) (v : Nat → Nat) : x_pu (xs_ld X v) = x_pu X := rfl
theorem x_fa_ld (X : XT) (v : Nat → Nat) : x_fa (xs_ld X v) = x_fa X := rfl
theorem x_sg_ld (X : XT) (v : Nat → Nat) : x_sg (xs_ld X v) = x_sg X := rfl
theorem x_sb_ld (X : XT) (v : Nat → Nat) : x_sb (xs_ld X v) = x_sb X := rfl
theorem x_sv_ld (X : XT) (v : Nat → Nat) : x_sv (xs_ld X v) = x_sv X := rfl
theorem x_sz_bn (X : XT) (v : Nat → Nat) : x_sz (xs_bn X v) = x_sz X := rfl
theorem x_br_bn (X : XT) (v : Nat → Nat) : x_br (xs_bn X v) = x_br X := rfl
theorem x_lo_bn (X : XT) (v : Nat → Nat) : x_lo (xs_bn X v) = x_lo X := rfl
theorem x_hi_bn (X : XT) (v : Nat → Nat) : x_hi (xs_bn X v) = x_hi X := rfl
theorem x_ld_bn (X : XT) (v : Nat → Nat) : x_ld (xs_bn X v) = x_ld X := rfl
theorem x_bn_bn (X : XT) (v : Nat → Nat) : x_bn (xs_bn X v) = v := rfl
theorem x_th_bn (X : XT) (v : Nat → Nat) : x_th (xs_bn X v) = x_th X := rfl
theorem x_pl_bn (X : XT) (v : Nat → Nat) : x_pl (xs_bn X v) = x_pl X := rfl
theorem x_ki_bn (X : XT) (v : Nat → Nat) : x_ki (xs_bn X v) = x_ki X := rfl
theorem x_kn_bn (X : XT) (v : Nat → Nat) : x_kn (xs_bn X v) = x_kn X := rfl
theorem x_wt_bn (X : XT) (v : Nat → Nat) : x_wt (xs_bn X v) = x_wt X := rfl
theorem x_ab_bn (X : XT) (v : Nat → Nat) : x_ab (xs_bn X v) = x_ab X := rfl
theorem x_pu_bn (X : XT) (v : Nat → Nat) : x_pu (xs_bn X v) = x_pu X := rfl
theorem x_fa_bn (X : XT) (v : Nat → Nat) : x_fa (xs_bn X v) = x_fa X := rfl
theorem x_sg_bn (X : XT) (v : Nat → Nat) : x_sg (xs_bn X v) = x_sg X := rfl
theorem x_sb_bn (X : XT) (v : Nat → Nat) : x_sb (xs_bn X v) = x_sb X := rfl
theorem x_sv_bn (X : XT) (v : Nat → Nat) : x_sv (xs_bn X v) = x_sv X := rfl
theorem x_sz_th (X : XT) (v : Nat → Bool) : x_sz (xs_th X v) = x_sz X := rfl
theorem x_br_th (X : XT) (v : Nat → Bool) : x_br (xs_th X v) = x_br X := rfl
theorem x_lo_th (X : XT) (v : Nat → Bool) : x_lo (xs_th X v) = x_lo X := rfl
theorem x_hi_th (X : XT) (v : Nat → Bool) : x_hi (xs_th X v) = x_hi X := rfl
theorem x_ld_th (X : XT) (v : Nat → Bool) : x_ld (xs_th X v) = x_ld X := rfl
theorem x_bn_th (X : XT) (v : Nat → Bool) : x_bn (xs_th X v) = x_bn X := rfl
theorem x_th_th (X : XT) (v : Nat → Bool) : x_th (xs_th X v) = v := rfl
theorem x_pl_th (X : XT) (v : Nat → Bool) : x_pl (xs_th X v) = x_pl X := rfl
theorem x_ki_th (X : XT) (v : Nat → Bool) : x_ki (xs_th X v) = x_ki X := rfl
theorem x_kn_th (X : XT) (v : Nat → Bool) : x_kn (xs_th X v) = x_kn X := rfl
theorem x_wt_th (X : XT) (v : Nat → Bool) : x_wt (xs_th X v) = x_wt X := rfl
theorem x_ab_th (X : XT) (v : Nat → Bool) : x_ab (xs_th X v) = x_ab X := rfl
theorem x_pu_th (X : XT) (v : Nat → Bool) : x_pu (xs_th X v) = x_pu X := rfl
theorem x_fa_th (X : XT) (v : Nat → Bool) : x_fa (xs_th X v) = x_fa X := rfl
theorem x_sg_th (X : XT) (v : Nat → Bool) : x_sg (xs_th X v) = x_sg X := rfl
theorem x_sb_th (X : XT) (v : Nat → Bool) : x_sb (xs_th X v) = x_sb X := rfl
theorem x_sv_th (X : XT) (v : Nat → Bool) : x_sv (xs_th X v) = x_sv X := rfl
theorem x_sz_pl (X : XT) (v : Nat → Nat) : x_sz (xs_pl X v) = x_sz X := rfl
theorem x_br_pl (X : XT) (v : Nat → Nat) : x_br (xs_pl X v) = x_br X := rfl
theorem x_lo_pl (X : XT) (v : Nat → Nat) : x_lo (xs_pl X v) = x_lo X := rfl
theorem x_hi_pl (X : XT) (v : Nat → Nat) : x_hi (xs_pl X v) = x_hi X := rfl
theorem x_ld_pl (X : XT) (v : Nat → Nat) : x_ld (xs_pl X v) = x_ld X := rfl
theorem x_bn_pl (X : XT) (v : Nat → Nat) : x_bn (xs_pl X v) = x_bn X := rfl
theorem x_th_pl (X : XT) (v : Nat → Nat) : x_th (xs_pl X v) = x_th X := rfl
theorem x_pl_pl (X : XT) (v : Nat → Nat) : x_pl (xs_pl X v) = v := rfl
theorem x_ki_pl (X : XT) (v : Nat → Nat) : x_ki (xs_pl X v) = x_ki X := rfl
theorem x_kn_pl (X : XT) (v : Nat → Nat) : x_kn (xs_pl X v) = x_kn X := rfl
theorem x_wt_pl (X : XT) (v : Nat → Nat) : x_wt (xs_pl X v) = x_wt X := rfl
theorem x_ab_pl (X : XT) (v : Nat → Nat) : x_ab (xs_pl X v) = x_ab X := rfl
theorem x_pu_pl (X : XT) (v : Nat → Nat) : x_pu (xs_pl X v) = x_pu X := rfl
theorem x_fa_pl (X : XT) (v : Nat → Nat) : x_fa (xs_pl X v) = x_fa X := rfl
theorem x_sg_pl (X : XT) (v : Nat → Nat) : x_sg (xs_pl X v) = x_sg X := rfl
theorem x_sb_pl (X : XT) (v : Nat → Nat) : x_sb (xs_pl X v) = x_sb X := rfl
theorem x_sv_pl (X : XT) (v : Nat → Nat) : x_sv (xs_pl X v) = x_sv X := rfl
theorem x_sz_ki (X : XT) (v : Nat → Nat) : x_sz (xs_ki X v) = x_sz X := rfl
theorem x_br_ki (X : XT) (v : Nat → Nat) : x_br (xs_ki X v) = x_br X := rfl
theorem x_lo_ki (X : XT) (v : Nat → Nat) : x_lo (xs_ki X v) = x_lo X := rfl
theorem x_hi_ki (X : XT) (v : Nat → Nat) : x_hi (xs_ki X v) = x_hi X := rfl
theorem x_ld_ki (X : XT) (v : Nat → Nat) : x_ld (xs_ki X v) = x_ld X := rfl
theorem x_bn_ki (X : XT) (v : Nat → Nat) : x_bn (xs_ki X v) = x_bn X := rfl
theorem x_th_ki (X : XT) (v : Nat → Nat) : x_th (xs_ki X v) = x_th X := rfl
theorem x_pl_ki (X : XT) (v : Nat → Nat) : x_pl (xs_ki X v) = x_pl X := rfl
theorem x_ki_ki (X : XT) (v : Nat → Nat) : x_ki (xs_ki X v) = v := rfl
theorem x_kn_ki (X : XT) (v : Nat → Nat) : x_kn (xs_ki X v) = x_kn X := rfl
theorem x_wt_ki (X : XT) (v : Nat → Nat) : x_wt (xs_ki X v) = x_wt X := rfl
theorem x_ab_ki (X : XT) (v : Nat → Nat) : x_ab (xs_ki X v) = x_ab X := rfl
theorem x_pu_ki (X : XT) (v : Nat → Nat) : x_pu (xs_ki X v) = x_pu X := rfl
theorem x_fa_ki (X : XT) (v : Nat → Nat) : x_fa (xs_ki X v) = x_fa X := rfl
theorem x_sg_ki (X : XT) (v : Nat → Nat) : x_sg (xs_ki X v) = x_sg X := rfl
theorem x_sb_ki (X : XT) (v : Nat → Nat) : x_sb (xs_ki X v) = x_sb X := rfl
theorem x_sv_ki (X : XT) (v : Nat → Nat) : x_sv (xs_ki X v) = x_sv X := rfl
theorem x_sz_kn (X : XT) (v : Nat → Nat → Bool) : x_sz (xs_kn X v) = x_sz X := rfl
theorem x_br_kn (X : XT) (v : Nat → Nat → Bool) : x_br (xs_kn X v) = x_br X := rfl
theorem x_lo_kn (X : XT) (v : Nat → Nat → Bool) : x_lo (xs_kn X v) = x_lo X := rfl
theorem x_hi_kn (X : XT) (v : Nat → Nat → Bool) : x_hi (xs_kn X v) = x_hi X := rfl
theorem x_ld_kn (X : XT) (v : Nat → Nat → Bool) : x_ld (xs_kn X v) = x_ld X := rfl
theorem x_bn_kn (X : XT) (v : Nat → Nat → Bool) : x_bn (xs_kn X v) = x_bn X := rfl
theorem x_th_kn (X : XT) (v : Nat → Nat → Bool) : x_th (xs_kn X v) = x_th X := rfl
theorem x_pl_kn (X : XT) (v : Nat → Nat → Bool) : x_pl (xs_kn X v) = x_pl X := rfl
theorem x_ki_kn (X : XT) (v : Nat → Nat → Bool) : x_ki (xs_kn X v) = x_ki X := rfl
theorem x_kn_kn (X : XT) (v : Nat → Nat → Bool) : x_kn (xs_kn X v) = v := rfl
theorem x_wt_kn (X : XT) (v : Nat → Nat → Bool) : x_wt (xs_kn X v) = x_wt X := rfl
theorem x_ab_kn (X : XT) (v : Nat → Nat → Bool) : x_ab (xs_kn X v) = x_ab X := rfl
theorem x_pu_kn (X : XT) (v : Nat → Nat → Bool) : x_pu (xs_kn X v) = x_pu X := rfl
theorem x_fa_kn (X : XT) (v : Nat → Nat → Bool) : x_fa (xs_kn X v) = x_fa X := rfl
theorem x_sg_kn (X : XT) (v : Nat → Nat → Bool) : x_sg (xs_kn X v) = x_sg X := rfl
theorem x_sb_kn (X : XT) (v : Nat → Nat → Bool) : x_sb (xs_kn X v) = x_sb X := rfl
theorem x_sv_kn (X : XT) (v : Nat → Nat → Bool) : x_sv (xs_kn X v) = x_sv X := rfl
theorem x_sz_wt (X : XT) (v : Nat → Int) : x_sz (xs_wt X v) = x_sz X := rfl
theorem x_br_wt (X : XT) (v : Nat → Int) : x_br (xs_wt X v) = x_br X := rfl
theorem x_lo_wt (X : XT) (v : Nat → Int) : x_lo (xs_wt X v) = x_lo X := rfl
theorem x_hi_wt (X : XT) (v : Nat → Int) : x_hi (xs_wt X v) = x_hi X := rfl
theorem x_ld_wt (X : XT) (v : Nat → Int) : x_ld (xs_wt X v) = x_ld X := rfl
theorem x_bn_wt (X : XT) (v : Nat → Int) : x_bn (xs_wt X v) = x_bn X := rfl
theorem x_th_wt (X : XT) (v : Nat → Int) : x_th (xs_wt X v) = x_th X := rfl
theorem x_pl_wt (X : XT) (v : Nat → Int) : x_pl (xs_wt X v) = x_pl X := rfl
theorem x_ki_wt (X : XT) (v : Nat → Int) : x_ki (xs_wt X v) = x_ki X := rfl
theorem x_kn_wt (X : XT) (v : Nat → Int) : x_kn (xs_wt X v) = x_kn X := rfl
theorem x_wt_wt (X : XT) (v : Nat → Int) : x_wt (xs_wt X v) = v := rfl
theorem x_ab_wt (X : XT) (v : Nat → Int) : x_ab (xs_wt X v) = x_ab X := rfl
theorem x_pu_wt (X : XT) (v : Nat → Int) : x_pu (xs_wt X v) = x_pu X := rfl
theorem x_fa_wt (X : XT) (v : Nat → Int) : x_fa (xs_wt X v) = x_fa X := rfl
theorem x_sg_wt (X : XT) (v : Nat → Int) : x_sg (xs_wt X v) = x_sg X := rfl
theorem x_sb_wt (X : XT) (v : Nat → Int) : x_sb (xs_wt X v) = x_sb X := rfl
theorem x_sv_wt (X : XT) (v : Nat → Int) : x_sv (xs_wt X v) = x_sv X := rfl
theorem x_sz_ab (X : XT) (v : Nat → Nat) : x_sz (xs_ab X v) = x_sz X := rfl
theorem x_br_ab (X : XT) (v : Nat → Nat) : x_br (xs_ab X v) = x_br X := rfl
theorem x_lo_ab (X : XT) (v : Nat → Nat) : x_lo (xs_ab X v) = x_lo X := rfl
theorem x_hi_ab (X : XT) (v : Nat → Nat) : x_hi (xs_ab X v) = x_hi X := rfl
theorem x_ld_ab (X : XT) (v : Nat → Nat) : x_ld (xs_ab X v) = x_ld X := rfl
theorem x_bn_ab (X : XT) (v : Nat → Nat) : x_bn (xs_ab X v) = x_bn X := rfl
theorem x_th_ab (X : XT) (v : Nat → Nat) : x_th (xs_ab X v) = x_th X := rfl
theorem x_pl_ab (X : XT) (v : Nat → Nat) : x_pl (xs_ab X v) = x_pl X := rfl
theorem x_ki_ab (X : XT) (v : Nat → Nat) : x_ki (xs_ab X v) = x_ki X := rfl
theorem x_kn_ab (X : XT) (v : Nat → Nat) : x_kn (xs_ab X v) = x_kn X := rfl
theorem x_wt_ab (X : XT) (v : Nat → Nat) : x_wt (xs_ab X v) = x_wt X := rfl
theorem x_ab_ab (X : XT) (v : Nat → Nat) : x_ab (xs_ab X v) = v := rfl
theorem x_pu_ab (X : XT) (v : Nat → Nat) : x_pu (xs_ab X v) = x_pu X := rfl
theorem x_fa_ab (X : XT) (v : Nat → Nat) : x_fa (xs_ab X v) = x_fa X := rfl
theorem x_sg_ab (X : XT) (v : Nat → Nat) : x_sg (xs_ab X v) = x_sg X := rfl
theorem x_sb_ab (X : XT) (v : Nat → Nat) : x_sb (xs_ab X v) = x_sb X := rfl
theorem x_sv_ab (X : XT) (v : Nat → Nat) : x_sv (xs_ab X v) = x_sv X := rfl
theorem x_sz_pu (X : XT) (v : Nat → Bool) : x_sz (xs_pu X v) = x_sz X := rfl
theorem x_br_pu (X : XT) (v : Nat → Bool) : x_br (xs_pu X v) = x_br X := rfl
theorem x_lo_pu (X : XT) (v : Nat → Bool) : x_lo (xs_pu X v) = x_lo X := rfl
theorem x_hi_pu (X : XT) (v : Nat → Bool) : x_hi (xs_pu X v) = x_hi X := rfl
theorem x_ld_pu (X : XT) (v : Nat → Bool) : x_ld (xs_pu X v) = x_ld X := rfl
theorem x_bn_pu (X : XT) (v : Nat → Bool) : x_bn (xs_pu X v) = x_bn X := rfl
theorem x_th_pu (X : XT) (v : Nat → Bool) : x_th (xs_pu X v) = x_th X := rfl
theorem x_pl_pu (X : XT) (v : Nat → Bool) : x_pl (xs_pu X v) = x_pl X := rfl
theorem x_ki_pu (X : XT) (v : Nat → Bool) : x_ki (xs_pu X v) = x_ki X := rfl
theorem x_kn_pu (X : XT) (v : Nat → Bool) : x_kn (xs_pu X v) = x_kn X := rfl
theorem x_wt_pu (X : XT) (v : Nat → Bool) : x_wt (xs_pu X v) = x_wt X := rfl
theorem x_ab_pu (X : XT) (v : Nat → Bool) : x_ab (xs_pu X v) = x_ab X := rfl
theorem x_pu_pu (X : XT) (v : Nat → Bool) : x_pu (xs_pu X v) = v := rfl
theorem x_fa_pu (X : XT) (v : Nat → Bool) : x_fa (xs_pu X v) = x_fa X := rfl
theorem x_sg_pu (X : XT) (v : Nat → Bool) : x_sg (xs_pu X v) = x_sg X := rfl
theorem x_sb_pu (X : XT) (v : Nat → Bool) : x_sb (xs_pu X v) = x_sb X := rfl
theorem x_sv_pu (X : XT) (v : Nat → Bool) : x_sv (xs_pu X v) = x_sv X := rfl
theorem x_sz_fa (X : XT) (v : Nat) : x_sz (xs_fa X v) = x_sz X := rfl
theorem x_br_fa (X : XT) (v : Nat) : x_br (xs_fa X v) = x_br X := rfl
theorem x_lo_fa (X : XT) (v : Nat) : x_lo (xs_fa X v) = x_lo X := rfl
theorem x_hi_fa (X : XT) (v : Nat) : x_hi (xs_fa X v) = x_hi X := rfl
theorem x_ld_fa (X : XT) (v : Nat) : x_ld (xs_fa X v) = x_ld X := rfl
theorem x_bn_fa (X : XT) (v : Nat) : x_bn (xs_fa X v) = x_bn X := rfl
theorem x_th_fa (X : XT) (v : Nat) : x_th (xs_fa X v) = x_th X := rfl
theorem x_pl_fa (X : XT) (v : Nat) : x_pl (xs_fa X v) = x_pl X := rfl
theorem x_ki_fa (X : XT) (v : Nat) : x_ki (xs_fa X v) = x_ki X := rfl
theorem x_kn_fa (X : XT) (v : Nat) : x_kn (xs_fa X v) = x_kn X := rfl
theorem x_wt_fa (X : XT) (v : Nat) : x_wt (xs_fa X v) = x_wt X := rfl
theorem x_ab_fa (X : XT) (v : Nat) : x_ab (xs_fa X v) = x_ab X := rfl
theorem x_pu_fa (X : XT) (v : Nat) : x_pu (xs_fa X v) = x_pu X := rfl
theorem x_fa_fa (X : XT) (v : Nat) : x_fa (xs_fa X v) = v := rfl
theorem x_sg_fa (X : XT) (v : Nat) : x_sg (xs_fa X v) = x_sg X := rfl
theorem x_sb_fa (X : XT) (v : Nat) : x_sb (xs_fa X v) = x_sb X := rfl
theorem x_sv_fa (X : XT) (v : Nat) : x_sv (xs_fa X v) = x_sv X := rfl
theorem x_sz_sg (X : XT) (v : Nat) : x_sz (xs_sg X v) = x_sz X := rfl
theorem x_br_sg (X : XT) (v : Nat) : x_br (xs_sg X v) = x_br X := rfl
theorem x_lo_sg (X : XT) (v : Nat) : x_lo (xs_sg X v) = x_lo X := rfl
theorem x_hi_sg (X : XT) (v : Nat) : x_hi (xs_sg X v) = x_hi X := rfl
theorem x_ld_sg (X : XT) (v : Nat) : x_ld (xs_sg X v) = x_ld X := rfl
theorem x_bn_sg (X : XT) (v : Nat) : x_bn (xs_sg X v) = x_bn X := rfl
theorem x_th_sg (X : XT) (v : Nat) : x_th (xs_sg X v) = x_th X := rfl
theorem x_pl_sg (X : XT) (v : Nat) : x_pl (xs_sg X v) = x_pl X := rfl
theorem x_ki_sg (X : XT) (v : Nat) : x_ki (xs_sg X v) = x_ki X := rfl
theorem x_kn_sg (X : XT) (v : Nat) : x_kn (xs_sg X v) = x_kn X := rfl
theorem x_wt_sg (X : XT) (v : Nat) : x_wt (xs_sg X v) = x_wt X := rfl
theorem x_ab_sg (X : XT) (v : Nat) : x_ab (xs_sg X v) = x_ab X := rfl
theorem x_pu_sg (X : XT) (v : Nat) : x_pu (xs_sg X v) = x_pu X := rfl
theorem x_fa_sg (X : XT) (v : Nat) : x_fa (xs_sg X v) = x_fa X := rfl
theorem x_sg_sg (X : XT) (v : Nat) : x_sg (xs_sg X v) = v := rfl
theorem x_sb_sg (X : XT) (v : Nat) : x_sb (xs_sg X v) = x_sb X := rfl
theorem x_sv_sg (X : XT) (v : Nat) : x_sv (xs_sg X v) = x_sv X := rfl
theorem x_sz_sb (X : XT) (v : Nat → Nat) : x_sz (xs_sb X v) = x_sz X := rfl
theorem x_br_sb (X : XT) (v : Nat → Nat) : x_br (xs_sb X v) = x_br X := rfl
theorem x_lo_sb (X : XT) (v : Nat → Nat) : x_lo (xs_sb X v) = x_lo X := rfl
theorem x_hi_sb (X : XT) (v : Nat → Nat) : x_hi (xs_sb X v) = x_hi X := rfl
theorem x_ld_sb (X : XT) (v : Nat → Nat) : x_ld (xs_sb X v) = x_ld X := rfl
theorem x_bn_sb (X : XT) (v : Nat → Nat) : x_bn (xs_sb X v) = x_bn X := rfl
theorem x_th_sb (X : XT) (v : Nat → Nat) : x_th (xs_sb X v) = x_th X := rfl
theorem x_pl_sb (X : XT) (v : Nat → Nat) : x_pl (xs_sb X v) = x_pl X := rfl
theorem x_ki_sb (X : XT) (v : Nat → Nat) : x_ki (xs_sb X v) = x_ki X := rfl
theorem x_kn_sb (X : XT) (v : Nat → Nat) : x_kn (xs_sb X v) = x_kn X := rfl
theorem x_wt_sb (X : XT) (v : Nat → Nat) : x_wt (xs_sb X v) = x_wt X := rfl
theorem x_ab_sb (X : XT) (v : Nat → Nat) : x_ab (xs_sb X v) = x_ab X := rfl
theorem x_pu_sb (X : XT) (v : Nat → Nat) : x_pu (xs_sb X v) = x_pu X := rfl
theorem x_fa_sb (X : XT) (v : Nat → Nat) : x_fa (xs_sb X v) = x_fa X := rfl
theorem x_sg_sb (X : XT) (v : Nat → Nat) : x_sg (xs_sb X v) = x_sg X := rfl
theorem x_sb_sb (X : XT) (v : Nat → Nat) : x_sb (xs_sb X v) = v := rfl
theorem x_sv_sb (X : XT) (v : Nat → Nat) : x_sv (xs_sb X v) = x_sv X := rfl
theorem x_sz_sv (X : XT) (v : Nat → Nat) : x_sz (xs_sv X v) = x_sz X := rfl
theorem x_br_sv (X : XT) (v : Nat → Nat) : x_br (xs_sv X v) = x_br X := rfl
theorem x_lo_sv (X : XT) (v : Nat → Nat) : x_lo (xs_sv X v) = x_lo X := rfl
theorem x_hi_sv (X : XT) (v : Nat → Nat) : x_hi (xs_sv X v) = x_hi X := rfl
theorem x_ld_sv (X : XT) (v : Nat → Nat) : x_ld (xs_sv X v) = x_ld X := rfl
theorem x_bn_sv (X : XT) (v : Nat → Nat) : x_bn (xs_sv X v) = x_bn X := rfl
theorem x_th_sv (X : XT) (v : Nat → Nat) : x_th (xs_sv X v) = x_th X := rfl
theorem x_pl_sv (X : XT) (v : Nat → Nat) : x_pl (xs_sv X v) = x_pl X := rfl
theorem x_ki_sv (X : XT) (v : Nat → Nat) : x_ki (xs_sv X v) = x_ki X := rfl
theorem x_kn_sv (X : XT) (v : Nat → Nat) : x_kn (xs_sv X v) = x_kn X := rfl
theorem x_wt_sv (X : XT) (v : Nat → Nat) : x_wt (xs_sv X v) = x_wt X := rfl
theorem x_ab_sv (X : XT) (v : Nat → Nat) : x_ab (xs_sv X v) = x_ab X := rfl
theorem x_pu_sv (X : XT) (v : Nat → Nat) : x_pu (xs_sv X v) = x_pu X := rfl
theorem x_fa_sv (X : XT) (v : Nat → Nat) : x_fa (xs_sv X v) = x_fa X := rfl
theorem x_sg_sv (X : XT) (v : Nat → Nat) : x_sg (xs_sv X v) = x_sg X := rfl
theorem x_sb_sv (X : XT) (v : Nat → Nat) : x_sb (xs_sv X v) = x_sb X := rfl
theorem x_sv_sv (X : XT) (v : Nat → Nat) : x_sv (xs_sv X v) = v := rfl
/-- the cells hold X (of who is not there nothing is said of what it KNOWS) -/
def rp (I : Nat → Int32) (A : Nat → Nat → Int32) (X : XT) : Prop := I 0 = nI (x_sz X) ∧ I 1 = nI (bitsN (x_br X) 8) ∧ I 6 = nI (bitsN (x_th X) 6) ∧ I 12 = nI (bitsN (x_pu X) 8) ∧ I 13 = nI (x_fa X) ∧ I 14 = nI (x_sg X) ∧ (∀ i, i < 8 → A 1 i = nI (x_lo X i)) ∧ (∀ i, i < 8 → A 2 i = nI (x_hi X i)) ∧ (∀ i, i < 8 → A 3 i = nI (x_ld X i)) ∧ (∀ i, i < 8 → A 4 i = nI (x_bn X i)) ∧ (∀ i, i < 6 → A 5 i = nI (x_pl X i)) ∧ (∀ i, i < 6 → A 6 i = nI (x_ki X i)) ∧ (∀ i, i < 6 → x_th X i = true → A 7 i = nI (bitsN (x_kn X i) 8)) ∧ (∀ i, i < 8 → A 8 i = zI (x_wt X i)) ∧ (∀ i, i < 8 → A 9 i = nI (x_ab X i)) ∧ (∀ i, i < 6 → A 10 i = nI (x_sb X i)) ∧ (∀ i, i < 6 → A 11 i = nI (x_sv X i))
def mslot (k : Nat) : Nat := if k = 6 then 2 else if k = 12 then 3 else if k = 14 then 16 else k
def rpT (σ : St) (b : Nat) (X : XT) : Prop := rp (sI σ b) (fun j => sA σ (b + j)) X
def rpM (σ : St) (X : XT) : Prop := rp (fun k => sI σ 33 (mslot k)) (fun j => sA σ (33 + j)) X
/-- the class's towns: who is not there KNOWS nothing -/
def rzT (σ : St) (b : Nat) (X : XT) : Prop := rpT σ b X ∧ ∀ i, i < 6 → sA σ (b + 7) i = nI (bitsN (x_kn X i) 8)
theorem rpT_sz {σ : St} {b : Nat} {X : XT} (h : rpT σ b X) : sI σ b 0 = nI (x_sz X) := h.1
theorem rpM_sz {σ : St} {X : XT} (h : rpM σ X) : sI σ 33 0 = nI (x_sz X) := h.1
theorem rpT_br {σ : St} {b : Nat} {X : XT} (h : rpT σ b X) : sI σ b 1 = nI (bitsN (x_br X) 8) := h.2.1
theorem rpM_br {σ : St} {X : XT} (h : rpM σ X) : sI σ 33 1 = nI (bitsN (x_br X) 8) := h.2.1
theorem rpT_th {σ : St} {b : Nat} {X : XT} (h : rpT σ b X) : sI σ b 6 = nI (bitsN (x_th X) 6) := h.2.2.1
theorem rpM_th {σ : St} {X : XT} (h : rpM σ X) : sI σ 33 2 = nI (bitsN (x_th X) 6) := h.2.2.1
theorem rpT_pu {σ : St} {b : Nat} {X : XT} (h : rpT σ b X) : sI σ b 12 = nI (bitsN (x_pu X) 8) := h.2.2.2.1
theorem rpM_pu {σ : St} {X : XT} (h : rpM σ X) : sI σ 33 3 = nI (bitsN (x_pu X) 8) := h.2.2.2.1
theorem rpT_fa {σ : St} {b : Nat} {X : XT} (h : rpT σ b X) : sI σ b 13 = nI (x_fa X) := h.2.2.2.2.1
theorem rpM_fa {σ : St} {X : XT} (h : rpM σ X) : sI σ 33 13 = nI (x_fa X) := h.2.2.2.2.1
theorem rpT_sg {σ : St} {b : Nat} {X : XT} (h : rpT σ b X) : sI σ b 14 = nI (x_sg X) := h.2.2.2.2.2.1
theorem rpM_sg {σ : St} {X : XT} (h : rpM σ X) : sI σ 33 16 = nI (x_sg X) := h.2.2.2.2.2.1
theorem rpT_lo {σ : St} {b : Nat} {X : XT} (h : rpT σ b X) {i : Nat} (hi : i < 8) : sA σ (b + 1) i = nI (x_lo X i) := h.2.2.2.2.2.2.1 i hi
theorem rpM_lo {σ : St} {X : XT} (h : rpM σ X) {i : Nat} (hi : i < 8) : sA σ 34 i = nI (x_lo X i) := h.2.2.2.2.2.2.1 i hi
theorem rpT_hi {σ : St} {b : Nat} {X : XT} (h : rpT σ b X) {i : Nat} (hi : i < 8) : sA σ (b + 2) i = nI (x_hi X i) := h.2.2.2.2.2.2.2.1 i hi
theorem rpM_hi {σ : St} {X : XT} (h : rpM σ X) {i : Nat} (hi : i < 8) : sA σ 35 i = nI (x_hi X i) := h.2.2.2.2.2.2.2.1 i hi
theorem rpT_ld {σ : St} {b : Nat} {X : XT} (h : rpT σ b X) {i : Nat} (hi : i < 8) : sA σ (b + 3) i = nI (x_ld X i) := h.2.2.2.2.2.2.2.2.1 i hi
theorem rpM_ld {σ : St} {X : XT} (h : rpM σ X) {i : Nat} (hi : i < 8) : sA σ 36 i = nI (x_ld X i) := h.2.2.2.2.2.2.2.2.1 i hi
theorem rpT_bn {σ : St} {b : Nat} {X : XT} (h : rpT σ b X) {i : Nat} (hi : i < 8) : sA σ (b + 4) i = nI (x_bn X i) := h.2.2.2.2.2.2.2.2.2.1 i hi
theorem rpM_bn {σ : St} {X : XT} (h : rpM σ X) {i : Nat} (hi : i < 8) : sA σ 37 i = nI (x_bn X i) := h.2.2.2.2.2.2.2.2.2.1 i hi
theorem rpT_pl {σ : St} {b : Nat} {X : XT} (h : rpT σ b X) {i : Nat} (hi : i < 6) : sA σ (b + 5) i = nI (x_pl X i) := h.2.2.2.2.2.2.2.2.2.2.1 i hi
theorem rpM_pl {σ : St} {X : XT} (h : rpM σ X) {i : Nat} (hi : i < 6) : sA σ 38 i = nI (x_pl X i) := h.2.2.2.2.2.2.2.2.2.2.1 i hi
theorem rpT_ki {σ : St} {b : Nat} {X : XT} (h : rpT σ b X) {i : Nat} (hi : i < 6) : sA σ (b + 6) i = nI (x_ki X i) := h.2.2.2.2.2.2.2.2.2.2.2.1 i hi
theorem rpM_ki {σ : St} {X : XT} (h : rpM σ X) {i : Nat} (hi : i < 6) : sA σ 39 i = nI (x_ki X i) := h.2.2.2.2.2.2.2.2.2.2.2.1 i hi
theorem rzT_kn {σ : St} {b : Nat} {X : XT} (h : rzT σ b X) {i : Nat} (hi : i < 6) : sA σ (b + 7) i = nI (bitsN (x_kn X i) 8) := h.2 i hi
theorem rpM_kn {σ : St} {X : XT} (h : rpM σ X) {i : Nat} (hi : i < 6) (ht : x_th X i = true) : sA σ 40 i = nI (bitsN (x_kn X i) 8) := h.2.2.2.2.2.2.2.2.2.2.2.2.1 i hi ht
theorem rpT_wt {σ : St} {b : Nat} {X : XT} (h : rpT σ b X) {i : Nat} (hi : i < 8) : sA σ (b + 8) i = zI (x_wt X i) := h.2.2.2.2.2.2.2.2.2.2.2.2.2.1 i hi
theorem rpM_wt {σ : St} {X : XT} (h : rpM σ X) {i : Nat} (hi : i < 8) : sA σ 41 i = zI (x_wt X i) := h.2.2.2.2.2.2.2.2.2.2.2.2.2.1 i hi
theorem rpT_ab {σ : St} {b : Nat} {X : XT} (h : rpT σ b X) {i : Nat} (hi : i < 8) : sA σ (b + 9) i = nI (x_ab X i) := h.2.2.2.2.2.2.2.2.2.2.2.2.2.2.1 i hi
theorem rpM_ab {σ : St} {X : XT} (h : rpM σ X) {i : Nat} (hi : i < 8) : sA σ 42 i = nI (x_ab X i) := h.2.2.2.2.2.2.2.2.2.2.2.2.2.2.1 i hi
theorem rpT_sb {σ : St} {b : Nat} {X : XT} (h : rpT σ b X) {i : Nat} (hi : i < 6) : sA σ (b + 10) i = nI (x_sb X i) := h.2.2.2.2.2.2.2.2.2.2.2.2.2.2.2.1 i hi
theorem rpM_sb {σ : St} {X : XT} (h : rpM σ X) {i : Nat} (hi : i < 6) : sA σ 43 i = nI (x_sb X i) := h.2.2.2.2.2.2.2.2.2.2.2.2.2.2.2.1 i hi
theorem rpT_sv {σ : St} {b : Nat} {X : XT} (h : rpT σ b X) {i : Nat} (hi : i < 6) : sA σ (b + 11) i = nI (x_sv X i) := h.2.2.2.2.2.2.2.2.2.2.2.2.2.2.2.2 i hi
theorem rpM_sv {σ : St} {X : XT} (h : rpM σ X) {i : Nat} (hi : i < 6) : sA σ 44 i = nI (x_sv X i) := h.2.2.2.2.2.2.2.2.2.2.2.2.2.2.2.2 i hi
/-- the bounds -/
def okX (X : XT) : Prop := (2 ≤ x_sz X ∧ x_sz X ≤ 6) ∧ (∀ i, i < 8 → x_lo X i < 6 ∧ x_hi X i < 6 ∧ x_ld X i < 100 ∧ x_bn X i < 2000) ∧ (∀ i, i < 8 → x_br X i = true → x_lo X i < x_hi X i ∧ x_hi X i < x_sz X) ∧ (∀ p, p < 6 → x_pl X p < 6 ∧ x_ki X p < 3) ∧ (∀ p, p < 6 → x_th X p = true → x_pl X p < x_sz X) ∧ (∀ p, p < 6 → x_th X p = false → ∀ k, x_kn X p k = false) ∧ (∀ k, k < 8 → -20 ≤ x_wt X k ∧ x_wt X k ≤ 99 ∧ x_ab X k < 4) ∧ x_fa X ≤ 9 ∧ x_sg X ≤ 6 ∧ (∀ i, i < 6 → x_sb X i < 8 ∧ x_sv X i < 1000)
theorem ok_sz {X : XT} (h : okX X) : 2 ≤ x_sz X ∧ x_sz X ≤ 6 := h.1
theorem ok_b {X : XT} (h : okX X) {i : Nat} (hi : i < 8) : x_lo X i < 6 ∧ x_hi X i < 6 ∧ x_ld X i < 100 ∧ x_bn X i < 2000 := h.2.1 i hi
theorem ok_br {X : XT} (h : okX X) {i : Nat} (hi : i < 8) (hb : x_br X i = true) : x_lo X i < x_hi X i ∧ x_hi X i < x_sz X := h.2.2.1 i hi hb
theorem ok_p {X : XT} (h : okX X) {i : Nat} (hi : i < 6) : x_pl X i < 6 ∧ x_ki X i < 3 := h.2.2.2.1 i hi
theorem ok_th {X : XT} (h : okX X) {i : Nat} (hi : i < 6) (ht : x_th X i = true) : x_pl X i < x_sz X := h.2.2.2.2.1 i hi ht
theorem ok_no {X : XT} (h : okX X) {i : Nat} (hi : i < 6) (ht : x_th X i = false) (k : Nat) : x_kn X i k = false := h.2.2.2.2.2.1 i hi ht k
theorem ok_wt {X : XT} (h : okX X) {k : Nat} (hk : k < 8) : -20 ≤ x_wt X k ∧ x_wt X k ≤ 99 ∧ x_ab X k < 4 := h.2.2.2.2.2.2.1 k hk
theorem ok_fa {X : XT} (h : okX X) : x_fa X ≤ 9 := h.2.2.2.2.2.2.2.1
theorem ok_sg {X : XT} (h : okX X) : x_sg X ≤ 6 := h.2.2.2.2.2.2.2.2.1
theorem ok_sb {X : XT} (h : okX X) {i : Nat} (hi : i < 6) : x_sb X i < 8 ∧ x_sv X i < 1000 := h.2.2.2.2.2.2.2.2.2 i hi
/-! what is told of a town -/
/-- how many KNOW it -/
def kcX (X : XT) (k : Nat) : Nat := cntN (fun p => x_kn X p k) 6
/-- how HEAVY it is for p, by n -/
def hvX (X : XT) (p k n : Nat) : Int := if x_pu X k = true then 0 else (x_wt X k * (if x_ab X k = x_ki X p then 2 else 1)).tdiv (n : Int)
/-- as p KNOWS it, or would -/
def hwX (X : XT) (p k : Nat) : Int := hvX X p k (kcX X k + b2n (!x_kn X p k))
def smX (X : XT) (p : Nat) (s : Nat → Bool) (n : Nat) : Int := sumN (fun k => if s k = true then hwX X p k else 0) n
/-- what p CARRIES -/
def buX (X : XT) (p : Nat) : Nat := (smX X p (x_kn X p) 8).toNat
theorem hv_bd {X : XT} (h : okX X) {p k : Nat} (hk : k < 8) (n : Nat) : -198 ≤ hvX X p k n ∧ hvX X p k n ≤ 198 := by
  unfold hvX
  have hw := ok_wt h hk
  split
  · omega
  · generalize hz : x_wt X k * (if x_ab X k = x_ki X p then 2 else 1) = z
    have hz2 : -198 ≤ z ∧ z ≤ 198 := by
      rw [← hz]; split <;> omega
    have h2 := Int.natAbs_tdiv_le_natAbs z (n : Int)
    omega
theorem sm_bd {X : XT} (h : okX X) {p : Nat} {s : Nat → Bool} {n : Nat} (hn : n ≤ 8) : -1584 ≤ smX X p s n ∧ smX X p s n ≤ 1584 := by
  have h1 := sumN_bound (f := fun k => if s k = true then hwX X p k else 0) (c := 198) (n := n) (fun i hi => by
    split
    · exact hv_bd h (by omega) _
    · omega)
  unfold smX
  have : (n : Int) * 198 ≤ 8 * 198 := Int.mul_le_mul_of_nonneg_right (by omega) (by decide)
  omega
theorem bu_bd {X : XT} (h : okX X) (p : Nat) : buX X p ≤ 1584 := by
  have := sm_bd h (p := p) (s := x_kn X p) (n := 8) (Nat.le_refl 8)
  unfold buX; omega
theorem kc_le (X : XT) (k : Nat) : kcX X k ≤ 6 := cntN_le _ 6
theorem kc_pos {X : XT} {p k : Nat} (hp : p < 6) (h : x_kn X p k = true) : 0 < kcX X k := cntN_pos hp h
end
section
theorem ci_m1 : Int32.ofInt (-1) = (-1) := by decide +kernel
theorem ci_0 : Int32.ofInt 0 = nI 0 := by decide +kernel
theorem ci_1 : Int32.ofInt 1 = nI 1 := by decide +kernel
theorem ci_2 : Int32.ofInt 2 = nI 2 := by decide +kernel
theorem ci_3 : Int32.ofInt 3 = nI 3 := by decide +kernel
theorem ci_4 : Int32.ofInt 4 = nI 4 := by decide +kernel
theorem ci_5 : Int32.ofInt 5 = nI 5 := by decide +kernel
theorem bp_m20 : (Int8.ofInt (-20)).toInt32 = (-20) := by decide +kernel
theorem bp_m6 : (Int8.ofInt (-6)).toInt32 = (-6) := by decide +kernel
theorem bp_m5 : (Int8.ofInt (-5)).toInt32 = (-5) := by decide +kernel
theorem bp_m4 : (Int8.ofInt (-4)).toInt32 = (-4) := by decide +kernel
theorem bp_m3 : (Int8.ofInt (-3)).toInt32 = (-3) := by decide +kernel
theorem bp_m2 : (Int8.ofInt (-2)).toInt32 = (-2) := by decide +kernel
theorem bp_6 : (Int8.ofInt 6).toInt32 = nI 6 := by decide +kernel
theorem bp_7 : (Int8.ofInt 7).toInt32 = nI 7 := by decide +kernel
theorem bp_8 : (Int8.ofInt 8).toInt32 = nI 8 := by decide +kernel
theorem bp_9 : (Int8.ofInt 9).toInt32 = nI 9 := by decide +kernel
theorem bp_10 : (Int8.ofInt 10).toInt32 = nI 10 := by decide +kernel
theorem bp_16 : (Int8.ofInt 16).toInt32 = nI 16 := by decide +kernel
theorem bp_17 : (Int8.ofInt 17).toInt32 = nI 17 := by decide +kernel
theorem bp_20 : (Int8.ofInt 20).toInt32 = nI 20 := by decide +kernel
theorem bp_27 : (Int8.ofInt 27).toInt32 = nI 27 := by decide +kernel
theorem bp_33 : (Int8.ofInt 33).toInt32 = nI 33 := by decide +kernel
theorem bp_36 : (Int8.ofInt 36).toInt32 = nI 36 := by decide +kernel
theorem bp_46 : (Int8.ofInt 46).toInt32 = nI 46 := by decide +kernel
theorem bp_48 : (Int8.ofInt 48).toInt32 = nI 48 := by decide +kernel
theorem bp_55 : (Int8.ofInt 55).toInt32 = nI 55 := by decide +kernel
theorem bp_60 : (Int8.ofInt 60).toInt32 = nI 60 := by decide +kernel
theorem bp_63 : (Int8.ofInt 63).toInt32 = nI 63 := by decide +kernel
theorem bp_65 : (Int8.ofInt 65).toInt32 = nI 65 := by decide +kernel
theorem bp_70 : (Int8.ofInt 70).toInt32 = nI 70 := by decide +kernel
theorem bp_74 : (Int8.ofInt 74).toInt32 = nI 74 := by decide +kernel
theorem bp_75 : (Int8.ofInt 75).toInt32 = nI 75 := by decide +kernel
theorem bp_97 : (Int8.ofInt 97).toInt32 = nI 97 := by decide +kernel
theorem bp_99 : (Int8.ofInt 99).toInt32 = nI 99 := by decide +kernel
theorem bp_100 : (Int8.ofInt 100).toInt32 = nI 100 := by decide +kernel
theorem bp_104 : (Int8.ofInt 104).toInt32 = nI 104 := by decide +kernel
theorem bp_126 : (Int8.ofInt 126).toInt32 = nI 126 := by decide +kernel
theorem sp_200 : (Int16.ofInt 200).toInt32 = nI 200 := by decide +kernel
theorem sp_256 : (Int16.ofInt 256).toInt32 = nI 256 := by decide +kernel
theorem sp_999 : (Int16.ofInt 999).toInt32 = nI 999 := by decide +kernel
theorem sp_1000 : (Int16.ofInt 1000).toInt32 = nI 1000 := by decide +kernel
theorem sp_9999 : (Int16.ofInt 9999).toInt32 = nI 9999 := by decide +kernel
theorem lc_0 : Int64.ofNat ((0 : Fin 2) : Nat) = (nI 0).toInt64 := by decide +kernel
theorem lc_1 : Int64.ofNat ((1 : Fin 2) : Nat) = (nI 1).toInt64 := by decide +kernel
section BR
variable {l : Launch} {D : gE} {y : MethodName} {cc : ByteArray} {nL : Nat} {rt : Option FieldType} {rm : Room} {Q : Option Value → va_W → Prop} {cells slots pc : Nat} {lv : List (Nat × Value)} {st : List Value} {ws : va_W} {off : Int}
theorem n_icmpeq {a b : Nat} (tgt : Nat) (hd : decode cc pc = .ok (.if_icmp .eq off, 3)) (ht : (pc : Int) + off = (tgt : Int)) (ha : a < 2 ^ 31) (hb : b < 2 ^ 31) (kt : a = b → G l D y cc nL rt rm Q cells slots tgt lv st ws) (kf : ¬ a = b → G l D y cc nL rt rm Q cells slots (pc + 3) lv st ws) : G l D y cc nL rt rm Q cells slots pc lv (.int (nI b) :: .int (nI a) :: st) ws := g_icmpeq tgt hd ht (fun h => kt ((nI_eq ha hb).mp h)) (fun h => kf (fun e => h ((nI_eq ha hb).mpr e)))
theorem z_icmpeq {a b : Int} (tgt : Nat) (hd : decode cc pc = .ok (.if_icmp .eq off, 3)) (ht : (pc : Int) + off = (tgt : Int)) (ha : -2147483648 ≤ a ∧ a < 2147483648) (hb : -2147483648 ≤ b ∧ b < 2147483648) (kt : a = b → G l D y cc nL rt rm Q cells slots tgt lv st ws) (kf : ¬ a = b → G l D y cc nL rt rm Q cells slots (pc + 3) lv st ws) : G l D y cc nL rt rm Q cells slots pc lv (.int (zI b) :: .int (zI a) :: st) ws := g_icmpeq tgt hd ht (fun h => kt ((zI_inj ha hb).mp h)) (fun h => kf (fun e => h ((zI_inj ha hb).mpr e)))
theorem n_icmpne {a b : Nat} (tgt : Nat) (hd : decode cc pc = .ok (.if_icmp .ne off, 3)) (ht : (pc : Int) + off = (tgt : Int)) (ha : a < 2 ^ 31) (hb : b < 2 ^ 31) (kt : ¬ a = b → G l D y cc nL rt rm Q cells slots tgt lv st ws) (kf : a = b → G l D y cc nL rt rm Q cells slots (pc + 3) lv st ws) : G l D y cc nL rt rm Q cells slots pc lv (.int (nI b) :: .int (nI a) :: st) ws := g_icmpne tgt hd ht (fun h => kt (fun e => h ((nI_eq ha hb).mpr e))) (fun h => kf ((nI_eq ha hb).mp h))
theorem z_icmpne {a b : Int} (tgt : Nat) (hd : decode cc pc = .ok (.if_icmp .ne off, 3)) (ht : (pc : Int) + off = (tgt : Int)) (ha : -2147483648 ≤ a ∧ a < 2147483648) (hb : -2147483648 ≤ b ∧ b < 2147483648) (kt : ¬ a = b → G l D y cc nL rt rm Q cells slots tgt lv st ws) (kf : a = b → G l D y cc nL rt rm Q cells slots (pc + 3) lv st ws) : G l D y cc nL rt rm Q cells slots pc lv (.int (zI b) :: .int (zI a) :: st) ws := g_icmpne tgt hd ht (fun h => kt (fun e => h ((zI_inj ha hb).mpr e))) (fun h => kf ((zI_inj ha hb).mp h))
theorem n_icmplt {a b : Nat} (tgt : Nat) (hd : decode cc pc = .ok (.if_icmp .lt off, 3)) (ht : (pc : Int) + off = (tgt : Int)) (ha : a < 2 ^ 31) (hb : b < 2 ^ 31) (kt : a < b → G l D y cc nL rt rm Q cells slots tgt lv st ws) (kf : b ≤ a → G l D y cc nL rt rm Q cells slots (pc + 3) lv st ws) : G l D y cc nL rt rm Q cells slots pc lv (.int (nI b) :: .int (nI a) :: st) ws := g_icmplt tgt hd ht (fun h => kt ((nI_ltI ha hb).mp h)) (fun h => kf (by have h2 := mt (nI_ltI ha hb).mpr h; omega))
theorem z_icmplt {a b : Int} (tgt : Nat) (hd : decode cc pc = .ok (.if_icmp .lt off, 3)) (ht : (pc : Int) + off = (tgt : Int)) (ha : -2147483648 ≤ a ∧ a < 2147483648) (hb : -2147483648 ≤ b ∧ b < 2147483648) (kt : a < b → G l D y cc nL rt rm Q cells slots tgt lv st ws) (kf : b ≤ a → G l D y cc nL rt rm Q cells slots (pc + 3) lv st ws) : G l D y cc nL rt rm Q cells slots pc lv (.int (zI b) :: .int (zI a) :: st) ws := g_icmplt tgt hd ht (fun h => kt ((zI_lt ha hb).mp h)) (fun h => kf (by have h2 := mt (zI_lt ha hb).mpr h; omega))
theorem n_icmpge {a b : Nat} (tgt : Nat) (hd : decode cc pc = .ok (.if_icmp .ge off, 3)) (ht : (pc : Int) + off = (tgt : Int)) (ha : a < 2 ^ 31) (hb : b < 2 ^ 31) (kt : b ≤ a → G l D y cc nL rt rm Q cells slots tgt lv st ws) (kf : a < b → G l D y cc nL rt rm Q cells slots (pc + 3) lv st ws) : G l D y cc nL rt rm Q cells slots pc lv (.int (nI b) :: .int (nI a) :: st) ws := g_icmpge tgt hd ht (fun h => kt ((nI_leI hb ha).mp h)) (fun h => kf (by have h2 := mt (nI_leI hb ha).mpr h; omega))
theorem z_icmpge {a b : Int} (tgt : Nat) (hd : decode cc pc = .ok (.if_icmp .ge off, 3)) (ht : (pc : Int) + off = (tgt : Int)) (ha : -2147483648 ≤ a ∧ a < 2147483648) (hb : -2147483648 ≤ b ∧ b < 2147483648) (kt : b ≤ a → G l D y cc nL rt rm Q cells slots tgt lv st ws) (kf : a < b → G l D y cc nL rt rm Q cells slots (pc + 3) lv st ws) : G l D y cc nL rt rm Q cells slots pc lv (.int (zI b) :: .int (zI a) :: st) ws := g_icmpge tgt hd ht (fun h => kt ((zI_le hb ha).mp h)) (fun h => kf (by have h2 := mt (zI_le hb ha).mpr h; omega))
theorem n_icmpgt {a b : Nat} (tgt : Nat) (hd : decode cc pc = .ok (.if_icmp .gt off, 3)) (ht : (pc : Int) + off = (tgt : Int)) (ha : a < 2 ^ 31) (hb : b < 2 ^ 31) (kt : b < a → G l D y cc nL rt rm Q cells slots tgt lv st ws) (kf : a ≤ b → G l D y cc nL rt rm Q cells slots (pc + 3) lv st ws) : G l D y cc nL rt rm Q cells slots pc lv (.int (nI b) :: .int (nI a) :: st) ws := g_icmpgt tgt hd ht (fun h => kt ((nI_ltI hb ha).mp h)) (fun h => kf (by have h2 := mt (nI_ltI hb ha).mpr h; omega))
theorem z_icmpgt {a b : Int} (tgt : Nat) (hd : decode cc pc = .ok (.if_icmp .gt off, 3)) (ht : (pc : Int) + off = (tgt : Int)) (ha : -2147483648 ≤ a ∧ a < 2147483648) (hb : -2147483648 ≤ b ∧ b < 2147483648) (kt : b < a → G l D y cc nL rt rm Q cells slots tgt lv st ws) (kf : a ≤ b → G l D y cc nL rt rm Q cells slots (pc + 3) lv st ws) : G l D y cc nL rt rm Q cells slots pc lv (.int (zI b) :: .int (zI a) :: st) ws := g_icmpgt tgt hd ht (fun h => kt ((zI_lt hb ha).mp h)) (fun h => kf (by have h2 := mt (zI_lt hb ha).mpr h; omega))
theorem n_icmple {a b : Nat} (tgt : Nat) (hd : decode cc pc = .ok (.if_icmp .le off, 3)) (ht : (pc : Int) + off = (tgt : Int)) (ha : a < 2 ^ 31) (hb : b < 2 ^ 31) (kt : a ≤ b → G l D y cc nL rt rm Q cells slots tgt lv st ws) (kf : b < a → G l D y cc nL rt rm Q cells slots (pc + 3) lv st ws) : G l D y cc nL rt rm Q cells slots pc lv (.int (nI b) :: .int (nI a) :: st) ws := g_icmple tgt hd ht (fun h => kt ((nI_leI ha hb).mp h)) (fun h => kf (by have h2 := mt (nI_leI ha hb).mpr h; omega))
theorem z_icmple {a b : Int} (tgt : Nat) (hd : decode cc pc = .ok (.if_icmp .le off, 3)) (ht : (pc : Int) + off = (tgt : Int)) (ha : -2147483648 ≤ a ∧ a < 2147483648) (hb : -2147483648 ≤ b ∧ b < 2147483648) (kt : a ≤ b → G l D y cc nL rt rm Q cells slots tgt lv st ws) (kf : b < a → G l D y cc nL rt rm Q cells slots (pc + 3) lv st ws) : G l D y cc nL rt rm Q cells slots pc lv (.int (zI b) :: .int (zI a) :: st) ws := g_icmple tgt hd ht (fun h => kt ((zI_le ha hb).mp h)) (fun h => kf (by have h2 := mt (zI_le ha hb).mpr h; omega))
theorem n_ifeq {a : Nat} (tgt : Nat) (hd : decode cc pc = .ok (.ifCond .eq off, 3)) (ht : (pc : Int) + off = (tgt : Int)) (ha : a < 2 ^ 31) (kt : a = 0 → G l D y cc nL rt rm Q cells slots tgt lv st ws) (kf : ¬ a = 0 → G l D y cc nL rt rm Q cells slots (pc + 3) lv st ws) : G l D y cc nL rt rm Q cells slots pc lv (.int (nI a) :: st) ws := g_ifeq tgt hd ht (fun h => kt ((nI_eq ha (show (0 : Nat) < 2 ^ 31 by decide)).mp h)) (fun h => kf (fun e => h ((nI_eq ha (show (0 : Nat) < 2 ^ 31 by decide)).mpr e)))
theorem n_ifne {a : Nat} (tgt : Nat) (hd : decode cc pc = .ok (.ifCond .ne off, 3)) (ht : (pc : Int) + off = (tgt : Int)) (ha : a < 2 ^ 31) (kt : ¬ a = 0 → G l D y cc nL rt rm Q cells slots tgt lv st ws) (kf : a = 0 → G l D y cc nL rt rm Q cells slots (pc + 3) lv st ws) : G l D y cc nL rt rm Q cells slots pc lv (.int (nI a) :: st) ws := g_ifne tgt hd ht (fun h => kt (fun e => h ((nI_eq ha (show (0 : Nat) < 2 ^ 31 by decide)).mpr e))) (fun h => kf ((nI_eq ha (show (0 : Nat) < 2 ^ 31 by decide)).mp h))
theorem n_ifgt {a : Nat} (tgt : Nat) (hd : decode cc pc = .ok (.ifCond .gt off, 3)) (ht : (pc : Int) + off = (tgt : Int)) (ha : a < 2 ^ 31) (kt : 0 < a → G l D y cc nL rt rm Q cells slots tgt lv st ws) (kf : a ≤ 0 → G l D y cc nL rt rm Q cells slots (pc + 3) lv st ws) : G l D y cc nL rt rm Q cells slots pc lv (.int (nI a) :: st) ws := g_ifgt tgt hd ht (fun h => kt ((nI_ltI (show (0 : Nat) < 2 ^ 31 by decide) ha).mp h)) (fun h => kf (by have h2 := mt (nI_ltI (show (0 : Nat) < 2 ^ 31 by decide) ha).mpr h; omega))
theorem n_ifle {a : Nat} (tgt : Nat) (hd : decode cc pc = .ok (.ifCond .le off, 3)) (ht : (pc : Int) + off = (tgt : Int)) (ha : a < 2 ^ 31) (kt : a ≤ 0 → G l D y cc nL rt rm Q cells slots tgt lv st ws) (kf : 0 < a → G l D y cc nL rt rm Q cells slots (pc + 3) lv st ws) : G l D y cc nL rt rm Q cells slots pc lv (.int (nI a) :: st) ws := g_ifle tgt hd ht (fun h => kt ((nI_leI ha (show (0 : Nat) < 2 ^ 31 by decide)).mp h)) (fun h => kf (by have h2 := mt (nI_leI ha (show (0 : Nat) < 2 ^ 31 by decide)).mpr h; omega))
theorem z_ifeq {a : Int} (tgt : Nat) (hd : decode cc pc = .ok (.ifCond .eq off, 3)) (ht : (pc : Int) + off = (tgt : Int)) (ha : -2147483648 ≤ a ∧ a < 2147483648) (kt : a = 0 → G l D y cc nL rt rm Q cells slots tgt lv st ws) (kf : ¬ a = 0 → G l D y cc nL rt rm Q cells slots (pc + 3) lv st ws) : G l D y cc nL rt rm Q cells slots pc lv (.int (zI a) :: st) ws := by
  have hz0 : (-2147483648 : Int) ≤ 0 ∧ (0 : Int) < 2147483648 := by omega
  exact g_ifeq tgt hd ht (fun h => kt ((zI_inj ha hz0).mp h)) (fun h => kf (fun e => h ((zI_inj ha hz0).mpr e)))
theorem z_ifne {a : Int} (tgt : Nat) (hd : decode cc pc = .ok (.ifCond .ne off, 3)) (ht : (pc : Int) + off = (tgt : Int)) (ha : -2147483648 ≤ a ∧ a < 2147483648) (kt : ¬ a = 0 → G l D y cc nL rt rm Q cells slots tgt lv st ws) (kf : a = 0 → G l D y cc nL rt rm Q cells slots (pc + 3) lv st ws) : G l D y cc nL rt rm Q cells slots pc lv (.int (zI a) :: st) ws := by
  have hz0 : (-2147483648 : Int) ≤ 0 ∧ (0 : Int) < 2147483648 := by omega
  exact g_ifne tgt hd ht (fun h => kt (fun e => h ((zI_inj ha hz0).mpr e))) (fun h => kf ((zI_inj ha hz0).mp h))
theorem z_iflt {a : Int} (tgt : Nat) (hd : decode cc pc = .ok (.ifCond .lt off, 3)) (ht : (pc : Int) + off = (tgt : Int)) (ha : -2147483648 ≤ a ∧ a < 2147483648) (kt : a < 0 → G l D y cc nL rt rm Q cells slots tgt lv st ws) (kf : 0 ≤ a → G l D y cc nL rt rm Q cells slots (pc + 3) lv st ws) : G l D y cc nL rt rm Q cells slots pc lv (.int (zI a) :: st) ws := by
  have hz0 : (-2147483648 : Int) ≤ 0 ∧ (0 : Int) < 2147483648 := by omega
  exact g_iflt tgt hd ht (fun h => kt ((zI_lt ha hz0).mp h)) (fun h => kf (by have h2 := mt (zI_lt ha hz0).mpr h; omega))
theorem z_ifge {a : Int} (tgt : Nat) (hd : decode cc pc = .ok (.ifCond .ge off, 3)) (ht : (pc : Int) + off = (tgt : Int)) (ha : -2147483648 ≤ a ∧ a < 2147483648) (kt : 0 ≤ a → G l D y cc nL rt rm Q cells slots tgt lv st ws) (kf : a < 0 → G l D y cc nL rt rm Q cells slots (pc + 3) lv st ws) : G l D y cc nL rt rm Q cells slots pc lv (.int (zI a) :: st) ws := by
  have hz0 : (-2147483648 : Int) ≤ 0 ∧ (0 : Int) < 2147483648 := by omega
  exact g_ifge tgt hd ht (fun h => kt ((zI_le hz0 ha).mp h)) (fun h => kf (by have h2 := mt (zI_le hz0 ha).mpr h; omega))
theorem z_ifgt {a : Int} (tgt : Nat) (hd : decode cc pc = .ok (.ifCond .gt off, 3)) (ht : (pc : Int) + off = (tgt : Int)) (ha : -2147483648 ≤ a ∧ a < 2147483648) (kt : 0 < a → G l D y cc nL rt rm Q cells slots tgt lv st ws) (kf : a ≤ 0 → G l D y cc nL rt rm Q cells slots (pc + 3) lv st ws) : G l D y cc nL rt rm Q cells slots pc lv (.int (zI a) :: st) ws := by
  have hz0 : (-2147483648 : Int) ≤ 0 ∧ (0 : Int) < 2147483648 := by omega
  exact g_ifgt tgt hd ht (fun h => kt ((zI_lt hz0 ha).mp h)) (fun h => kf (by have h2 := mt (zI_lt hz0 ha).mpr h; omega))
theorem z_ifle {a : Int} (tgt : Nat) (hd : decode cc pc = .ok (.ifCond .le off, 3)) (ht : (pc : Int) + off = (tgt : Int)) (ha : -2147483648 ≤ a ∧ a < 2147483648) (kt : a ≤ 0 → G l D y cc nL rt rm Q cells slots tgt lv st ws) (kf : 0 < a → G l D y cc nL rt rm Q cells slots (pc + 3) lv st ws) : G l D y cc nL rt rm Q cells slots pc lv (.int (zI a) :: st) ws := by
  have hz0 : (-2147483648 : Int) ≤ 0 ∧ (0 : Int) < 2147483648 := by omega
  exact g_ifle tgt hd ht (fun h => kt ((zI_le ha hz0).mp h)) (fun h => kf (by have h2 := mt (zI_le ha hz0).mpr h; omega))
theorem n_iflt {a : Nat} (hd : decode cc pc = .ok (.ifCond .lt off, 3)) {tgt : Nat} (ht : (pc : Int) + off = (tgt : Int)) (ha : a < 2 ^ 31) (kf : G l D y cc nL rt rm Q cells slots (pc + 3) lv st ws) : G l D y cc nL rt rm Q cells slots pc lv (.int (nI a) :: st) ws := g_iflt tgt hd ht (fun h => absurd h (nI_pos ha)) (fun _ => kf)
theorem n_ifge {a : Nat} (tgt : Nat) (hd : decode cc pc = .ok (.ifCond .ge off, 3)) (ht : (pc : Int) + off = (tgt : Int)) (ha : a < 2 ^ 31) (kt : G l D y cc nL rt rm Q cells slots tgt lv st ws) : G l D y cc nL rt rm Q cells slots pc lv (.int (nI a) :: st) ws := g_ifge tgt hd ht (fun _ => kt) (fun h => absurd (nI_pos' ha) h)
/-- bits -/
theorem b_ifeq {c : Bool} (tgt : Nat) (hd : decode cc pc = .ok (.ifCond .eq off, 3)) (ht : (pc : Int) + off = (tgt : Int)) (kt : c = false → G l D y cc nL rt rm Q cells slots tgt lv st ws) (kf : c = true → G l D y cc nL rt rm Q cells slots (pc + 3) lv st ws) : G l D y cc nL rt rm Q cells slots pc lv (.int (nI (b2n c)) :: st) ws := g_ifeq tgt hd ht (fun h => kt (by cases c; rfl; exact absurd h (by decide +kernel))) (fun h => kf (by cases c; exact absurd rfl h; rfl))
theorem b_ifne {c : Bool} (tgt : Nat) (hd : decode cc pc = .ok (.ifCond .ne off, 3)) (ht : (pc : Int) + off = (tgt : Int)) (kt : c = true → G l D y cc nL rt rm Q cells slots tgt lv st ws) (kf : c = false → G l D y cc nL rt rm Q cells slots (pc + 3) lv st ws) : G l D y cc nL rt rm Q cells slots pc lv (.int (nI (b2n c)) :: st) ws := g_ifne tgt hd ht (fun h => kt (by cases c; exact absurd rfl h; rfl)) (fun h => kf (by cases c; rfl; exact absurd h (by decide +kernel)))
theorem b_icmpne {c : Bool} (tgt : Nat) (hd : decode cc pc = .ok (.if_icmp .ne off, 3)) (ht : (pc : Int) + off = (tgt : Int)) (kt : c = false → G l D y cc nL rt rm Q cells slots tgt lv st ws) (kf : c = true → G l D y cc nL rt rm Q cells slots (pc + 3) lv st ws) : G l D y cc nL rt rm Q cells slots pc lv (.int (nI 1) :: .int (nI (b2n c)) :: st) ws := g_icmpne tgt hd ht (fun h => kt (by cases c; rfl; exact absurd rfl h)) (fun h => kf (by cases c; exact absurd h (by decide +kernel); rfl))
theorem b_icmpeq {c : Bool} (tgt : Nat) (hd : decode cc pc = .ok (.if_icmp .eq off, 3)) (ht : (pc : Int) + off = (tgt : Int)) (kt : c = true → G l D y cc nL rt rm Q cells slots tgt lv st ws) (kf : c = false → G l D y cc nL rt rm Q cells slots (pc + 3) lv st ws) : G l D y cc nL rt rm Q cells slots pc lv (.int (nI 1) :: .int (nI (b2n c)) :: st) ws := g_icmpeq tgt hd ht (fun h => kt (by cases c; exact absurd h (by decide +kernel); rfl)) (fun h => kf (by cases c; rfl; exact absurd rfl h))
/-- a truth value on the stack -/
theorem t_ifeq1 {tgt : Nat} (hd : decode cc pc = .ok (.ifCond .eq off, 3)) (ht : (pc : Int) + off = (tgt : Int)) (kf : G l D y cc nL rt rm Q cells slots (pc + 3) lv st ws) : G l D y cc nL rt rm Q cells slots pc lv (.int (nI 1) :: st) ws := g_ifeq tgt hd ht (fun h => absurd h (by decide +kernel)) (fun _ => kf)
theorem t_ifeq0 (tgt : Nat) (hd : decode cc pc = .ok (.ifCond .eq off, 3)) (ht : (pc : Int) + off = (tgt : Int)) (kt : G l D y cc nL rt rm Q cells slots tgt lv st ws) : G l D y cc nL rt rm Q cells slots pc lv (.int (nI 0) :: st) ws := g_ifeq tgt hd ht (fun _ => kt) (fun h => absurd rfl h)
theorem t_ifne1 (tgt : Nat) (hd : decode cc pc = .ok (.ifCond .ne off, 3)) (ht : (pc : Int) + off = (tgt : Int)) (kt : G l D y cc nL rt rm Q cells slots tgt lv st ws) : G l D y cc nL rt rm Q cells slots pc lv (.int (nI 1) :: st) ws := g_ifne tgt hd ht (fun _ => kt) (fun h => absurd h (by decide +kernel))
theorem t_ifne0 {tgt : Nat} (hd : decode cc pc = .ok (.ifCond .ne off, 3)) (ht : (pc : Int) + off = (tgt : Int)) (kf : G l D y cc nL rt rm Q cells slots (pc + 3) lv st ws) : G l D y cc nL rt rm Q cells slots pc lv (.int (nI 0) :: st) ws := g_ifne tgt hd ht (fun h => absurd rfl h) (fun _ => kf)
end BR
theorem inc_n (k : Nat) : nI k + Int32.ofInt 1 = nI (k + 1) := nI_1 k
theorem dec_n (k : Nat) : nI (k + 1) + Int32.ofInt (-1) = nI k := pk_m1 k
theorem lcmp_lt (x z : Int64) : lg_cmp x z < 0 ↔ x < z := by
  unfold lg_cmp
  split
  · rename_i h; constructor
    · intro h2; exact absurd h2 (by decide +kernel)
    · intro h2; exact absurd (Int64.lt_trans h h2) Int64.lt_irrefl
  · split
    · rename_i h h2; constructor
      · intro h3; exact absurd h3 (by decide +kernel)
      · intro h3; rw [h2] at h3; exact absurd h3 Int64.lt_irrefl
    · rename_i h h2; constructor
      · intro _; have h : ¬ z < x := h; rw [fa_lt64] at h ⊢; rw [fa_eq64] at h2; omega
      · intro _; decide +kernel
theorem lcmp_gt (x z : Int64) : 0 < lg_cmp x z ↔ z < x := by
  unfold lg_cmp
  split
  · rename_i h; exact ⟨fun _ => h, fun _ => by decide +kernel⟩
  · rename_i h
    refine ⟨fun h2 => ?_, fun h2 => absurd h2 h⟩
    split at h2
    · exact absurd h2 (by decide +kernel)
    · exact absurd h2 (by decide +kernel)
end
section
set_option maxHeartbeats 4000000 in
set_option maxRecDepth 20000 in
theorem c_X5_in {l : Launch} {D : gE} {L : Nat → Nat} {σ : St} {Q : Option Value → va_W → Prop} {d : Nat} {x lo hi : Int64} (ht : lo ≤ x → x ≤ hi → Q (some (.int (nI 1))) (wsOf D L σ)) (hf : ¬ (lo ≤ x ∧ x ≤ hi) → Q (some (.int (nI 0))) (wsOf D L σ)) : Ctr l D yX5_in cX5_in 6 (some .boolean) (rr d) [.long x, .long lo, .long hi] (wsOf D L σ) Q := by
  refine g_start ky_X5_in (Nat.le_of_ble_eq_true rfl) ?_
  refine g_pick [0, 1, 2] (lv' := [(0, .long x), (2, .long lo), (4, .long hi)]) rfl ?_
  refine g_lload_n dX5_in_0 rfl 0 rfl ?_
  refine g_lload_n dX5_in_1 rfl 1 rfl ?_
  refine g_lcmp dX5_in_2 ?_
  refine g_iflt 17 dX5_in_3 (by decide) (fun h3 => ?_) (fun h3 => ?_)
  · refine g_iconst dX5_in_17 ci_0 ?_
    exact g_zreturn dX5_in_18 (Nat.le_refl _) (Nat.le_refl _) (Or.inl rfl) (hf (fun h => by rw [lcmp_lt] at h3; exact absurd h3 (Int64.not_lt.mpr h.1)))
  · refine g_lload_n dX5_in_6 rfl 0 rfl ?_
    refine g_lload dX5_in_7 2 rfl ?_
    refine g_lcmp dX5_in_9 ?_
    refine g_ifgt 17 dX5_in_10 (by decide) (fun h10 => ?_) (fun h10 => ?_)
    · refine g_iconst dX5_in_17 ci_0 ?_
      exact g_zreturn dX5_in_18 (Nat.le_refl _) (Nat.le_refl _) (Or.inl rfl) (hf (fun h => by rw [lcmp_gt] at h10; exact absurd h10 (Int64.not_lt.mpr h.2)))
    · refine g_iconst dX5_in_13 ci_1 ?_
      refine g_goto 18 dX5_in_14 (by decide) ?_
      exact g_zreturn dX5_in_18 (Nat.le_refl _) (Nat.le_refl _) (Or.inr rfl) (ht (by rw [lcmp_lt] at h3; exact Int64.not_lt.mp h3) (by rw [lcmp_gt] at h10; exact Int64.not_lt.mp h10))
theorem c_X5_inN {l : Launch} {D : gE} {L : Nat → Nat} {σ : St} {Q : Option Value → va_W → Prop} {d : Nat} {x : Int32} {a b : Nat} (ha0 : a < 2 ^ 31) (hb : b < 2 ^ 31) (ht : ∀ p, a ≤ p → p ≤ b → x = nI p → Q (some (.int (nI 1))) (wsOf D L σ)) (hf : (∀ p, a ≤ p → p ≤ b → ¬ x = nI p) → Q (some (.int (nI 0))) (wsOf D L σ)) : Ctr l D yX5_in cX5_in 6 (some .boolean) (rr d) [.long x.toInt64, .long ((nI a).toInt64), .long ((nI b).toInt64)] (wsOf D L σ) Q := by
  refine c_X5_in (fun h1 h2 => ?_) (fun h => ?_)
  · rw [fa_wide_le] at h1 h2
    by_cases ha : a ≤ b
    · obtain ⟨p, hp, rfl⟩ := nI_of2 (n := b) (nI_toInt hb) (fun h => nI_pos (show a < 2 ^ 31 by omega) (by rw [fa_lt] at h ⊢; rw [fa_le] at h1; omega)) h2
      exact ht p ((nI_leI (by omega) (by omega)).mp h1) hp rfl
    · exfalso
      rw [fa_le] at h1 h2
      rw [nI_toInt hb] at h2
      rw [nI_toInt ha0] at h1; omega
  · refine hf (fun p h1 h2 e => h ?_)
    subst e
    rw [fa_wide_le, fa_wide_le]
    exact ⟨nI_le h1 (by omega), nI_le h2 hb⟩
set_option maxHeartbeats 4000000 in
set_option maxRecDepth 20000 in
theorem c_X5_isNews {l : Launch} {D : gE} {L : Nat → Nat} {σ : St} {Q : Option Value → va_W → Prop} {d : Nat} {x : Int32} (ht : ∀ k, k < 8 → x = nI k → Q (some (.int (nI 1))) (wsOf D L σ)) (hf : (∀ k, k < 8 → ¬ x = nI k) → Q (some (.int (nI 0))) (wsOf D L σ)) : Ctr l D yX5_isNews cX5_isNews 1 (some .boolean) (rr (d + 1)) [.int x] (wsOf D L σ) Q := by
  refine g_start ky_X5_isNews (Nat.le_of_ble_eq_true rfl) ?_
  refine g_pick [0] (lv' := [(0, .int x)]) rfl ?_
  refine g_iload_n dX5_isNews_0 rfl 0 rfl ?_
  refine g_i2l dX5_isNews_1 ?_
  refine g_lconst dX5_isNews_2 lc_0 ?_
  refine g_ldc2_w kk_X5_122 dX5_isNews_3 ?_
  refine g_tople (z := (nI 7).toInt64) (by decide +kernel) ?_
  refine g_callS (As := [.long x.toInt64, .long ((nI 0).toInt64), .long ((nI 7).toInt64)]) km_X5_118 ky_X5_in ks_X5_in (by decide) rfl (Nat.le_of_ble_eq_true rfl) dX5_isNews_6 rfl (c_X5_inN (by omega) (by omega) (fun p6 ha6 hb6 he6 => ?_) (fun h6 => ?_))
  · exact g_zreturn dX5_isNews_9 (Nat.le_refl _) (Nat.le_refl _) (Or.inr rfl) (ht p6 (by omega) he6)
  · exact g_zreturn dX5_isNews_9 (Nat.le_refl _) (Nat.le_refl _) (Or.inl rfl) (hf (fun k hk => h6 k (by omega) (by omega)))
set_option maxHeartbeats 4000000 in
set_option maxRecDepth 20000 in
theorem c_X5_isTerrace {l : Launch} {D : gE} {L : Nat → Nat} {σ : St} {Q : Option Value → va_W → Prop} {d : Nat} {X : XT} (hX : rpM σ X) (ho : okX X) {x : Int32} (ht : ∀ t, t < x_sz X → x = nI t → Q (some (.int (nI 1))) (wsOf D L σ)) (hf : (∀ t, t < x_sz X → ¬ x = nI t) → Q (some (.int (nI 0))) (wsOf D L σ)) : Ctr l D yX5_isTerrace cX5_isTerrace 2 (some .boolean) (rr (d + 1)) [.ref (L 33), .int x] (wsOf D L σ) Q := by
  refine g_start ky_X5_isTerrace (Nat.le_of_ble_eq_true rfl) ?_
  refine g_pick [0, 1] (lv' := [(0, .ref (L 33)), (1, .int x)]) rfl ?_
  have hs := ok_sz ho
  refine g_iload_n dX5_isTerrace_0 rfl 1 rfl ?_
  refine g_i2l dX5_isTerrace_1 ?_
  refine g_lconst dX5_isTerrace_2 lc_0 ?_
  refine g_aload_n dX5_isTerrace_3 rfl 0 rfl ?_
  refine s_getM kf_X5_103 (by decide) rfl dX5_isTerrace_4 ?_
  refine g_tope (z := nI (x_sz X)) (rpM_sz hX) ?_
  refine g_iconst dX5_isTerrace_7 ci_1 ?_
  refine g_isub dX5_isTerrace_8 ?_
  refine g_tope (z := nI ((x_sz X) - 1)) (pk_sub (by omega)) ?_
  refine g_i2l dX5_isTerrace_9 ?_
  refine g_callS (As := [.long x.toInt64, .long ((nI 0).toInt64), .long ((nI ((x_sz X) - 1)).toInt64)]) km_X5_118 ky_X5_in ks_X5_in (by decide) rfl (Nat.le_of_ble_eq_true rfl) dX5_isTerrace_10 rfl (c_X5_inN (by omega) (by omega) (fun p10 ha10 hb10 he10 => ?_) (fun h10 => ?_))
  · exact g_zreturn dX5_isTerrace_13 (Nat.le_refl _) (Nat.le_refl _) (Or.inr rfl) (ht p10 (by omega) he10)
  · exact g_zreturn dX5_isTerrace_13 (Nat.le_refl _) (Nat.le_refl _) (Or.inl rfl) (hf (fun k hk => h10 k (by omega) (by omega)))
set_option maxHeartbeats 4000000 in
set_option maxRecDepth 20000 in
theorem c_X5_isBridge {l : Launch} {D : gE} {L : Nat → Nat} {σ : St} {Q : Option Value → va_W → Prop} {d : Nat} {X : XT} (hX : rpM σ X) {x : Int32} (ht : ∀ p, p < 8 → x = nI p → x_br X p = true → Q (some (.int (nI 1))) (wsOf D L σ)) (hf : (∀ p, p < 8 → x = nI p → x_br X p = false) → Q (some (.int (nI 0))) (wsOf D L σ)) : Ctr l D yX5_isBridge cX5_isBridge 2 (some .boolean) (rr (d + 1)) [.ref (L 33), .int x] (wsOf D L σ) Q := by
  refine g_start ky_X5_isBridge (Nat.le_of_ble_eq_true rfl) ?_
  refine g_pick [0, 1] (lv' := [(0, .ref (L 33)), (1, .int x)]) rfl ?_
  refine g_iload_n dX5_isBridge_0 rfl 1 rfl ?_
  refine g_i2l dX5_isBridge_1 ?_
  refine g_lconst dX5_isBridge_2 lc_0 ?_
  refine g_ldc2_w kk_X5_122 dX5_isBridge_3 ?_
  refine g_tople (z := (nI 7).toInt64) (by decide +kernel) ?_
  refine g_callS (As := [.long x.toInt64, .long ((nI 0).toInt64), .long ((nI 7).toInt64)]) km_X5_118 ky_X5_in ks_X5_in (by decide) rfl (Nat.le_of_ble_eq_true rfl) dX5_isBridge_6 rfl (c_X5_inN (by omega) (by omega) (fun p6 ha6 hb6 he6 => ?_) (fun h6 => ?_))
  · refine t_ifeq1 (tgt := 28) dX5_isBridge_9 (by decide) ?_
    refine g_aload_n dX5_isBridge_12 rfl 0 rfl ?_
    refine s_getM kf_X5_106 (by decide) rfl dX5_isBridge_13 ?_
    refine g_tope (z := nI (bitsN (x_br X) 8)) (rpM_br hX) ?_
    refine g_iload_n dX5_isBridge_16 rfl 1 rfl ?_
    refine g_tope he6 ?_
    refine g_ishr dX5_isBridge_17 ?_
    refine g_iconst dX5_isBridge_18 ci_1 ?_
    refine g_iand dX5_isBridge_19 ?_
    refine g_tope (z := nI (b2n ((x_br X) p6))) (gbB _ (by decide) (by omega)) ?_
    refine g_iconst dX5_isBridge_20 ci_1 ?_
    refine b_icmpne 28 dX5_isBridge_21 (by decide) (fun h21 => ?_) (fun h21 => ?_)
    · refine g_iconst dX5_isBridge_28 ci_0 ?_
      exact g_zreturn dX5_isBridge_29 (Nat.le_refl _) (Nat.le_refl _) (Or.inl rfl) (hf (fun p hp e => by rw [show p = p6 from (nI_eq (by omega) (by omega)).mp (e.symm.trans he6)]; exact h21))
    · refine g_iconst dX5_isBridge_24 ci_1 ?_
      refine g_goto 29 dX5_isBridge_25 (by decide) ?_
      exact g_zreturn dX5_isBridge_29 (Nat.le_refl _) (Nat.le_refl _) (Or.inr rfl) (ht p6 (by omega) he6 h21)
  · refine t_ifeq0 28 dX5_isBridge_9 (by decide) ?_
    refine g_iconst dX5_isBridge_28 ci_0 ?_
    exact g_zreturn dX5_isBridge_29 (Nat.le_refl _) (Nat.le_refl _) (Or.inl rfl) (hf (fun p hp e => absurd e (h6 p (by omega) (by omega))))
theorem c_X5_isBridgeN {l : Launch} {D : gE} {L : Nat → Nat} {σ : St} {Q : Option Value → va_W → Prop} {d : Nat} {X : XT} (hX : rpM σ X) {p : Nat} (hp : p < 8) (ht : x_br X p = true → Q (some (.int (nI 1))) (wsOf D L σ)) (hf : x_br X p = false → Q (some (.int (nI 0))) (wsOf D L σ)) : Ctr l D yX5_isBridge cX5_isBridge 2 (some .boolean) (rr (d + 1)) [.ref (L 33), .int (nI p)] (wsOf D L σ) Q :=
  c_X5_isBridge hX (fun q hq e h => ht (by rw [show p = q from (nI_eq (by omega) (by omega)).mp e]; exact h)) (fun h => hf (h p hp rfl))
set_option maxHeartbeats 4000000 in
set_option maxRecDepth 20000 in
theorem c_X5_isThere {l : Launch} {D : gE} {L : Nat → Nat} {σ : St} {Q : Option Value → va_W → Prop} {d : Nat} {X : XT} (hX : rpM σ X) {x : Int32} (ht : ∀ p, p < 6 → x = nI p → x_th X p = true → Q (some (.int (nI 1))) (wsOf D L σ)) (hf : (∀ p, p < 6 → x = nI p → x_th X p = false) → Q (some (.int (nI 0))) (wsOf D L σ)) : Ctr l D yX5_isThere cX5_isThere 2 (some .boolean) (rr (d + 1)) [.ref (L 33), .int x] (wsOf D L σ) Q := by
  refine g_start ky_X5_isThere (Nat.le_of_ble_eq_true rfl) ?_
  refine g_pick [0, 1] (lv' := [(0, .ref (L 33)), (1, .int x)]) rfl ?_
  refine g_iload_n dX5_isThere_0 rfl 1 rfl ?_
  refine g_i2l dX5_isThere_1 ?_
  refine g_lconst dX5_isThere_2 lc_0 ?_
  refine g_ldc2_w kk_X5_124 dX5_isThere_3 ?_
  refine g_tople (z := (nI 5).toInt64) (by decide +kernel) ?_
  refine g_callS (As := [.long x.toInt64, .long ((nI 0).toInt64), .long ((nI 5).toInt64)]) km_X5_118 ky_X5_in ks_X5_in (by decide) rfl (Nat.le_of_ble_eq_true rfl) dX5_isThere_6 rfl (c_X5_inN (by omega) (by omega) (fun p6 ha6 hb6 he6 => ?_) (fun h6 => ?_))
  · refine t_ifeq1 (tgt := 28) dX5_isThere_9 (by decide) ?_
    refine g_aload_n dX5_isThere_12 rfl 0 rfl ?_
    refine s_getM kf_X5_109 (by decide) rfl dX5_isThere_13 ?_
    refine g_tope (z := nI (bitsN (x_th X) 6)) (rpM_th hX) ?_
    refine g_iload_n dX5_isThere_16 rfl 1 rfl ?_
    refine g_tope he6 ?_
    refine g_ishr dX5_isThere_17 ?_
    refine g_iconst dX5_isThere_18 ci_1 ?_
    refine g_iand dX5_isThere_19 ?_
    refine g_tope (z := nI (b2n ((x_th X) p6))) (gbB _ (by decide) (by omega)) ?_
    refine g_iconst dX5_isThere_20 ci_1 ?_
    refine b_icmpne 28 dX5_isThere_21 (by decide) (fun h21 => ?_) (fun h21 => ?_)
    · refine g_iconst dX5_isThere_28 ci_0 ?_
      exact g_zreturn dX5_isThere_29 (Nat.le_refl _) (Nat.le_refl _) (Or.inl rfl) (hf (fun p hp e => by rw [show p = p6 from (nI_eq (by omega) (by omega)).mp (e.symm.trans he6)]; exact h21))
    · refine g_iconst dX5_isThere_24 ci_1 ?_
      refine g_goto 29 dX5_isThere_25 (by decide) ?_
      exact g_zreturn dX5_isThere_29 (Nat.le_refl _) (Nat.le_refl _) (Or.inr rfl) (ht p6 (by omega) he6 h21)
  · refine t_ifeq0 28 dX5_isThere_9 (by decide) ?_
    refine g_iconst dX5_isThere_28 ci_0 ?_
    exact g_zreturn dX5_isThere_29 (Nat.le_refl _) (Nat.le_refl _) (Or.inl rfl) (hf (fun p hp e => absurd e (h6 p (by omega) (by omega))))
theorem c_X5_isThereN {l : Launch} {D : gE} {L : Nat → Nat} {σ : St} {Q : Option Value → va_W → Prop} {d : Nat} {X : XT} (hX : rpM σ X) {p : Nat} (hp : p < 6) (ht : x_th X p = true → Q (some (.int (nI 1))) (wsOf D L σ)) (hf : x_th X p = false → Q (some (.int (nI 0))) (wsOf D L σ)) : Ctr l D yX5_isThere cX5_isThere 2 (some .boolean) (rr (d + 1)) [.ref (L 33), .int (nI p)] (wsOf D L σ) Q :=
  c_X5_isThere hX (fun q hq e h => ht (by rw [show p = q from (nI_eq (by omega) (by omega)).mp e]; exact h)) (fun h => hf (h p hp rfl))
set_option maxHeartbeats 4000000 in
theorem lp_X5_knowers {l : Launch} {D : gE} {L : Nat → Nat} {σ : St} {Q : Option Value → va_W → Prop} {d : Nat} {X : XT} (hX : rpM σ X) (ho : okX X) {k : Nat} (hk : k < 8) (h : Q (some (.int (nI (kcX X k)))) (wsOf D L σ)) : ∀ n p, p + n = 6 → G l D yX5_knowers cX5_knowers 4 (some .int) (rr (d + 2)) Q 0 0 4 [(3, .int (nI p)), (2, .int (nI (cntN (fun q => x_kn X q k) p))), (0, .ref (L 33)), (1, .int (nI k))] [] (wsOf D L σ) := by
  intro n
  induction n with
  | zero =>
    intro p hp
    obtain rfl : p = 6 := by omega
    refine g_iload_n dX5_knowers_4 rfl 0 rfl ?_
    refine g_bipush dX5_knowers_5 bp_6 ?_
    refine n_icmpge 41 dX5_knowers_7 (by decide) (by omega) (by omega) (fun h7 => ?_) (fun h7 => absurd h7 (by omega))
    refine g_iload_n dX5_knowers_41 rfl 1 rfl ?_
    exact g_ireturn dX5_knowers_42 (Nat.le_refl _) (Nat.le_refl _) (h)
  | succ n ih =>
    intro p hp
    refine g_iload_n dX5_knowers_4 rfl 0 rfl ?_
    refine g_bipush dX5_knowers_5 bp_6 ?_
    refine n_icmpge 41 dX5_knowers_7 (by decide) (by omega) (by omega) (fun h7 => absurd h7 (by omega)) (fun h7 => ?_)
    refine g_iload_n dX5_knowers_10 rfl 1 rfl ?_
    refine g_aload_n dX5_knowers_11 rfl 2 rfl ?_
    refine g_iload_n dX5_knowers_12 rfl 0 rfl ?_
    refine g_callV (As := [.int (nI p)]) km_X5_143 ky_X5_isThere ki_X5_isThere (by decide) 33 at_33 rfl rfl (Nat.le_of_ble_eq_true rfl) dX5_knowers_13 rfl (c_X5_isThereN hX (by omega) (fun h13 => ?_) (fun h13 => ?_))
    · refine t_ifeq1 (tgt := 32) dX5_knowers_16 (by decide) ?_
      refine g_aload_n dX5_knowers_19 rfl 2 rfl ?_
      refine s_getM kf_X5_28 (by decide) rfl dX5_knowers_20 ?_
      refine g_iload_n dX5_knowers_23 rfl 0 rfl ?_
      refine s_ald (q := 40) (n := 6) (at_ia (q := 40) rfl) (by omega) (by decide) dX5_knowers_24 ?_
      refine g_tope (z := nI (bitsN (x_kn X p) 8)) (rpM_kn hX (by omega) (by assumption)) ?_
      refine g_iload_n dX5_knowers_25 rfl 3 rfl ?_
      refine g_ishr dX5_knowers_26 ?_
      refine g_iconst dX5_knowers_27 ci_1 ?_
      refine g_iand dX5_knowers_28 ?_
      refine g_tope (z := nI (b2n ((x_kn X p) k))) (gbB _ (by decide) (by omega)) ?_
      refine g_goto 33 dX5_knowers_29 (by decide) ?_
      refine g_iadd dX5_knowers_33 ?_
      refine g_tope (z := nI (cntN (fun q => x_kn X q k) (p + 1))) (nI_add _ _) ?_
      refine g_istore_n (lv' := [(2, .int (nI (cntN (fun q => x_kn X q k) (p + 1)))), (3, .int (nI p)), (0, .ref (L 33)), (1, .int (nI k))]) dX5_knowers_34 rfl (by decide) rfl ?_
      refine g_iinc (v := nI (p + 1)) (lv' := [(3, .int (nI (p + 1))), (2, .int (nI (cntN (fun q => x_kn X q k) (p + 1)))), (0, .ref (L 33)), (1, .int (nI k))]) dX5_knowers_35 1 rfl (inc_n _) (by decide) rfl ?_
      refine g_goto 4 dX5_knowers_38 (by decide) ?_
      refine g_pick [0, 1, 2, 3] (lv' := [(3, .int (nI (p + 1))), (2, .int (nI (cntN (fun q => x_kn X q k) (p + 1)))), (0, .ref (L 33)), (1, .int (nI k))]) rfl ?_
      exact ih (p + 1) (by omega)
    · refine t_ifeq0 32 dX5_knowers_16 (by decide) ?_
      refine g_iconst dX5_knowers_32 ci_0 ?_
      refine g_iadd dX5_knowers_33 ?_
      refine g_tope (z := nI (cntN (fun q => x_kn X q k) (p + 1))) (by rw [nI_add]; simp only [cntN]; rw [ok_no ho (by omega) (by assumption)]; rfl) ?_
      refine g_istore_n (lv' := [(2, .int (nI (cntN (fun q => x_kn X q k) (p + 1)))), (3, .int (nI p)), (0, .ref (L 33)), (1, .int (nI k))]) dX5_knowers_34 rfl (by decide) rfl ?_
      refine g_iinc (v := nI (p + 1)) (lv' := [(3, .int (nI (p + 1))), (2, .int (nI (cntN (fun q => x_kn X q k) (p + 1)))), (0, .ref (L 33)), (1, .int (nI k))]) dX5_knowers_35 1 rfl (inc_n _) (by decide) rfl ?_
      refine g_goto 4 dX5_knowers_38 (by decide) ?_
      refine g_pick [0, 1, 2, 3] (lv' := [(3, .int (nI (p + 1))), (2, .int (nI (cntN (fun q => x_kn X q k) (p + 1)))), (0, .ref (L 33)), (1, .int (nI k))]) rfl ?_
      exact ih (p + 1) (by omega)
set_option maxHeartbeats 4000000 in
set_option maxRecDepth 20000 in
theorem c_X5_knowers {l : Launch} {D : gE} {L : Nat → Nat} {σ : St} {Q : Option Value → va_W → Prop} {d : Nat} {X : XT} (hX : rpM σ X) (ho : okX X) {k : Nat} (hk : k < 8) (h : Q (some (.int (nI (kcX X k)))) (wsOf D L σ)) : Ctr l D yX5_knowers cX5_knowers 4 (some .int) (rr (d + 2)) [.ref (L 33), .int (nI k)] (wsOf D L σ) Q := by
  refine g_start ky_X5_knowers (Nat.le_of_ble_eq_true rfl) ?_
  refine g_pick [0, 1] (lv' := [(0, .ref (L 33)), (1, .int (nI k))]) rfl ?_
  refine g_iconst dX5_knowers_0 ci_0 ?_
  refine g_istore_n (lv' := [(2, .int (nI 0)), (0, .ref (L 33)), (1, .int (nI k))]) dX5_knowers_1 rfl (by decide) rfl ?_
  refine g_iconst dX5_knowers_2 ci_0 ?_
  refine g_istore_n (lv' := [(3, .int (nI 0)), (2, .int (nI 0)), (0, .ref (L 33)), (1, .int (nI k))]) dX5_knowers_3 rfl (by decide) rfl ?_
  refine g_pick [0, 1, 2, 3] (lv' := [(3, .int (nI 0)), (2, .int (nI 0)), (0, .ref (L 33)), (1, .int (nI k))]) rfl ?_
  exact lp_X5_knowers hX ho hk h 6 0 rfl
end
