-- ===== PART A: goes FIRST, ahead of the names: the tables' words, and 'selects' of the private methods out of them =====
/-- a private method of a class that the tables say can be made, by its rows of tables_1 -/
def lw_okq (q : MethodName × Nat) : Prop := (q.1.cls ≠ "java/lang/invoke/MethodHandle" ∧ q.1.cls ≠ "java/lang/invoke/VarHandle") ∧ Cond.instantiable q.1.cls q.2 ∈ tables_1 ∧ Cond.privateMethod q.1 ∈ tables_1 ∧ Cond.instanceMethod q.1 ∈ tables_1
theorem lw_p0 : lw_okq (⟨"FootQuarrel", "deny", "(I)Z"⟩, 15) := ⟨⟨by decide +kernel, by decide +kernel⟩, List.mem_of_getElem? (i := 22) (by decide +kernel), List.mem_of_getElem? (i := 569) (by decide +kernel), List.mem_of_getElem? (i := 570) (by decide +kernel)⟩
theorem lw_p1 : lw_okq (⟨"FootQuarrel", "grant", "()Z"⟩, 15) := ⟨⟨by decide +kernel, by decide +kernel⟩, List.mem_of_getElem? (i := 22) (by decide +kernel), List.mem_of_getElem? (i := 577) (by decide +kernel), List.mem_of_getElem? (i := 578) (by decide +kernel)⟩
theorem lw_p2 : lw_okq (⟨"FootQuarrel", "cellStatus", "(II)I"⟩, 15) := ⟨⟨by decide +kernel, by decide +kernel⟩, List.mem_of_getElem? (i := 22) (by decide +kernel), List.mem_of_getElem? (i := 585) (by decide +kernel), List.mem_of_getElem? (i := 586) (by decide +kernel)⟩
theorem lw_p3 : lw_okq (⟨"FootQuarrel", "refuse", "(I)I"⟩, 15) := ⟨⟨by decide +kernel, by decide +kernel⟩, List.mem_of_getElem? (i := 22) (by decide +kernel), List.mem_of_getElem? (i := 601) (by decide +kernel), List.mem_of_getElem? (i := 602) (by decide +kernel)⟩
theorem lw_p4 : lw_okq (⟨"FootQuarrel", "feedOne", "(I)V"⟩, 15) := ⟨⟨by decide +kernel, by decide +kernel⟩, List.mem_of_getElem? (i := 22) (by decide +kernel), List.mem_of_getElem? (i := 620) (by decide +kernel), List.mem_of_getElem? (i := 621) (by decide +kernel)⟩
theorem lw_p5 : lw_okq (⟨"FootQuarrel$Reader", "readWord", "()V"⟩, 12) := ⟨⟨by decide +kernel, by decide +kernel⟩, List.mem_of_getElem? (i := 51) (by decide +kernel), List.mem_of_getElem? (i := 672) (by decide +kernel), List.mem_of_getElem? (i := 673) (by decide +kernel)⟩
theorem lw_p6 : lw_okq (⟨"FootQuarrel$Reader", "readNumber", "()V"⟩, 12) := ⟨⟨by decide +kernel, by decide +kernel⟩, List.mem_of_getElem? (i := 51) (by decide +kernel), List.mem_of_getElem? (i := 679) (by decide +kernel), List.mem_of_getElem? (i := 680) (by decide +kernel)⟩
theorem lw_p7 : lw_okq (⟨"FootQuarrel$StreetText", "takeFoot", "()Z"⟩, 5) := ⟨⟨by decide +kernel, by decide +kernel⟩, List.mem_of_getElem? (i := 628) (by decide +kernel), List.mem_of_getElem? (i := 693) (by decide +kernel), List.mem_of_getElem? (i := 694) (by decide +kernel)⟩
theorem lw_p8 : lw_okq (⟨"FootQuarrel$StreetText", "takeCalm", "()Z"⟩, 5) := ⟨⟨by decide +kernel, by decide +kernel⟩, List.mem_of_getElem? (i := 628) (by decide +kernel), List.mem_of_getElem? (i := 708) (by decide +kernel), List.mem_of_getElem? (i := 709) (by decide +kernel)⟩
theorem lw_p9 : lw_okq (⟨"FootQuarrel$StreetText", "takeOdds", "()Z"⟩, 5) := ⟨⟨by decide +kernel, by decide +kernel⟩, List.mem_of_getElem? (i := 628) (by decide +kernel), List.mem_of_getElem? (i := 712) (by decide +kernel), List.mem_of_getElem? (i := 713) (by decide +kernel)⟩
theorem lw_p10 : lw_okq (⟨"FootQuarrel$StreetText", "takeHouse", "()Z"⟩, 5) := ⟨⟨by decide +kernel, by decide +kernel⟩, List.mem_of_getElem? (i := 628) (by decide +kernel), List.mem_of_getElem? (i := 716) (by decide +kernel), List.mem_of_getElem? (i := 717) (by decide +kernel)⟩
theorem lw_p11 : lw_okq (⟨"FootQuarrel$Reader", "isName", "()Z"⟩, 12) := ⟨⟨by decide +kernel, by decide +kernel⟩, List.mem_of_getElem? (i := 51) (by decide +kernel), List.mem_of_getElem? (i := 724) (by decide +kernel), List.mem_of_getElem? (i := 725) (by decide +kernel)⟩
theorem lw_p12 : lw_okq (⟨"FootQuarrel$StreetText", "takePerson", "()Z"⟩, 5) := ⟨⟨by decide +kernel, by decide +kernel⟩, List.mem_of_getElem? (i := 628) (by decide +kernel), List.mem_of_getElem? (i := 744) (by decide +kernel), List.mem_of_getElem? (i := 745) (by decide +kernel)⟩
theorem lw_p13 : lw_okq (⟨"FootQuarrel$Reader", "seen", "(I)I"⟩, 12) := ⟨⟨by decide +kernel, by decide +kernel⟩, List.mem_of_getElem? (i := 51) (by decide +kernel), List.mem_of_getElem? (i := 756) (by decide +kernel), List.mem_of_getElem? (i := 757) (by decide +kernel)⟩
theorem lw_p14 : lw_okq (⟨"FootQuarrel$StreetText", "takeTrait", "(LFootQuarrel$Person;I)Z"⟩, 5) := ⟨⟨by decide +kernel, by decide +kernel⟩, List.mem_of_getElem? (i := 628) (by decide +kernel), List.mem_of_getElem? (i := 764) (by decide +kernel), List.mem_of_getElem? (i := 765) (by decide +kernel)⟩
theorem lw_p15 : lw_okq (⟨"FootQuarrel$StreetText", "takePeace", "()Z"⟩, 5) := ⟨⟨by decide +kernel, by decide +kernel⟩, List.mem_of_getElem? (i := 628) (by decide +kernel), List.mem_of_getElem? (i := 776) (by decide +kernel), List.mem_of_getElem? (i := 777) (by decide +kernel)⟩
def lw_privs_1 : List (MethodName × Nat) := [(⟨"FootQuarrel", "deny", "(I)Z"⟩, 15), (⟨"FootQuarrel", "grant", "()Z"⟩, 15), (⟨"FootQuarrel", "cellStatus", "(II)I"⟩, 15), (⟨"FootQuarrel", "refuse", "(I)I"⟩, 15), (⟨"FootQuarrel", "feedOne", "(I)V"⟩, 15), (⟨"FootQuarrel$Reader", "readWord", "()V"⟩, 12), (⟨"FootQuarrel$Reader", "readNumber", "()V"⟩, 12), (⟨"FootQuarrel$StreetText", "takeFoot", "()Z"⟩, 5), (⟨"FootQuarrel$StreetText", "takeCalm", "()Z"⟩, 5), (⟨"FootQuarrel$StreetText", "takeOdds", "()Z"⟩, 5), (⟨"FootQuarrel$StreetText", "takeHouse", "()Z"⟩, 5), (⟨"FootQuarrel$Reader", "isName", "()Z"⟩, 12), (⟨"FootQuarrel$StreetText", "takePerson", "()Z"⟩, 5), (⟨"FootQuarrel$Reader", "seen", "(I)I"⟩, 12), (⟨"FootQuarrel$StreetText", "takeTrait", "(LFootQuarrel$Person;I)Z"⟩, 5), (⟨"FootQuarrel$StreetText", "takePeace", "()Z"⟩, 5)]
theorem lw_r1 : ∀ q ∈ lw_privs_1, lw_okq q := List.forall_mem_cons.mpr ⟨lw_p0, List.forall_mem_cons.mpr ⟨lw_p1, List.forall_mem_cons.mpr ⟨lw_p2, List.forall_mem_cons.mpr ⟨lw_p3, List.forall_mem_cons.mpr ⟨lw_p4, List.forall_mem_cons.mpr ⟨lw_p5, List.forall_mem_cons.mpr ⟨lw_p6, List.forall_mem_cons.mpr ⟨lw_p7, List.forall_mem_cons.mpr ⟨lw_p8, List.forall_mem_cons.mpr ⟨lw_p9, List.forall_mem_cons.mpr ⟨lw_p10, List.forall_mem_cons.mpr ⟨lw_p11, List.forall_mem_cons.mpr ⟨lw_p12, List.forall_mem_cons.mpr ⟨lw_p13, List.forall_mem_cons.mpr ⟨lw_p14, List.forall_mem_cons.mpr ⟨lw_p15, fun _ h => absurd h List.not_mem_nil⟩⟩⟩⟩⟩⟩⟩⟩⟩⟩⟩⟩⟩⟩⟩⟩
theorem lw_p16 : lw_okq (⟨"FootQuarrel", "endText", "()V"⟩, 15) := ⟨⟨by decide +kernel, by decide +kernel⟩, List.mem_of_getElem? (i := 22) (by decide +kernel), List.mem_of_getElem? (i := 789) (by decide +kernel), List.mem_of_getElem? (i := 790) (by decide +kernel)⟩
theorem lw_p17 : lw_okq (⟨"FootQuarrel", "answer", "(I)I"⟩, 15) := ⟨⟨by decide +kernel, by decide +kernel⟩, List.mem_of_getElem? (i := 22) (by decide +kernel), List.mem_of_getElem? (i := 793) (by decide +kernel), List.mem_of_getElem? (i := 794) (by decide +kernel)⟩
theorem lw_p18 : lw_okq (⟨"FootQuarrel$YearsText", "takeEnd", "()Z"⟩, 5) := ⟨⟨by decide +kernel, by decide +kernel⟩, List.mem_of_getElem? (i := 801) (by decide +kernel), List.mem_of_getElem? (i := 830) (by decide +kernel), List.mem_of_getElem? (i := 831) (by decide +kernel)⟩
theorem lw_p19 : lw_okq (⟨"FootQuarrel$YearsText", "mayBegin", "(I)Z"⟩, 5) := ⟨⟨by decide +kernel, by decide +kernel⟩, List.mem_of_getElem? (i := 801) (by decide +kernel), List.mem_of_getElem? (i := 836) (by decide +kernel), List.mem_of_getElem? (i := 837) (by decide +kernel)⟩
theorem lw_p20 : lw_okq (⟨"FootQuarrel$YearsText", "takeStep", "(I)Z"⟩, 5) := ⟨⟨by decide +kernel, by decide +kernel⟩, List.mem_of_getElem? (i := 801) (by decide +kernel), List.mem_of_getElem? (i := 840) (by decide +kernel), List.mem_of_getElem? (i := 841) (by decide +kernel)⟩
theorem lw_p21 : lw_okq (⟨"FootQuarrel$YearsText", "takeSpeakers", "(I)Z"⟩, 5) := ⟨⟨by decide +kernel, by decide +kernel⟩, List.mem_of_getElem? (i := 801) (by decide +kernel), List.mem_of_getElem? (i := 844) (by decide +kernel), List.mem_of_getElem? (i := 845) (by decide +kernel)⟩
theorem lw_p22 : lw_okq (⟨"FootQuarrel$YearsText", "beginPart", "(I)V"⟩, 5) := ⟨⟨by decide +kernel, by decide +kernel⟩, List.mem_of_getElem? (i := 801) (by decide +kernel), List.mem_of_getElem? (i := 857) (by decide +kernel), List.mem_of_getElem? (i := 858) (by decide +kernel)⟩
theorem lw_p23 : lw_okq (⟨"FootQuarrel$YearsText", "takeTest", "(I)Z"⟩, 5) := ⟨⟨by decide +kernel, by decide +kernel⟩, List.mem_of_getElem? (i := 801) (by decide +kernel), List.mem_of_getElem? (i := 861) (by decide +kernel), List.mem_of_getElem? (i := 862) (by decide +kernel)⟩
theorem lw_p24 : lw_okq (⟨"FootQuarrel", "isHouse", "(I)Z"⟩, 15) := ⟨⟨by decide +kernel, by decide +kernel⟩, List.mem_of_getElem? (i := 22) (by decide +kernel), List.mem_of_getElem? (i := 899) (by decide +kernel), List.mem_of_getElem? (i := 900) (by decide +kernel)⟩
theorem lw_p25 : lw_okq (⟨"FootQuarrel", "isWall", "(I)Z"⟩, 15) := ⟨⟨by decide +kernel, by decide +kernel⟩, List.mem_of_getElem? (i := 22) (by decide +kernel), List.mem_of_getElem? (i := 911) (by decide +kernel), List.mem_of_getElem? (i := 912) (by decide +kernel)⟩
theorem lw_p26 : lw_okq (⟨"FootQuarrel", "isPerson", "(I)Z"⟩, 15) := ⟨⟨by decide +kernel, by decide +kernel⟩, List.mem_of_getElem? (i := 22) (by decide +kernel), List.mem_of_getElem? (i := 930) (by decide +kernel), List.mem_of_getElem? (i := 931) (by decide +kernel)⟩
theorem lw_p27 : lw_okq (⟨"FootQuarrel", "areTwo", "(II)Z"⟩, 15) := ⟨⟨by decide +kernel, by decide +kernel⟩, List.mem_of_getElem? (i := 22) (by decide +kernel), List.mem_of_getElem? (i := 949) (by decide +kernel), List.mem_of_getElem? (i := 950) (by decide +kernel)⟩
theorem lw_p28 : lw_okq (⟨"FootQuarrel", "pairStatus", "(II)I"⟩, 15) := ⟨⟨by decide +kernel, by decide +kernel⟩, List.mem_of_getElem? (i := 22) (by decide +kernel), List.mem_of_getElem? (i := 976) (by decide +kernel), List.mem_of_getElem? (i := 977) (by decide +kernel)⟩
theorem lw_p29 : lw_okq (⟨"FootQuarrel$Spat", "giveWay", "(I)V"⟩, 5) := ⟨⟨by decide +kernel, by decide +kernel⟩, List.mem_of_getElem? (i := 222) (by decide +kernel), List.mem_of_getElem? (i := 1008) (by decide +kernel), List.mem_of_getElem? (i := 1009) (by decide +kernel)⟩
theorem lw_p30 : lw_okq (⟨"FootQuarrel$Street", "settleSide", "(II)V"⟩, 17) := ⟨⟨by decide +kernel, by decide +kernel⟩, List.mem_of_getElem? (i := 152) (by decide +kernel), List.mem_of_getElem? (i := 1014) (by decide +kernel), List.mem_of_getElem? (i := 1015) (by decide +kernel)⟩
theorem lw_p31 : lw_okq (⟨"FootQuarrel$Street", "keepQuarrel", "(IIIII)V"⟩, 17) := ⟨⟨by decide +kernel, by decide +kernel⟩, List.mem_of_getElem? (i := 152) (by decide +kernel), List.mem_of_getElem? (i := 1018) (by decide +kernel), List.mem_of_getElem? (i := 1019) (by decide +kernel)⟩
def lw_privs_2 : List (MethodName × Nat) := [(⟨"FootQuarrel", "endText", "()V"⟩, 15), (⟨"FootQuarrel", "answer", "(I)I"⟩, 15), (⟨"FootQuarrel$YearsText", "takeEnd", "()Z"⟩, 5), (⟨"FootQuarrel$YearsText", "mayBegin", "(I)Z"⟩, 5), (⟨"FootQuarrel$YearsText", "takeStep", "(I)Z"⟩, 5), (⟨"FootQuarrel$YearsText", "takeSpeakers", "(I)Z"⟩, 5), (⟨"FootQuarrel$YearsText", "beginPart", "(I)V"⟩, 5), (⟨"FootQuarrel$YearsText", "takeTest", "(I)Z"⟩, 5), (⟨"FootQuarrel", "isHouse", "(I)Z"⟩, 15), (⟨"FootQuarrel", "isWall", "(I)Z"⟩, 15), (⟨"FootQuarrel", "isPerson", "(I)Z"⟩, 15), (⟨"FootQuarrel", "areTwo", "(II)Z"⟩, 15), (⟨"FootQuarrel", "pairStatus", "(II)I"⟩, 15), (⟨"FootQuarrel$Spat", "giveWay", "(I)V"⟩, 5), (⟨"FootQuarrel$Street", "settleSide", "(II)V"⟩, 17), (⟨"FootQuarrel$Street", "keepQuarrel", "(IIIII)V"⟩, 17)]
theorem lw_r2 : ∀ q ∈ lw_privs_2, lw_okq q := List.forall_mem_cons.mpr ⟨lw_p16, List.forall_mem_cons.mpr ⟨lw_p17, List.forall_mem_cons.mpr ⟨lw_p18, List.forall_mem_cons.mpr ⟨lw_p19, List.forall_mem_cons.mpr ⟨lw_p20, List.forall_mem_cons.mpr ⟨lw_p21, List.forall_mem_cons.mpr ⟨lw_p22, List.forall_mem_cons.mpr ⟨lw_p23, List.forall_mem_cons.mpr ⟨lw_p24, List.forall_mem_cons.mpr ⟨lw_p25, List.forall_mem_cons.mpr ⟨lw_p26, List.forall_mem_cons.mpr ⟨lw_p27, List.forall_mem_cons.mpr ⟨lw_p28, List.forall_mem_cons.mpr ⟨lw_p29, List.forall_mem_cons.mpr ⟨lw_p30, List.forall_mem_cons.mpr ⟨lw_p31, fun _ h => absurd h List.not_mem_nil⟩⟩⟩⟩⟩⟩⟩⟩⟩⟩⟩⟩⟩⟩⟩⟩
theorem lw_p32 : lw_okq (⟨"FootQuarrel$Street", "wouldProvokeTogether", "(II)Z"⟩, 17) := ⟨⟨by decide +kernel, by decide +kernel⟩, List.mem_of_getElem? (i := 152) (by decide +kernel), List.mem_of_getElem? (i := 1178) (by decide +kernel), List.mem_of_getElem? (i := 1179) (by decide +kernel)⟩
theorem lw_p33 : lw_okq (⟨"FootQuarrel$Street", "isCheaper", "(II)Z"⟩, 17) := ⟨⟨by decide +kernel, by decide +kernel⟩, List.mem_of_getElem? (i := 152) (by decide +kernel), List.mem_of_getElem? (i := 1182) (by decide +kernel), List.mem_of_getElem? (i := 1183) (by decide +kernel)⟩
theorem lw_p34 : lw_okq (⟨"FootQuarrel", "gameStatus", "(IIII)I"⟩, 15) := ⟨⟨by decide +kernel, by decide +kernel⟩, List.mem_of_getElem? (i := 22) (by decide +kernel), List.mem_of_getElem? (i := 1205) (by decide +kernel), List.mem_of_getElem? (i := 1206) (by decide +kernel)⟩
theorem lw_p35 : lw_okq (⟨"FootQuarrel", "tellFraction", "(JJ)V"⟩, 15) := ⟨⟨by decide +kernel, by decide +kernel⟩, List.mem_of_getElem? (i := 22) (by decide +kernel), List.mem_of_getElem? (i := 1234) (by decide +kernel), List.mem_of_getElem? (i := 1235) (by decide +kernel)⟩
theorem lw_p36 : lw_okq (⟨"FootQuarrel", "placesStatus", "(II)I"⟩, 15) := ⟨⟨by decide +kernel, by decide +kernel⟩, List.mem_of_getElem? (i := 22) (by decide +kernel), List.mem_of_getElem? (i := 1253) (by decide +kernel), List.mem_of_getElem? (i := 1254) (by decide +kernel)⟩
theorem lw_p37 : lw_okq (⟨"FootQuarrel", "shoutsBetween", "(LFootQuarrel$Tray;I)I"⟩, 15) := ⟨⟨by decide +kernel, by decide +kernel⟩, List.mem_of_getElem? (i := 22) (by decide +kernel), List.mem_of_getElem? (i := 1257) (by decide +kernel), List.mem_of_getElem? (i := 1258) (by decide +kernel)⟩
theorem lw_p38 : lw_okq (⟨"FootQuarrel$Life", "behindEnd", "(LFootQuarrel$Years;I)I"⟩, 11) := ⟨⟨by decide +kernel, by decide +kernel⟩, List.mem_of_getElem? (i := 454) (by decide +kernel), List.mem_of_getElem? (i := 1300) (by decide +kernel), List.mem_of_getElem? (i := 1301) (by decide +kernel)⟩
theorem lw_p39 : lw_okq (⟨"FootQuarrel$Life", "behindStep", "(LFootQuarrel$Street;I)I"⟩, 11) := ⟨⟨by decide +kernel, by decide +kernel⟩, List.mem_of_getElem? (i := 454) (by decide +kernel), List.mem_of_getElem? (i := 1304) (by decide +kernel), List.mem_of_getElem? (i := 1305) (by decide +kernel)⟩
theorem lw_p40 : lw_okq (⟨"FootQuarrel$Life", "speak", "(LFootQuarrel$Street;II)V"⟩, 11) := ⟨⟨by decide +kernel, by decide +kernel⟩, List.mem_of_getElem? (i := 454) (by decide +kernel), List.mem_of_getElem? (i := 1308) (by decide +kernel), List.mem_of_getElem? (i := 1309) (by decide +kernel)⟩
theorem lw_p41 : lw_okq (⟨"FootQuarrel$Life", "regret", "(LFootQuarrel$Street;)V"⟩, 11) := ⟨⟨by decide +kernel, by decide +kernel⟩, List.mem_of_getElem? (i := 454) (by decide +kernel), List.mem_of_getElem? (i := 1314) (by decide +kernel), List.mem_of_getElem? (i := 1315) (by decide +kernel)⟩
theorem lw_p42 : lw_okq (⟨"FootQuarrel$Life", "sleep", "(LFootQuarrel$Street;I)V"⟩, 11) := ⟨⟨by decide +kernel, by decide +kernel⟩, List.mem_of_getElem? (i := 454) (by decide +kernel), List.mem_of_getElem? (i := 1320) (by decide +kernel), List.mem_of_getElem? (i := 1321) (by decide +kernel)⟩
theorem lw_p43 : lw_okq (⟨"FootQuarrel$Life", "drawMeeting", "(LFootQuarrel$Street;)V"⟩, 11) := ⟨⟨by decide +kernel, by decide +kernel⟩, List.mem_of_getElem? (i := 454) (by decide +kernel), List.mem_of_getElem? (i := 1325) (by decide +kernel), List.mem_of_getElem? (i := 1326) (by decide +kernel)⟩
theorem lw_p44 : lw_okq (⟨"FootQuarrel$Life", "draw", "(I)I"⟩, 11) := ⟨⟨by decide +kernel, by decide +kernel⟩, List.mem_of_getElem? (i := 454) (by decide +kernel), List.mem_of_getElem? (i := 1329) (by decide +kernel), List.mem_of_getElem? (i := 1330) (by decide +kernel)⟩
theorem lw_p45 : lw_okq (⟨"FootQuarrel$Life", "turnWeather", "(LFootQuarrel$Street;Z)V"⟩, 11) := ⟨⟨by decide +kernel, by decide +kernel⟩, List.mem_of_getElem? (i := 454) (by decide +kernel), List.mem_of_getElem? (i := 1334) (by decide +kernel), List.mem_of_getElem? (i := 1335) (by decide +kernel)⟩
theorem lw_p46 : lw_okq (⟨"FootQuarrel$Life", "holds", "(LFootQuarrel$Street;I)Z"⟩, 11) := ⟨⟨by decide +kernel, by decide +kernel⟩, List.mem_of_getElem? (i := 454) (by decide +kernel), List.mem_of_getElem? (i := 1338) (by decide +kernel), List.mem_of_getElem? (i := 1339) (by decide +kernel)⟩
theorem lw_p47 : lw_okq (⟨"FootQuarrelModel", "plain", "(I)V"⟩, 36) := ⟨⟨by decide +kernel, by decide +kernel⟩, List.mem_of_getElem? (i := 1371) (by decide +kernel), List.mem_of_getElem? (i := 1377) (by decide +kernel), List.mem_of_getElem? (i := 1378) (by decide +kernel)⟩
def lw_privs_3 : List (MethodName × Nat) := [(⟨"FootQuarrel$Street", "wouldProvokeTogether", "(II)Z"⟩, 17), (⟨"FootQuarrel$Street", "isCheaper", "(II)Z"⟩, 17), (⟨"FootQuarrel", "gameStatus", "(IIII)I"⟩, 15), (⟨"FootQuarrel", "tellFraction", "(JJ)V"⟩, 15), (⟨"FootQuarrel", "placesStatus", "(II)I"⟩, 15), (⟨"FootQuarrel", "shoutsBetween", "(LFootQuarrel$Tray;I)I"⟩, 15), (⟨"FootQuarrel$Life", "behindEnd", "(LFootQuarrel$Years;I)I"⟩, 11), (⟨"FootQuarrel$Life", "behindStep", "(LFootQuarrel$Street;I)I"⟩, 11), (⟨"FootQuarrel$Life", "speak", "(LFootQuarrel$Street;II)V"⟩, 11), (⟨"FootQuarrel$Life", "regret", "(LFootQuarrel$Street;)V"⟩, 11), (⟨"FootQuarrel$Life", "sleep", "(LFootQuarrel$Street;I)V"⟩, 11), (⟨"FootQuarrel$Life", "drawMeeting", "(LFootQuarrel$Street;)V"⟩, 11), (⟨"FootQuarrel$Life", "draw", "(I)I"⟩, 11), (⟨"FootQuarrel$Life", "turnWeather", "(LFootQuarrel$Street;Z)V"⟩, 11), (⟨"FootQuarrel$Life", "holds", "(LFootQuarrel$Street;I)Z"⟩, 11), (⟨"FootQuarrelModel", "plain", "(I)V"⟩, 36)]
theorem lw_r3 : ∀ q ∈ lw_privs_3, lw_okq q := List.forall_mem_cons.mpr ⟨lw_p32, List.forall_mem_cons.mpr ⟨lw_p33, List.forall_mem_cons.mpr ⟨lw_p34, List.forall_mem_cons.mpr ⟨lw_p35, List.forall_mem_cons.mpr ⟨lw_p36, List.forall_mem_cons.mpr ⟨lw_p37, List.forall_mem_cons.mpr ⟨lw_p38, List.forall_mem_cons.mpr ⟨lw_p39, List.forall_mem_cons.mpr ⟨lw_p40, List.forall_mem_cons.mpr ⟨lw_p41, List.forall_mem_cons.mpr ⟨lw_p42, List.forall_mem_cons.mpr ⟨lw_p43, List.forall_mem_cons.mpr ⟨lw_p44, List.forall_mem_cons.mpr ⟨lw_p45, List.forall_mem_cons.mpr ⟨lw_p46, List.forall_mem_cons.mpr ⟨lw_p47, fun _ h => absurd h List.not_mem_nil⟩⟩⟩⟩⟩⟩⟩⟩⟩⟩⟩⟩⟩⟩⟩⟩
theorem lw_p48 : lw_okq (⟨"FootQuarrelModel", "is", "(I)Z"⟩, 36) := ⟨⟨by decide +kernel, by decide +kernel⟩, List.mem_of_getElem? (i := 1371) (by decide +kernel), List.mem_of_getElem? (i := 1509) (by decide +kernel), List.mem_of_getElem? (i := 1510) (by decide +kernel)⟩
theorem lw_p49 : lw_okq (⟨"FootQuarrelModel", "wrongPlace", "(II)I"⟩, 36) := ⟨⟨by decide +kernel, by decide +kernel⟩, List.mem_of_getElem? (i := 1371) (by decide +kernel), List.mem_of_getElem? (i := 1517) (by decide +kernel), List.mem_of_getElem? (i := 1518) (by decide +kernel)⟩
theorem lw_p50 : lw_okq (⟨"FootQuarrelModel", "four", "(I)V"⟩, 36) := ⟨⟨by decide +kernel, by decide +kernel⟩, List.mem_of_getElem? (i := 1371) (by decide +kernel), List.mem_of_getElem? (i := 1537) (by decide +kernel), List.mem_of_getElem? (i := 1538) (by decide +kernel)⟩
theorem lw_p51 : lw_okq (⟨"FootQuarrelModel", "begins", "(II)Z"⟩, 36) := ⟨⟨by decide +kernel, by decide +kernel⟩, List.mem_of_getElem? (i := 1371) (by decide +kernel), List.mem_of_getElem? (i := 1549) (by decide +kernel), List.mem_of_getElem? (i := 1550) (by decide +kernel)⟩
theorem lw_p52 : lw_okq (⟨"FootQuarrelModel", "ahead", "()V"⟩, 36) := ⟨⟨by decide +kernel, by decide +kernel⟩, List.mem_of_getElem? (i := 1371) (by decide +kernel), List.mem_of_getElem? (i := 1553) (by decide +kernel), List.mem_of_getElem? (i := 1554) (by decide +kernel)⟩
theorem lw_p53 : lw_okq (⟨"FootQuarrelModel", "byteAt", "(I)I"⟩, 36) := ⟨⟨by decide +kernel, by decide +kernel⟩, List.mem_of_getElem? (i := 1371) (by decide +kernel), List.mem_of_getElem? (i := 1557) (by decide +kernel), List.mem_of_getElem? (i := 1558) (by decide +kernel)⟩
theorem lw_p54 : lw_okq (⟨"FootQuarrelModel", "refuse", "(I)I"⟩, 36) := ⟨⟨by decide +kernel, by decide +kernel⟩, List.mem_of_getElem? (i := 1371) (by decide +kernel), List.mem_of_getElem? (i := 1569) (by decide +kernel), List.mem_of_getElem? (i := 1570) (by decide +kernel)⟩
theorem lw_p55 : lw_okq (⟨"FootQuarrelModel", "streetPart", "()Z"⟩, 36) := ⟨⟨by decide +kernel, by decide +kernel⟩, List.mem_of_getElem? (i := 1371) (by decide +kernel), List.mem_of_getElem? (i := 1573) (by decide +kernel), List.mem_of_getElem? (i := 1574) (by decide +kernel)⟩
theorem lw_p56 : lw_okq (⟨"FootQuarrelModel", "inWords", "(Ljava/lang/String;)I"⟩, 36) := ⟨⟨by decide +kernel, by decide +kernel⟩, List.mem_of_getElem? (i := 1371) (by decide +kernel), List.mem_of_getElem? (i := 1578) (by decide +kernel), List.mem_of_getElem? (i := 1579) (by decide +kernel)⟩
theorem lw_p57 : lw_okq (⟨"FootQuarrelModel", "fails", "(I)Z"⟩, 36) := ⟨⟨by decide +kernel, by decide +kernel⟩, List.mem_of_getElem? (i := 1371) (by decide +kernel), List.mem_of_getElem? (i := 1584) (by decide +kernel), List.mem_of_getElem? (i := 1585) (by decide +kernel)⟩
theorem lw_p58 : lw_okq (⟨"FootQuarrelModel", "number", "(III)Z"⟩, 36) := ⟨⟨by decide +kernel, by decide +kernel⟩, List.mem_of_getElem? (i := 1371) (by decide +kernel), List.mem_of_getElem? (i := 1588) (by decide +kernel), List.mem_of_getElem? (i := 1589) (by decide +kernel)⟩
theorem lw_p59 : lw_okq (⟨"FootQuarrelModel", "aHouse", "()Z"⟩, 36) := ⟨⟨by decide +kernel, by decide +kernel⟩, List.mem_of_getElem? (i := 1371) (by decide +kernel), List.mem_of_getElem? (i := 1592) (by decide +kernel), List.mem_of_getElem? (i := 1593) (by decide +kernel)⟩
theorem lw_p60 : lw_okq (⟨"FootQuarrelModel", "newOne", "(III)Z"⟩, 36) := ⟨⟨by decide +kernel, by decide +kernel⟩, List.mem_of_getElem? (i := 1371) (by decide +kernel), List.mem_of_getElem? (i := 1596) (by decide +kernel), List.mem_of_getElem? (i := 1597) (by decide +kernel)⟩
theorem lw_p61 : lw_okq (⟨"FootQuarrelModel", "isName", "(Ljava/lang/String;)Z"⟩, 36) := ⟨⟨by decide +kernel, by decide +kernel⟩, List.mem_of_getElem? (i := 1371) (by decide +kernel), List.mem_of_getElem? (i := 1600) (by decide +kernel), List.mem_of_getElem? (i := 1601) (by decide +kernel)⟩
theorem lw_p62 : lw_okq (⟨"FootQuarrelModel", "findHere", "(II)I"⟩, 36) := ⟨⟨by decide +kernel, by decide +kernel⟩, List.mem_of_getElem? (i := 1371) (by decide +kernel), List.mem_of_getElem? (i := 1604) (by decide +kernel), List.mem_of_getElem? (i := 1605) (by decide +kernel)⟩
theorem lw_p63 : lw_okq (⟨"FootQuarrelModel", "nameHere", "()J"⟩, 36) := ⟨⟨by decide +kernel, by decide +kernel⟩, List.mem_of_getElem? (i := 1371) (by decide +kernel), List.mem_of_getElem? (i := 1608) (by decide +kernel), List.mem_of_getElem? (i := 1609) (by decide +kernel)⟩
def lw_privs_4 : List (MethodName × Nat) := [(⟨"FootQuarrelModel", "is", "(I)Z"⟩, 36), (⟨"FootQuarrelModel", "wrongPlace", "(II)I"⟩, 36), (⟨"FootQuarrelModel", "four", "(I)V"⟩, 36), (⟨"FootQuarrelModel", "begins", "(II)Z"⟩, 36), (⟨"FootQuarrelModel", "ahead", "()V"⟩, 36), (⟨"FootQuarrelModel", "byteAt", "(I)I"⟩, 36), (⟨"FootQuarrelModel", "refuse", "(I)I"⟩, 36), (⟨"FootQuarrelModel", "streetPart", "()Z"⟩, 36), (⟨"FootQuarrelModel", "inWords", "(Ljava/lang/String;)I"⟩, 36), (⟨"FootQuarrelModel", "fails", "(I)Z"⟩, 36), (⟨"FootQuarrelModel", "number", "(III)Z"⟩, 36), (⟨"FootQuarrelModel", "aHouse", "()Z"⟩, 36), (⟨"FootQuarrelModel", "newOne", "(III)Z"⟩, 36), (⟨"FootQuarrelModel", "isName", "(Ljava/lang/String;)Z"⟩, 36), (⟨"FootQuarrelModel", "findHere", "(II)I"⟩, 36), (⟨"FootQuarrelModel", "nameHere", "()J"⟩, 36)]
theorem lw_r4 : ∀ q ∈ lw_privs_4, lw_okq q := List.forall_mem_cons.mpr ⟨lw_p48, List.forall_mem_cons.mpr ⟨lw_p49, List.forall_mem_cons.mpr ⟨lw_p50, List.forall_mem_cons.mpr ⟨lw_p51, List.forall_mem_cons.mpr ⟨lw_p52, List.forall_mem_cons.mpr ⟨lw_p53, List.forall_mem_cons.mpr ⟨lw_p54, List.forall_mem_cons.mpr ⟨lw_p55, List.forall_mem_cons.mpr ⟨lw_p56, List.forall_mem_cons.mpr ⟨lw_p57, List.forall_mem_cons.mpr ⟨lw_p58, List.forall_mem_cons.mpr ⟨lw_p59, List.forall_mem_cons.mpr ⟨lw_p60, List.forall_mem_cons.mpr ⟨lw_p61, List.forall_mem_cons.mpr ⟨lw_p62, List.forall_mem_cons.mpr ⟨lw_p63, fun _ h => absurd h List.not_mem_nil⟩⟩⟩⟩⟩⟩⟩⟩⟩⟩⟩⟩⟩⟩⟩⟩
theorem lw_p64 : lw_okq (⟨"FootQuarrelModel", "wantWord", "(Ljava/lang/String;I)Z"⟩, 36) := ⟨⟨by decide +kernel, by decide +kernel⟩, List.mem_of_getElem? (i := 1371) (by decide +kernel), List.mem_of_getElem? (i := 1612) (by decide +kernel), List.mem_of_getElem? (i := 1613) (by decide +kernel)⟩
theorem lw_p65 : lw_okq (⟨"FootQuarrelModel", "aPerson", "()Z"⟩, 36) := ⟨⟨by decide +kernel, by decide +kernel⟩, List.mem_of_getElem? (i := 1371) (by decide +kernel), List.mem_of_getElem? (i := 1616) (by decide +kernel), List.mem_of_getElem? (i := 1617) (by decide +kernel)⟩
theorem lw_p66 : lw_okq (⟨"FootQuarrelModel", "houseTo", "(I)Z"⟩, 36) := ⟨⟨by decide +kernel, by decide +kernel⟩, List.mem_of_getElem? (i := 1371) (by decide +kernel), List.mem_of_getElem? (i := 1620) (by decide +kernel), List.mem_of_getElem? (i := 1621) (by decide +kernel)⟩
theorem lw_p67 : lw_okq (⟨"FootQuarrelModel", "isThere", "(I)Z"⟩, 36) := ⟨⟨by decide +kernel, by decide +kernel⟩, List.mem_of_getElem? (i := 1371) (by decide +kernel), List.mem_of_getElem? (i := 1624) (by decide +kernel), List.mem_of_getElem? (i := 1625) (by decide +kernel)⟩
theorem lw_p68 : lw_okq (⟨"FootQuarrelModel", "aPeace", "()Z"⟩, 36) := ⟨⟨by decide +kernel, by decide +kernel⟩, List.mem_of_getElem? (i := 1371) (by decide +kernel), List.mem_of_getElem? (i := 1628) (by decide +kernel), List.mem_of_getElem? (i := 1629) (by decide +kernel)⟩
theorem lw_p69 : lw_okq (⟨"FootQuarrelModel", "wantSign", "(I)Z"⟩, 36) := ⟨⟨by decide +kernel, by decide +kernel⟩, List.mem_of_getElem? (i := 1371) (by decide +kernel), List.mem_of_getElem? (i := 1633) (by decide +kernel), List.mem_of_getElem? (i := 1634) (by decide +kernel)⟩
theorem lw_p70 : lw_okq (⟨"FootQuarrelModel", "isSign", "(I)Z"⟩, 36) := ⟨⟨by decide +kernel, by decide +kernel⟩, List.mem_of_getElem? (i := 1371) (by decide +kernel), List.mem_of_getElem? (i := 1637) (by decide +kernel), List.mem_of_getElem? (i := 1638) (by decide +kernel)⟩
theorem lw_p71 : lw_okq (⟨"FootQuarrelModel", "taken", "(I)I"⟩, 36) := ⟨⟨by decide +kernel, by decide +kernel⟩, List.mem_of_getElem? (i := 1371) (by decide +kernel), List.mem_of_getElem? (i := 1641) (by decide +kernel), List.mem_of_getElem? (i := 1642) (by decide +kernel)⟩
theorem lw_p72 : lw_okq (⟨"FootQuarrelModel", "gives", "(I)I"⟩, 36) := ⟨⟨by decide +kernel, by decide +kernel⟩, List.mem_of_getElem? (i := 1371) (by decide +kernel), List.mem_of_getElem? (i := 1645) (by decide +kernel), List.mem_of_getElem? (i := 1646) (by decide +kernel)⟩
theorem lw_p73 : lw_okq (⟨"FootQuarrelModel", "yearStep", "()Z"⟩, 36) := ⟨⟨by decide +kernel, by decide +kernel⟩, List.mem_of_getElem? (i := 1371) (by decide +kernel), List.mem_of_getElem? (i := 1653) (by decide +kernel), List.mem_of_getElem? (i := 1654) (by decide +kernel)⟩
theorem lw_p74 : lw_okq (⟨"FootQuarrelModel", "yearOrder", "(II)Z"⟩, 36) := ⟨⟨by decide +kernel, by decide +kernel⟩, List.mem_of_getElem? (i := 1371) (by decide +kernel), List.mem_of_getElem? (i := 1657) (by decide +kernel), List.mem_of_getElem? (i := 1658) (by decide +kernel)⟩
theorem lw_p75 : lw_okq (⟨"FootQuarrelModel", "oldPerson", "(I)Z"⟩, 36) := ⟨⟨by decide +kernel, by decide +kernel⟩, List.mem_of_getElem? (i := 1371) (by decide +kernel), List.mem_of_getElem? (i := 1661) (by decide +kernel), List.mem_of_getElem? (i := 1662) (by decide +kernel)⟩
theorem lw_p76 : lw_okq (⟨"FootQuarrelModel", "oldOne", "(III)Z"⟩, 36) := ⟨⟨by decide +kernel, by decide +kernel⟩, List.mem_of_getElem? (i := 1371) (by decide +kernel), List.mem_of_getElem? (i := 1665) (by decide +kernel), List.mem_of_getElem? (i := 1666) (by decide +kernel)⟩
theorem lw_p77 : lw_okq (⟨"FootQuarrelModel", "test", "(I)Z"⟩, 36) := ⟨⟨by decide +kernel, by decide +kernel⟩, List.mem_of_getElem? (i := 1371) (by decide +kernel), List.mem_of_getElem? (i := 1669) (by decide +kernel), List.mem_of_getElem? (i := 1670) (by decide +kernel)⟩
theorem lw_p78 : lw_okq (⟨"FootQuarrelModel", "setOf", "(I)I"⟩, 36) := ⟨⟨by decide +kernel, by decide +kernel⟩, List.mem_of_getElem? (i := 1371) (by decide +kernel), List.mem_of_getElem? (i := 1677) (by decide +kernel), List.mem_of_getElem? (i := 1678) (by decide +kernel)⟩
theorem lw_p79 : lw_okq (⟨"FootQuarrelModel", "personOf", "(II)I"⟩, 36) := ⟨⟨by decide +kernel, by decide +kernel⟩, List.mem_of_getElem? (i := 1371) (by decide +kernel), List.mem_of_getElem? (i := 1681) (by decide +kernel), List.mem_of_getElem? (i := 1682) (by decide +kernel)⟩
def lw_privs_5 : List (MethodName × Nat) := [(⟨"FootQuarrelModel", "wantWord", "(Ljava/lang/String;I)Z"⟩, 36), (⟨"FootQuarrelModel", "aPerson", "()Z"⟩, 36), (⟨"FootQuarrelModel", "houseTo", "(I)Z"⟩, 36), (⟨"FootQuarrelModel", "isThere", "(I)Z"⟩, 36), (⟨"FootQuarrelModel", "aPeace", "()Z"⟩, 36), (⟨"FootQuarrelModel", "wantSign", "(I)Z"⟩, 36), (⟨"FootQuarrelModel", "isSign", "(I)Z"⟩, 36), (⟨"FootQuarrelModel", "taken", "(I)I"⟩, 36), (⟨"FootQuarrelModel", "gives", "(I)I"⟩, 36), (⟨"FootQuarrelModel", "yearStep", "()Z"⟩, 36), (⟨"FootQuarrelModel", "yearOrder", "(II)Z"⟩, 36), (⟨"FootQuarrelModel", "oldPerson", "(I)Z"⟩, 36), (⟨"FootQuarrelModel", "oldOne", "(III)Z"⟩, 36), (⟨"FootQuarrelModel", "test", "(I)Z"⟩, 36), (⟨"FootQuarrelModel", "setOf", "(I)I"⟩, 36), (⟨"FootQuarrelModel", "personOf", "(II)I"⟩, 36)]
theorem lw_r5 : ∀ q ∈ lw_privs_5, lw_okq q := List.forall_mem_cons.mpr ⟨lw_p64, List.forall_mem_cons.mpr ⟨lw_p65, List.forall_mem_cons.mpr ⟨lw_p66, List.forall_mem_cons.mpr ⟨lw_p67, List.forall_mem_cons.mpr ⟨lw_p68, List.forall_mem_cons.mpr ⟨lw_p69, List.forall_mem_cons.mpr ⟨lw_p70, List.forall_mem_cons.mpr ⟨lw_p71, List.forall_mem_cons.mpr ⟨lw_p72, List.forall_mem_cons.mpr ⟨lw_p73, List.forall_mem_cons.mpr ⟨lw_p74, List.forall_mem_cons.mpr ⟨lw_p75, List.forall_mem_cons.mpr ⟨lw_p76, List.forall_mem_cons.mpr ⟨lw_p77, List.forall_mem_cons.mpr ⟨lw_p78, List.forall_mem_cons.mpr ⟨lw_p79, fun _ h => absurd h List.not_mem_nil⟩⟩⟩⟩⟩⟩⟩⟩⟩⟩⟩⟩⟩⟩⟩⟩
theorem lw_p80 : lw_okq (⟨"FootQuarrelModel", "wideOf", "(I)I"⟩, 36) := ⟨⟨by decide +kernel, by decide +kernel⟩, List.mem_of_getElem? (i := 1371) (by decide +kernel), List.mem_of_getElem? (i := 1688) (by decide +kernel), List.mem_of_getElem? (i := 1689) (by decide +kernel)⟩
theorem lw_p81 : lw_okq (⟨"FootQuarrelModel", "isHouse", "(I)Z"⟩, 36) := ⟨⟨by decide +kernel, by decide +kernel⟩, List.mem_of_getElem? (i := 1371) (by decide +kernel), List.mem_of_getElem? (i := 1699) (by decide +kernel), List.mem_of_getElem? (i := 1700) (by decide +kernel)⟩
theorem lw_p82 : lw_okq (⟨"FootQuarrelModel", "peopleIn", "(I)I"⟩, 36) := ⟨⟨by decide +kernel, by decide +kernel⟩, List.mem_of_getElem? (i := 1371) (by decide +kernel), List.mem_of_getElem? (i := 1703) (by decide +kernel), List.mem_of_getElem? (i := 1704) (by decide +kernel)⟩
theorem lw_p83 : lw_okq (⟨"FootQuarrelModel", "homeOf", "(I)I"⟩, 36) := ⟨⟨by decide +kernel, by decide +kernel⟩, List.mem_of_getElem? (i := 1371) (by decide +kernel), List.mem_of_getElem? (i := 1707) (by decide +kernel), List.mem_of_getElem? (i := 1708) (by decide +kernel)⟩
theorem lw_p84 : lw_okq (⟨"FootQuarrelModel", "isWall", "(I)Z"⟩, 36) := ⟨⟨by decide +kernel, by decide +kernel⟩, List.mem_of_getElem? (i := 1371) (by decide +kernel), List.mem_of_getElem? (i := 1715) (by decide +kernel), List.mem_of_getElem? (i := 1716) (by decide +kernel)⟩
theorem lw_p85 : lw_okq (⟨"FootQuarrelModel", "placeOf", "(II)I"⟩, 36) := ⟨⟨by decide +kernel, by decide +kernel⟩, List.mem_of_getElem? (i := 1371) (by decide +kernel), List.mem_of_getElem? (i := 1719) (by decide +kernel), List.mem_of_getElem? (i := 1720) (by decide +kernel)⟩
theorem lw_p86 : lw_okq (⟨"FootQuarrelModel", "isPerson", "(I)Z"⟩, 36) := ⟨⟨by decide +kernel, by decide +kernel⟩, List.mem_of_getElem? (i := 1371) (by decide +kernel), List.mem_of_getElem? (i := 1727) (by decide +kernel), List.mem_of_getElem? (i := 1728) (by decide +kernel)⟩
theorem lw_p87 : lw_okq (⟨"FootQuarrelModel", "isQuarrel", "(I)Z"⟩, 36) := ⟨⟨by decide +kernel, by decide +kernel⟩, List.mem_of_getElem? (i := 1371) (by decide +kernel), List.mem_of_getElem? (i := 1735) (by decide +kernel), List.mem_of_getElem? (i := 1736) (by decide +kernel)⟩
theorem lw_p88 : lw_okq (⟨"FootQuarrelModel", "areTwo", "(II)Z"⟩, 36) := ⟨⟨by decide +kernel, by decide +kernel⟩, List.mem_of_getElem? (i := 1371) (by decide +kernel), List.mem_of_getElem? (i := 1746) (by decide +kernel), List.mem_of_getElem? (i := 1747) (by decide +kernel)⟩
theorem lw_p89 : lw_okq (⟨"FootQuarrelModel", "areNear", "(II)Z"⟩, 36) := ⟨⟨by decide +kernel, by decide +kernel⟩, List.mem_of_getElem? (i := 1371) (by decide +kernel), List.mem_of_getElem? (i := 1750) (by decide +kernel), List.mem_of_getElem? (i := 1751) (by decide +kernel)⟩
theorem lw_p90 : lw_okq (⟨"FootQuarrelModel", "isIn", "(II)Z"⟩, 36) := ⟨⟨by decide +kernel, by decide +kernel⟩, List.mem_of_getElem? (i := 1371) (by decide +kernel), List.mem_of_getElem? (i := 1754) (by decide +kernel), List.mem_of_getElem? (i := 1755) (by decide +kernel)⟩
theorem lw_p91 : lw_okq (⟨"FootQuarrelModel", "nearTo", "(I)I"⟩, 36) := ⟨⟨by decide +kernel, by decide +kernel⟩, List.mem_of_getElem? (i := 1371) (by decide +kernel), List.mem_of_getElem? (i := 1762) (by decide +kernel), List.mem_of_getElem? (i := 1763) (by decide +kernel)⟩
theorem lw_p92 : lw_okq (⟨"FootQuarrelModel", "says", "(II)I"⟩, 36) := ⟨⟨by decide +kernel, by decide +kernel⟩, List.mem_of_getElem? (i := 1371) (by decide +kernel), List.mem_of_getElem? (i := 1770) (by decide +kernel), List.mem_of_getElem? (i := 1771) (by decide +kernel)⟩
theorem lw_p93 : lw_okq (⟨"FootQuarrelModel", "loudBy", "(I)I"⟩, 36) := ⟨⟨by decide +kernel, by decide +kernel⟩, List.mem_of_getElem? (i := 1371) (by decide +kernel), List.mem_of_getElem? (i := 1774) (by decide +kernel), List.mem_of_getElem? (i := 1775) (by decide +kernel)⟩
theorem lw_p94 : lw_okq (⟨"FootQuarrelModel", "shouts", "(II)Z"⟩, 36) := ⟨⟨by decide +kernel, by decide +kernel⟩, List.mem_of_getElem? (i := 1371) (by decide +kernel), List.mem_of_getElem? (i := 1779) (by decide +kernel), List.mem_of_getElem? (i := 1780) (by decide +kernel)⟩
theorem lw_p95 : lw_okq (⟨"FootQuarrelModel", "doesHear", "(II)Z"⟩, 36) := ⟨⟨by decide +kernel, by decide +kernel⟩, List.mem_of_getElem? (i := 1371) (by decide +kernel), List.mem_of_getElem? (i := 1783) (by decide +kernel), List.mem_of_getElem? (i := 1784) (by decide +kernel)⟩
def lw_privs_6 : List (MethodName × Nat) := [(⟨"FootQuarrelModel", "wideOf", "(I)I"⟩, 36), (⟨"FootQuarrelModel", "isHouse", "(I)Z"⟩, 36), (⟨"FootQuarrelModel", "peopleIn", "(I)I"⟩, 36), (⟨"FootQuarrelModel", "homeOf", "(I)I"⟩, 36), (⟨"FootQuarrelModel", "isWall", "(I)Z"⟩, 36), (⟨"FootQuarrelModel", "placeOf", "(II)I"⟩, 36), (⟨"FootQuarrelModel", "isPerson", "(I)Z"⟩, 36), (⟨"FootQuarrelModel", "isQuarrel", "(I)Z"⟩, 36), (⟨"FootQuarrelModel", "areTwo", "(II)Z"⟩, 36), (⟨"FootQuarrelModel", "areNear", "(II)Z"⟩, 36), (⟨"FootQuarrelModel", "isIn", "(II)Z"⟩, 36), (⟨"FootQuarrelModel", "nearTo", "(I)I"⟩, 36), (⟨"FootQuarrelModel", "says", "(II)I"⟩, 36), (⟨"FootQuarrelModel", "loudBy", "(I)I"⟩, 36), (⟨"FootQuarrelModel", "shouts", "(II)Z"⟩, 36), (⟨"FootQuarrelModel", "doesHear", "(II)Z"⟩, 36)]
theorem lw_r6 : ∀ q ∈ lw_privs_6, lw_okq q := List.forall_mem_cons.mpr ⟨lw_p80, List.forall_mem_cons.mpr ⟨lw_p81, List.forall_mem_cons.mpr ⟨lw_p82, List.forall_mem_cons.mpr ⟨lw_p83, List.forall_mem_cons.mpr ⟨lw_p84, List.forall_mem_cons.mpr ⟨lw_p85, List.forall_mem_cons.mpr ⟨lw_p86, List.forall_mem_cons.mpr ⟨lw_p87, List.forall_mem_cons.mpr ⟨lw_p88, List.forall_mem_cons.mpr ⟨lw_p89, List.forall_mem_cons.mpr ⟨lw_p90, List.forall_mem_cons.mpr ⟨lw_p91, List.forall_mem_cons.mpr ⟨lw_p92, List.forall_mem_cons.mpr ⟨lw_p93, List.forall_mem_cons.mpr ⟨lw_p94, List.forall_mem_cons.mpr ⟨lw_p95, fun _ h => absurd h List.not_mem_nil⟩⟩⟩⟩⟩⟩⟩⟩⟩⟩⟩⟩⟩⟩⟩⟩
theorem lw_p96 : lw_okq (⟨"FootQuarrelModel", "goesInto", "(III)I"⟩, 36) := ⟨⟨by decide +kernel, by decide +kernel⟩, List.mem_of_getElem? (i := 1371) (by decide +kernel), List.mem_of_getElem? (i := 1787) (by decide +kernel), List.mem_of_getElem? (i := 1788) (by decide +kernel)⟩
theorem lw_p97 : lw_okq (⟨"FootQuarrelModel", "keepsQuarrel", "(IIII)V"⟩, 36) := ⟨⟨by decide +kernel, by decide +kernel⟩, List.mem_of_getElem? (i := 1371) (by decide +kernel), List.mem_of_getElem? (i := 1791) (by decide +kernel), List.mem_of_getElem? (i := 1792) (by decide +kernel)⟩
theorem lw_p98 : lw_okq (⟨"FootQuarrelModel", "canHalve", "(I)Z"⟩, 36) := ⟨⟨by decide +kernel, by decide +kernel⟩, List.mem_of_getElem? (i := 1371) (by decide +kernel), List.mem_of_getElem? (i := 1799) (by decide +kernel), List.mem_of_getElem? (i := 1800) (by decide +kernel)⟩
theorem lw_p99 : lw_okq (⟨"FootQuarrelModel", "halves", "(I)I"⟩, 36) := ⟨⟨by decide +kernel, by decide +kernel⟩, List.mem_of_getElem? (i := 1371) (by decide +kernel), List.mem_of_getElem? (i := 1803) (by decide +kernel), List.mem_of_getElem? (i := 1804) (by decide +kernel)⟩
theorem lw_p100 : lw_okq (⟨"FootQuarrelModel", "nights", "(I)V"⟩, 36) := ⟨⟨by decide +kernel, by decide +kernel⟩, List.mem_of_getElem? (i := 1371) (by decide +kernel), List.mem_of_getElem? (i := 1815) (by decide +kernel), List.mem_of_getElem? (i := 1816) (by decide +kernel)⟩
theorem lw_p101 : lw_okq (⟨"FootQuarrelModel", "nightFalls", "()V"⟩, 36) := ⟨⟨by decide +kernel, by decide +kernel⟩, List.mem_of_getElem? (i := 1371) (by decide +kernel), List.mem_of_getElem? (i := 1819) (by decide +kernel), List.mem_of_getElem? (i := 1820) (by decide +kernel)⟩
theorem lw_p102 : lw_okq (⟨"FootQuarrelModel", "isWeather", "(I)Z"⟩, 36) := ⟨⟨by decide +kernel, by decide +kernel⟩, List.mem_of_getElem? (i := 1371) (by decide +kernel), List.mem_of_getElem? (i := 1827) (by decide +kernel), List.mem_of_getElem? (i := 1828) (by decide +kernel)⟩
theorem lw_p103 : lw_okq (⟨"FootQuarrelModel", "hearsOf", "(II)Z"⟩, 36) := ⟨⟨by decide +kernel, by decide +kernel⟩, List.mem_of_getElem? (i := 1371) (by decide +kernel), List.mem_of_getElem? (i := 1868) (by decide +kernel), List.mem_of_getElem? (i := 1869) (by decide +kernel)⟩
theorem lw_p104 : lw_okq (⟨"FootQuarrelModel", "triesSaying", "(II)I"⟩, 36) := ⟨⟨by decide +kernel, by decide +kernel⟩, List.mem_of_getElem? (i := 1371) (by decide +kernel), List.mem_of_getElem? (i := 1880) (by decide +kernel), List.mem_of_getElem? (i := 1881) (by decide +kernel)⟩
theorem lw_p105 : lw_okq (⟨"FootQuarrelModel", "keeps", "(I)V"⟩, 36) := ⟨⟨by decide +kernel, by decide +kernel⟩, List.mem_of_getElem? (i := 1371) (by decide +kernel), List.mem_of_getElem? (i := 1884) (by decide +kernel), List.mem_of_getElem? (i := 1885) (by decide +kernel)⟩
theorem lw_p106 : lw_okq (⟨"FootQuarrelModel", "restores", "(I)V"⟩, 36) := ⟨⟨by decide +kernel, by decide +kernel⟩, List.mem_of_getElem? (i := 1371) (by decide +kernel), List.mem_of_getElem? (i := 1888) (by decide +kernel), List.mem_of_getElem? (i := 1889) (by decide +kernel)⟩
theorem lw_p107 : lw_okq (⟨"FootQuarrelModel", "orNone", "(I)I"⟩, 36) := ⟨⟨by decide +kernel, by decide +kernel⟩, List.mem_of_getElem? (i := 1371) (by decide +kernel), List.mem_of_getElem? (i := 1900) (by decide +kernel), List.mem_of_getElem? (i := 1901) (by decide +kernel)⟩
theorem lw_p108 : lw_okq (⟨"FootQuarrelModel", "hiring", "(I)I"⟩, 36) := ⟨⟨by decide +kernel, by decide +kernel⟩, List.mem_of_getElem? (i := 1371) (by decide +kernel), List.mem_of_getElem? (i := 1932) (by decide +kernel), List.mem_of_getElem? (i := 1933) (by decide +kernel)⟩
theorem lw_p109 : lw_okq (⟨"FootQuarrelModel", "doesShoutBy", "(II)Z"⟩, 36) := ⟨⟨by decide +kernel, by decide +kernel⟩, List.mem_of_getElem? (i := 1371) (by decide +kernel), List.mem_of_getElem? (i := 1936) (by decide +kernel), List.mem_of_getElem? (i := 1937) (by decide +kernel)⟩
theorem lw_p110 : lw_okq (⟨"FootQuarrelModel", "paysOf", "(I)I"⟩, 36) := ⟨⟨by decide +kernel, by decide +kernel⟩, List.mem_of_getElem? (i := 1371) (by decide +kernel), List.mem_of_getElem? (i := 1940) (by decide +kernel), List.mem_of_getElem? (i := 1941) (by decide +kernel)⟩
theorem lw_p111 : lw_okq (⟨"FootQuarrelModel", "wrongGame", "(IIII)I"⟩, 36) := ⟨⟨by decide +kernel, by decide +kernel⟩, List.mem_of_getElem? (i := 1371) (by decide +kernel), List.mem_of_getElem? (i := 1955) (by decide +kernel), List.mem_of_getElem? (i := 1956) (by decide +kernel)⟩
def lw_privs_7 : List (MethodName × Nat) := [(⟨"FootQuarrelModel", "goesInto", "(III)I"⟩, 36), (⟨"FootQuarrelModel", "keepsQuarrel", "(IIII)V"⟩, 36), (⟨"FootQuarrelModel", "canHalve", "(I)Z"⟩, 36), (⟨"FootQuarrelModel", "halves", "(I)I"⟩, 36), (⟨"FootQuarrelModel", "nights", "(I)V"⟩, 36), (⟨"FootQuarrelModel", "nightFalls", "()V"⟩, 36), (⟨"FootQuarrelModel", "isWeather", "(I)Z"⟩, 36), (⟨"FootQuarrelModel", "hearsOf", "(II)Z"⟩, 36), (⟨"FootQuarrelModel", "triesSaying", "(II)I"⟩, 36), (⟨"FootQuarrelModel", "keeps", "(I)V"⟩, 36), (⟨"FootQuarrelModel", "restores", "(I)V"⟩, 36), (⟨"FootQuarrelModel", "orNone", "(I)I"⟩, 36), (⟨"FootQuarrelModel", "hiring", "(I)I"⟩, 36), (⟨"FootQuarrelModel", "doesShoutBy", "(II)Z"⟩, 36), (⟨"FootQuarrelModel", "paysOf", "(I)I"⟩, 36), (⟨"FootQuarrelModel", "wrongGame", "(IIII)I"⟩, 36)]
theorem lw_r7 : ∀ q ∈ lw_privs_7, lw_okq q := List.forall_mem_cons.mpr ⟨lw_p96, List.forall_mem_cons.mpr ⟨lw_p97, List.forall_mem_cons.mpr ⟨lw_p98, List.forall_mem_cons.mpr ⟨lw_p99, List.forall_mem_cons.mpr ⟨lw_p100, List.forall_mem_cons.mpr ⟨lw_p101, List.forall_mem_cons.mpr ⟨lw_p102, List.forall_mem_cons.mpr ⟨lw_p103, List.forall_mem_cons.mpr ⟨lw_p104, List.forall_mem_cons.mpr ⟨lw_p105, List.forall_mem_cons.mpr ⟨lw_p106, List.forall_mem_cons.mpr ⟨lw_p107, List.forall_mem_cons.mpr ⟨lw_p108, List.forall_mem_cons.mpr ⟨lw_p109, List.forall_mem_cons.mpr ⟨lw_p110, List.forall_mem_cons.mpr ⟨lw_p111, fun _ h => absurd h List.not_mem_nil⟩⟩⟩⟩⟩⟩⟩⟩⟩⟩⟩⟩⟩⟩⟩⟩
theorem lw_p112 : lw_okq (⟨"FootQuarrelModel", "playing", "(III)I"⟩, 36) := ⟨⟨by decide +kernel, by decide +kernel⟩, List.mem_of_getElem? (i := 1371) (by decide +kernel), List.mem_of_getElem? (i := 1960) (by decide +kernel), List.mem_of_getElem? (i := 1961) (by decide +kernel)⟩
theorem lw_p113 : lw_okq (⟨"FootQuarrelModel", "weighs", "(II)V"⟩, 36) := ⟨⟨by decide +kernel, by decide +kernel⟩, List.mem_of_getElem? (i := 1371) (by decide +kernel), List.mem_of_getElem? (i := 1968) (by decide +kernel), List.mem_of_getElem? (i := 1969) (by decide +kernel)⟩
theorem lw_p114 : lw_okq (⟨"FootQuarrelModel", "mostOf", "(III)I"⟩, 36) := ⟨⟨by decide +kernel, by decide +kernel⟩, List.mem_of_getElem? (i := 1371) (by decide +kernel), List.mem_of_getElem? (i := 1984) (by decide +kernel), List.mem_of_getElem? (i := 1985) (by decide +kernel)⟩
theorem lw_p115 : lw_okq (⟨"FootQuarrelModel", "tellsBy", "(JJ)Z"⟩, 36) := ⟨⟨by decide +kernel, by decide +kernel⟩, List.mem_of_getElem? (i := 1371) (by decide +kernel), List.mem_of_getElem? (i := 1996) (by decide +kernel), List.mem_of_getElem? (i := 1997) (by decide +kernel)⟩
theorem lw_p116 : lw_okq (⟨"FootQuarrelModel", "wrongPlaces", "(II)I"⟩, 36) := ⟨⟨by decide +kernel, by decide +kernel⟩, List.mem_of_getElem? (i := 1371) (by decide +kernel), List.mem_of_getElem? (i := 2012) (by decide +kernel), List.mem_of_getElem? (i := 2013) (by decide +kernel)⟩
theorem lw_p117 : lw_okq (⟨"FootQuarrelModel", "waysFrom", "(III)J"⟩, 36) := ⟨⟨by decide +kernel, by decide +kernel⟩, List.mem_of_getElem? (i := 1371) (by decide +kernel), List.mem_of_getElem? (i := 2017) (by decide +kernel), List.mem_of_getElem? (i := 2018) (by decide +kernel)⟩
theorem lw_p118 : lw_okq (⟨"FootQuarrelModel", "shoutsTo", "(II)I"⟩, 36) := ⟨⟨by decide +kernel, by decide +kernel⟩, List.mem_of_getElem? (i := 1371) (by decide +kernel), List.mem_of_getElem? (i := 2021) (by decide +kernel), List.mem_of_getElem? (i := 2022) (by decide +kernel)⟩
theorem lw_p119 : lw_okq (⟨"FootQuarrelModel", "lives", "(I)V"⟩, 36) := ⟨⟨by decide +kernel, by decide +kernel⟩, List.mem_of_getElem? (i := 1371) (by decide +kernel), List.mem_of_getElem? (i := 2055) (by decide +kernel), List.mem_of_getElem? (i := 2056) (by decide +kernel)⟩
theorem lw_p120 : lw_okq (⟨"FootQuarrelModel", "does", "(I)Z"⟩, 36) := ⟨⟨by decide +kernel, by decide +kernel⟩, List.mem_of_getElem? (i := 1371) (by decide +kernel), List.mem_of_getElem? (i := 2059) (by decide +kernel), List.mem_of_getElem? (i := 2060) (by decide +kernel)⟩
theorem lw_p121 : lw_okq (⟨"FootQuarrelModel", "saysBy", "(II)Z"⟩, 36) := ⟨⟨by decide +kernel, by decide +kernel⟩, List.mem_of_getElem? (i := 1371) (by decide +kernel), List.mem_of_getElem? (i := 2063) (by decide +kernel), List.mem_of_getElem? (i := 2064) (by decide +kernel)⟩
theorem lw_p122 : lw_okq (⟨"FootQuarrelModel", "sorries", "()Z"⟩, 36) := ⟨⟨by decide +kernel, by decide +kernel⟩, List.mem_of_getElem? (i := 1371) (by decide +kernel), List.mem_of_getElem? (i := 2067) (by decide +kernel), List.mem_of_getElem? (i := 2068) (by decide +kernel)⟩
theorem lw_p123 : lw_okq (⟨"FootQuarrelModel", "nightsBy", "(I)Z"⟩, 36) := ⟨⟨by decide +kernel, by decide +kernel⟩, List.mem_of_getElem? (i := 1371) (by decide +kernel), List.mem_of_getElem? (i := 2071) (by decide +kernel), List.mem_of_getElem? (i := 2072) (by decide +kernel)⟩
theorem lw_p124 : lw_okq (⟨"FootQuarrelModel", "saysAny", "()Z"⟩, 36) := ⟨⟨by decide +kernel, by decide +kernel⟩, List.mem_of_getElem? (i := 1371) (by decide +kernel), List.mem_of_getElem? (i := 2075) (by decide +kernel), List.mem_of_getElem? (i := 2076) (by decide +kernel)⟩
theorem lw_p125 : lw_okq (⟨"FootQuarrelModel", "draw", "(I)I"⟩, 36) := ⟨⟨by decide +kernel, by decide +kernel⟩, List.mem_of_getElem? (i := 1371) (by decide +kernel), List.mem_of_getElem? (i := 2079) (by decide +kernel), List.mem_of_getElem? (i := 2080) (by decide +kernel)⟩
theorem lw_p126 : lw_okq (⟨"FootQuarrelModel", "holds", "(I)Z"⟩, 36) := ⟨⟨by decide +kernel, by decide +kernel⟩, List.mem_of_getElem? (i := 1371) (by decide +kernel), List.mem_of_getElem? (i := 2084) (by decide +kernel), List.mem_of_getElem? (i := 2085) (by decide +kernel)⟩
theorem lw_p127 : lw_okq (⟨"FootQuarrelModel", "behindEnds", "(I)I"⟩, 36) := ⟨⟨by decide +kernel, by decide +kernel⟩, List.mem_of_getElem? (i := 1371) (by decide +kernel), List.mem_of_getElem? (i := 2088) (by decide +kernel), List.mem_of_getElem? (i := 2089) (by decide +kernel)⟩
def lw_privs_8 : List (MethodName × Nat) := [(⟨"FootQuarrelModel", "playing", "(III)I"⟩, 36), (⟨"FootQuarrelModel", "weighs", "(II)V"⟩, 36), (⟨"FootQuarrelModel", "mostOf", "(III)I"⟩, 36), (⟨"FootQuarrelModel", "tellsBy", "(JJ)Z"⟩, 36), (⟨"FootQuarrelModel", "wrongPlaces", "(II)I"⟩, 36), (⟨"FootQuarrelModel", "waysFrom", "(III)J"⟩, 36), (⟨"FootQuarrelModel", "shoutsTo", "(II)I"⟩, 36), (⟨"FootQuarrelModel", "lives", "(I)V"⟩, 36), (⟨"FootQuarrelModel", "does", "(I)Z"⟩, 36), (⟨"FootQuarrelModel", "saysBy", "(II)Z"⟩, 36), (⟨"FootQuarrelModel", "sorries", "()Z"⟩, 36), (⟨"FootQuarrelModel", "nightsBy", "(I)Z"⟩, 36), (⟨"FootQuarrelModel", "saysAny", "()Z"⟩, 36), (⟨"FootQuarrelModel", "draw", "(I)I"⟩, 36), (⟨"FootQuarrelModel", "holds", "(I)Z"⟩, 36), (⟨"FootQuarrelModel", "behindEnds", "(I)I"⟩, 36)]
theorem lw_r8 : ∀ q ∈ lw_privs_8, lw_okq q := List.forall_mem_cons.mpr ⟨lw_p112, List.forall_mem_cons.mpr ⟨lw_p113, List.forall_mem_cons.mpr ⟨lw_p114, List.forall_mem_cons.mpr ⟨lw_p115, List.forall_mem_cons.mpr ⟨lw_p116, List.forall_mem_cons.mpr ⟨lw_p117, List.forall_mem_cons.mpr ⟨lw_p118, List.forall_mem_cons.mpr ⟨lw_p119, List.forall_mem_cons.mpr ⟨lw_p120, List.forall_mem_cons.mpr ⟨lw_p121, List.forall_mem_cons.mpr ⟨lw_p122, List.forall_mem_cons.mpr ⟨lw_p123, List.forall_mem_cons.mpr ⟨lw_p124, List.forall_mem_cons.mpr ⟨lw_p125, List.forall_mem_cons.mpr ⟨lw_p126, List.forall_mem_cons.mpr ⟨lw_p127, fun _ h => absurd h List.not_mem_nil⟩⟩⟩⟩⟩⟩⟩⟩⟩⟩⟩⟩⟩⟩⟩⟩
theorem lw_p128 : lw_okq (⟨"FootQuarrelModel", "copies", "(II)V"⟩, 36) := ⟨⟨by decide +kernel, by decide +kernel⟩, List.mem_of_getElem? (i := 1371) (by decide +kernel), List.mem_of_getElem? (i := 2105) (by decide +kernel), List.mem_of_getElem? (i := 2106) (by decide +kernel)⟩
def lw_privs_9 : List (MethodName × Nat) := [(⟨"FootQuarrelModel", "copies", "(II)V"⟩, 36)]
theorem lw_r9 : ∀ q ∈ lw_privs_9, lw_okq q := List.forall_mem_cons.mpr ⟨lw_p128, fun _ h => absurd h List.not_mem_nil⟩
def lw_privs : List (MethodName × Nat) := lw_privs_1 ++ (lw_privs_2 ++ (lw_privs_3 ++ (lw_privs_4 ++ (lw_privs_5 ++ (lw_privs_6 ++ (lw_privs_7 ++ (lw_privs_8 ++ (lw_privs_9))))))))
def lw_tbl : List Cond := k2_sels lw_privs ++ tables_1
theorem lw_privs_ok : ∀ q ∈ lw_privs, lw_okq q := by
  show ∀ q ∈ lw_privs_1 ++ (lw_privs_2 ++ (lw_privs_3 ++ (lw_privs_4 ++ (lw_privs_5 ++ (lw_privs_6 ++ (lw_privs_7 ++ (lw_privs_8 ++ (lw_privs_9)))))))), lw_okq q
  exact List.forall_mem_append.mpr ⟨lw_r1, List.forall_mem_append.mpr ⟨lw_r2, List.forall_mem_append.mpr ⟨lw_r3, List.forall_mem_append.mpr ⟨lw_r4, List.forall_mem_append.mpr ⟨lw_r5, List.forall_mem_append.mpr ⟨lw_r6, List.forall_mem_append.mpr ⟨lw_r7, List.forall_mem_append.mpr ⟨lw_r8, lw_r9⟩⟩⟩⟩⟩⟩⟩⟩
theorem goodIn_r {big : List Cond} (ws : List Cond) (ps : List Nat) (hp : ws = ps.filterMap (fun i => big[i]?)) (h : ws.all goodWord = true) : GoodIn big ws := by
  intro w hw
  have h1 := List.all_eq_true.mp h w hw
  rw [hp] at hw
  obtain ⟨i, -, hi⟩ := List.mem_filterMap.mp hw
  have hm : w ∈ big := by first | exact List.mem_of_getElem? hi | exact List.getElem?_mem hi
  exact ⟨hm, good_of_word h1⟩
theorem goodIn_app {big a b : List Cond} (ha : GoodIn big a) (hb : GoodIn big b) : GoodIn big (a ++ b) := fun w h => (List.mem_append.mp h).elim (ha w) (hb w)
theorem goodIn_ca {big a b : List Cond} {c : Cond} (ha : GoodIn big (c :: a)) (hb : GoodIn big b) : GoodIn big (c :: (a ++ b)) := fun w h => (List.mem_cons.mp h).elim (fun e => ha w (List.mem_cons.mpr (Or.inl e))) (fun h => (List.mem_append.mp h).elim (fun h => ha w (List.mem_cons.mpr (Or.inr h))) (hb w))
theorem goodIn_sub {big ws : List Cond} (hm : ∀ w ∈ ws, w ∈ big) (h : ws.all goodWord = true) : GoodIn big ws := fun w hw => ⟨hm w hw, good_of_word (List.all_eq_true.mp h w hw)⟩
def RX0 : String := "FootQuarrel$House"
def TX0 : u_T := fun k => match k with
  | 0 => ("FootQuarrel$House", "name", "J", false)
  | 1 => ("FootQuarrel$House", "toldWide", "I", false)
  | 2 => ("FootQuarrel$House", "wide", "I", false)
  | _ => ("FootQuarrel$House", "lost", "I", false)
def tyX0 : Nat → FieldType := fun k => match k with
  | 0 => .long
  | 1 => .int
  | 2 => .int
  | _ => .int
abbrev wsX00 : List Cond := u_ws RX0 TX0 4
theorem nmX0 : ∀ a, a < 4 → ∀ b, b < 4 → a ≠ b → (TX0 a).2.1 ≠ (TX0 b).2.1 := by decide +kernel
theorem tyX0_ok : ∀ k, k < 4 → parseFieldDescriptor (TX0 k).2.2.1 = some (tyX0 k) := by decide +kernel
abbrev cX0_init : ByteArray := prog_2_method_1_code
def yX0_init : MethodName := ⟨RX0, "<init>", "()V"⟩
abbrev cX0_build : ByteArray := prog_2_method_2_code
def yX0_build : MethodName := ⟨RX0, "build", "(JI)V"⟩
abbrev cX0_copyFrom : ByteArray := prog_2_method_3_code
def yX0_copyFrom : MethodName := ⟨RX0, "copyFrom", "(LFootQuarrel$House;)V"⟩
def RX1 : String := "FootQuarrel$Life"
def TX1 : u_T := fun k => match k with
  | 0 => ("FootQuarrel$Life", "roundsLeft", "[I", true)
  | 1 => ("FootQuarrel$Life", "drawn", "I", false)
  | 2 => ("FootQuarrel$Life", "drawnOne", "I", false)
  | 3 => ("FootQuarrel$Life", "drawnOther", "I", false)
  | 4 => ("FootQuarrel$Life", "done", "I", false)
  | 5 => ("FootQuarrel$Life", "missed", "I", false)
  | 6 => ("FootQuarrel$Life", "nights", "I", false)
  | 7 => ("FootQuarrel$Life", "said", "I", false)
  | 8 => ("FootQuarrel$Life", "shouts", "I", false)
  | 9 => ("FootQuarrel$Life", "isCutOff", "Z", false)
  | _ => ("FootQuarrel$Life", "isOver", "Z", false)
def tyX1 : Nat → FieldType := fun k => match k with
  | 0 => .array .int
  | 1 => .int
  | 2 => .int
  | 3 => .int
  | 4 => .int
  | 5 => .int
  | 6 => .int
  | 7 => .int
  | 8 => .int
  | 9 => .boolean
  | _ => .boolean
abbrev wsX10 : List Cond := u_ws RX1 TX1 11
theorem nmX1 : ∀ a, a < 11 → ∀ b, b < 11 → a ≠ b → (TX1 a).2.1 ≠ (TX1 b).2.1 := by decide +kernel
theorem tyX1_ok : ∀ k, k < 11 → parseFieldDescriptor (TX1 k).2.2.1 = some (tyX1 k) := by decide +kernel
abbrev cX1_init : ByteArray := prog_3_method_1_code
def yX1_init : MethodName := ⟨RX1, "<init>", "()V"⟩
abbrev cX1_pass : ByteArray := prog_3_method_2_code
def yX1_pass : MethodName := ⟨RX1, "pass", "(LFootQuarrel$Street;I)V"⟩
abbrev cX1_behindEnd : ByteArray := prog_3_method_3_code
def yX1_behindEnd : MethodName := ⟨RX1, "behindEnd", "(LFootQuarrel$Years;I)I"⟩
abbrev cX1_behindStep : ByteArray := prog_3_method_4_code
def yX1_behindStep : MethodName := ⟨RX1, "behindStep", "(LFootQuarrel$Street;I)I"⟩
abbrev cX1_holds : ByteArray := prog_3_method_5_code
def yX1_holds : MethodName := ⟨RX1, "holds", "(LFootQuarrel$Street;I)Z"⟩
abbrev cX1_speak : ByteArray := prog_3_method_6_code
def yX1_speak : MethodName := ⟨RX1, "speak", "(LFootQuarrel$Street;II)V"⟩
abbrev cX1_regret : ByteArray := prog_3_method_7_code
def yX1_regret : MethodName := ⟨RX1, "regret", "(LFootQuarrel$Street;)V"⟩
abbrev cX1_sleep : ByteArray := prog_3_method_8_code
def yX1_sleep : MethodName := ⟨RX1, "sleep", "(LFootQuarrel$Street;I)V"⟩
abbrev cX1_turnWeather : ByteArray := prog_3_method_9_code
def yX1_turnWeather : MethodName := ⟨RX1, "turnWeather", "(LFootQuarrel$Street;Z)V"⟩
abbrev cX1_drawMeeting : ByteArray := prog_3_method_10_code
def yX1_drawMeeting : MethodName := ⟨RX1, "drawMeeting", "(LFootQuarrel$Street;)V"⟩
abbrev cX1_draw : ByteArray := prog_3_method_11_code
def yX1_draw : MethodName := ⟨RX1, "draw", "(I)I"⟩
def RX2 : String := "FootQuarrel$Person"
def TX2 : u_T := fun k => match k with
  | 0 => ("FootQuarrel$Person", "name", "J", false)
  | 1 => ("FootQuarrel$Person", "home", "I", false)
  | 2 => ("FootQuarrel$Person", "temper", "I", false)
  | 3 => ("FootQuarrel$Person", "ears", "I", false)
  | 4 => ("FootQuarrel$Person", "voice", "I", false)
  | 5 => ("FootQuarrel$Person", "pay", "I", false)
  | 6 => ("FootQuarrel$Person", "anger", "I", false)
  | _ => ("FootQuarrel$Person", "shouts", "I", false)
def tyX2 : Nat → FieldType := fun k => match k with
  | 0 => .long
  | 1 => .int
  | 2 => .int
  | 3 => .int
  | 4 => .int
  | 5 => .int
  | 6 => .int
  | _ => .int
abbrev wsX20 : List Cond := u_ws RX2 TX2 8
theorem nmX2 : ∀ a, a < 8 → ∀ b, b < 8 → a ≠ b → (TX2 a).2.1 ≠ (TX2 b).2.1 := by decide +kernel
theorem tyX2_ok : ∀ k, k < 8 → parseFieldDescriptor (TX2 k).2.2.1 = some (tyX2 k) := by decide +kernel
abbrev cX2_init : ByteArray := prog_4_method_1_code
def yX2_init : MethodName := ⟨RX2, "<init>", "()V"⟩
abbrev cX2_settle : ByteArray := prog_4_method_2_code
def yX2_settle : MethodName := ⟨RX2, "settle", "(JI)V"⟩
abbrev cX2_setTrait : ByteArray := prog_4_method_3_code
def yX2_setTrait : MethodName := ⟨RX2, "setTrait", "(II)V"⟩
abbrev cX2_copyFrom : ByteArray := prog_4_method_4_code
def yX2_copyFrom : MethodName := ⟨RX2, "copyFrom", "(LFootQuarrel$Person;)V"⟩
abbrev cX2_catches : ByteArray := prog_4_method_5_code
def yX2_catches : MethodName := ⟨RX2, "catches", "(I)Z"⟩
abbrev cX2_wouldShout : ByteArray := prog_4_method_6_code
def yX2_wouldShout : MethodName := ⟨RX2, "wouldShout", "(I)Z"⟩
abbrev cX2_isProvoked : ByteArray := prog_4_method_7_code
def yX2_isProvoked : MethodName := ⟨RX2, "isProvoked", "(I)Z"⟩
def RX3 : String := "FootQuarrel$Quarrel"
def TX3 : u_T := fun k => match k with
  | 0 => ("FootQuarrel$Quarrel", "day", "I", false)
  | 1 => ("FootQuarrel$Quarrel", "wall", "I", false)
  | 2 => ("FootQuarrel$Quarrel", "speaker", "I", false)
  | 3 => ("FootQuarrel$Quarrel", "hearer", "I", false)
  | 4 => ("FootQuarrel$Quarrel", "shouts", "I", false)
  | 5 => ("FootQuarrel$Quarrel", "feet", "I", false)
  | _ => ("FootQuarrel$Quarrel", "halved", "Z", false)
def tyX3 : Nat → FieldType := fun k => match k with
  | 0 => .int
  | 1 => .int
  | 2 => .int
  | 3 => .int
  | 4 => .int
  | 5 => .int
  | _ => .boolean
abbrev wsX30 : List Cond := u_ws RX3 TX3 7
theorem nmX3 : ∀ a, a < 7 → ∀ b, b < 7 → a ≠ b → (TX3 a).2.1 ≠ (TX3 b).2.1 := by decide +kernel
theorem tyX3_ok : ∀ k, k < 7 → parseFieldDescriptor (TX3 k).2.2.1 = some (tyX3 k) := by decide +kernel
abbrev cX3_init : ByteArray := prog_5_method_1_code
def yX3_init : MethodName := ⟨RX3, "<init>", "()V"⟩
abbrev cX3_copyFrom : ByteArray := prog_5_method_2_code
def yX3_copyFrom : MethodName := ⟨RX3, "copyFrom", "(LFootQuarrel$Quarrel;)V"⟩
def RX4 : String := "FootQuarrel$Reader"
def TX4 : u_T := fun k => match k with
  | 0 => ("FootQuarrel$Reader", "text", "[B", true)
  | 1 => ("FootQuarrel$Reader", "reserved", "[J", true)
  | 2 => ("FootQuarrel$Reader", "length", "I", false)
  | 3 => ("FootQuarrel$Reader", "next", "I", false)
  | 4 => ("FootQuarrel$Reader", "kind", "I", false)
  | 5 => ("FootQuarrel$Reader", "number", "I", false)
  | 6 => ("FootQuarrel$Reader", "name", "J", false)
  | 7 => ("FootQuarrel$Reader", "start", "I", false)
  | 8 => ("FootQuarrel$Reader", "word", "I", false)
  | 9 => ("FootQuarrel$Reader", "sign", "I", false)
  | 10 => ("FootQuarrel$Reader", "fault", "I", false)
  | _ => ("FootQuarrel$Reader", "place", "I", false)
def tyX4 : Nat → FieldType := fun k => match k with
  | 0 => .array .byte
  | 1 => .array .long
  | 2 => .int
  | 3 => .int
  | 4 => .int
  | 5 => .int
  | 6 => .long
  | 7 => .int
  | 8 => .int
  | 9 => .int
  | 10 => .int
  | _ => .int
abbrev wsX40 : List Cond := u_ws RX4 TX4 12
theorem nmX4 : ∀ a, a < 12 → ∀ b, b < 12 → a ≠ b → (TX4 a).2.1 ≠ (TX4 b).2.1 := by decide +kernel
theorem tyX4_ok : ∀ k, k < 12 → parseFieldDescriptor (TX4 k).2.2.1 = some (tyX4 k) := by decide +kernel
abbrev cX4_init : ByteArray := prog_6_method_1_code
def yX4_init : MethodName := ⟨RX4, "<init>", "([B)V"⟩
abbrev cX4_withLetter : ByteArray := prog_6_method_2_code
def yX4_withLetter : MethodName := ⟨RX4, "withLetter", "(JI)J"⟩
abbrev cX4_begin : ByteArray := prog_6_method_3_code
def yX4_begin : MethodName := ⟨RX4, "begin", "(I)V"⟩
abbrev cX4_advance : ByteArray := prog_6_method_4_code
def yX4_advance : MethodName := ⟨RX4, "advance", "()V"⟩
abbrev cX4_readWord : ByteArray := prog_6_method_5_code
def yX4_readWord : MethodName := ⟨RX4, "readWord", "()V"⟩
abbrev cX4_readNumber : ByteArray := prog_6_method_6_code
def yX4_readNumber : MethodName := ⟨RX4, "readNumber", "()V"⟩
abbrev cX4_isBlank : ByteArray := prog_6_method_7_code
def yX4_isBlank : MethodName := ⟨RX4, "isBlank", "(I)Z"⟩
abbrev cX4_isLetter : ByteArray := prog_6_method_8_code
def yX4_isLetter : MethodName := ⟨RX4, "isLetter", "(I)Z"⟩
abbrev cX4_isDigit : ByteArray := prog_6_method_9_code
def yX4_isDigit : MethodName := ⟨RX4, "isDigit", "(I)Z"⟩
abbrev cX4_isSign : ByteArray := prog_6_method_10_code
def yX4_isSign : MethodName := ⟨RX4, "isSign", "(I)Z"⟩
abbrev cX4_isCompare : ByteArray := prog_6_method_11_code
def yX4_isCompare : MethodName := ⟨RX4, "isCompare", "(I)Z"⟩
abbrev cX4_isAtEnd : ByteArray := prog_6_method_12_code
def yX4_isAtEnd : MethodName := ⟨RX4, "isAtEnd", "()Z"⟩
abbrev cX4_reject : ByteArray := prog_6_method_13_code
def yX4_reject : MethodName := ⟨RX4, "reject", "(I)Z"⟩
abbrev cX4_takeWord : ByteArray := prog_6_method_14_code
def yX4_takeWord : MethodName := ⟨RX4, "takeWord", "(I)Z"⟩
abbrev cX4_takeStop : ByteArray := prog_6_method_15_code
def yX4_takeStop : MethodName := ⟨RX4, "takeStop", "()Z"⟩
abbrev cX4_takeCompare : ByteArray := prog_6_method_16_code
def yX4_takeCompare : MethodName := ⟨RX4, "takeCompare", "()I"⟩
abbrev cX4_takeNumber : ByteArray := prog_6_method_17_code
def yX4_takeNumber : MethodName := ⟨RX4, "takeNumber", "(II)I"⟩
abbrev cX4_isName : ByteArray := prog_6_method_18_code
def yX4_isName : MethodName := ⟨RX4, "isName", "()Z"⟩
abbrev cX4_takeNewName : ByteArray := prog_6_method_19_code
def yX4_takeNewName : MethodName := ⟨RX4, "takeNewName", "(LFootQuarrel$Street;)J"⟩
abbrev cX4_seeHouse : ByteArray := prog_6_method_20_code
def yX4_seeHouse : MethodName := ⟨RX4, "seeHouse", "(LFootQuarrel$Street;)I"⟩
abbrev cX4_seePerson : ByteArray := prog_6_method_21_code
def yX4_seePerson : MethodName := ⟨RX4, "seePerson", "(LFootQuarrel$Street;)I"⟩
abbrev cX4_seen : ByteArray := prog_6_method_22_code
def yX4_seen : MethodName := ⟨RX4, "seen", "(I)I"⟩
abbrev cX4_takeHouse : ByteArray := prog_6_method_23_code
def yX4_takeHouse : MethodName := ⟨RX4, "takeHouse", "(LFootQuarrel$Street;)I"⟩
abbrev cX4_takePerson : ByteArray := prog_6_method_24_code
def yX4_takePerson : MethodName := ⟨RX4, "takePerson", "(LFootQuarrel$Street;)I"⟩
def RX5 : String := "FootQuarrel$Spat"
def TX5 : u_T := fun k => match k with
  | 0 => ("FootQuarrel$Spat", "sides", "[LFootQuarrel$Person;", true)
  | 1 => ("FootQuarrel$Spat", "wide", "[I", true)
  | 2 => ("FootQuarrel$Spat", "lost", "[I", true)
  | 3 => ("FootQuarrel$Spat", "foot", "I", false)
  | _ => ("FootQuarrel$Spat", "raining", "Z", false)
def tyX5 : Nat → FieldType := fun k => match k with
  | 0 => .array (.object "FootQuarrel$Person")
  | 1 => .array .int
  | 2 => .array .int
  | 3 => .int
  | _ => .boolean
abbrev wsX50 : List Cond := u_ws RX5 TX5 5
theorem nmX5 : ∀ a, a < 5 → ∀ b, b < 5 → a ≠ b → (TX5 a).2.1 ≠ (TX5 b).2.1 := by decide +kernel
theorem tyX5_ok : ∀ k, k < 5 → parseFieldDescriptor (TX5 k).2.2.1 = some (tyX5 k) := by decide +kernel
abbrev cX5_init : ByteArray := prog_7_method_1_code
def yX5_init : MethodName := ⟨RX5, "<init>", "()V"⟩
abbrev cX5_speak : ByteArray := prog_7_method_2_code
def yX5_speak : MethodName := ⟨RX5, "speak", "(I)I"⟩
abbrev cX5_giveWay : ByteArray := prog_7_method_3_code
def yX5_giveWay : MethodName := ⟨RX5, "giveWay", "(I)V"⟩
abbrev cX5_loudness : ByteArray := prog_7_method_4_code
def yX5_loudness : MethodName := ⟨RX5, "loudness", "(IZ)I"⟩
def RX6 : String := "FootQuarrel$Street"
def TX6 : u_T := fun k => match k with
  | 0 => ("FootQuarrel$Street", "houses", "[LFootQuarrel$House;", true)
  | 1 => ("FootQuarrel$Street", "people", "[LFootQuarrel$Person;", true)
  | 2 => ("FootQuarrel$Street", "quarrels", "[LFootQuarrel$Quarrel;", true)
  | 3 => ("FootQuarrel$Street", "years", "LFootQuarrel$Years;", true)
  | 4 => ("FootQuarrel$Street", "spat", "LFootQuarrel$Spat;", true)
  | 5 => ("FootQuarrel$Street", "houseCount", "I", false)
  | 6 => ("FootQuarrel$Street", "peopleCount", "I", false)
  | 7 => ("FootQuarrel$Street", "kept", "I", false)
  | 8 => ("FootQuarrel$Street", "newest", "I", false)
  | 9 => ("FootQuarrel$Street", "foot", "I", false)
  | 10 => ("FootQuarrel$Street", "calm", "I", false)
  | 11 => ("FootQuarrel$Street", "odds", "I", false)
  | 12 => ("FootQuarrel$Street", "day", "I", false)
  | 13 => ("FootQuarrel$Street", "peace", "I", false)
  | 14 => ("FootQuarrel$Street", "said", "I", false)
  | 15 => ("FootQuarrel$Street", "shouts", "I", false)
  | _ => ("FootQuarrel$Street", "raining", "Z", false)
def tyX6 : Nat → FieldType := fun k => match k with
  | 0 => .array (.object "FootQuarrel$House")
  | 1 => .array (.object "FootQuarrel$Person")
  | 2 => .array (.object "FootQuarrel$Quarrel")
  | 3 => .object "FootQuarrel$Years"
  | 4 => .object "FootQuarrel$Spat"
  | 5 => .int
  | 6 => .int
  | 7 => .int
  | 8 => .int
  | 9 => .int
  | 10 => .int
  | 11 => .int
  | 12 => .int
  | 13 => .int
  | 14 => .int
  | 15 => .int
  | _ => .boolean
abbrev wsX60 : List Cond := u_ws RX6 TX6 17
theorem nmX6 : ∀ a, a < 17 → ∀ b, b < 17 → a ≠ b → (TX6 a).2.1 ≠ (TX6 b).2.1 := by decide +kernel
theorem tyX6_ok : ∀ k, k < 17 → parseFieldDescriptor (TX6 k).2.2.1 = some (tyX6 k) := by decide +kernel
abbrev cX6_init : ByteArray := prog_8_method_1_code
def yX6_init : MethodName := ⟨RX6, "<init>", "()V"⟩
abbrev cX6_clear : ByteArray := prog_8_method_2_code
def yX6_clear : MethodName := ⟨RX6, "clear", "()V"⟩
abbrev cX6_copyFrom : ByteArray := prog_8_method_3_code
def yX6_copyFrom : MethodName := ⟨RX6, "copyFrom", "(LFootQuarrel$Street;)V"⟩
abbrev cX6_houseNamed : ByteArray := prog_8_method_4_code
def yX6_houseNamed : MethodName := ⟨RX6, "houseNamed", "(J)I"⟩
abbrev cX6_personNamed : ByteArray := prog_8_method_5_code
def yX6_personNamed : MethodName := ⟨RX6, "personNamed", "(J)I"⟩
abbrev cX6_wallCount : ByteArray := prog_8_method_6_code
def yX6_wallCount : MethodName := ⟨RX6, "wallCount", "()I"⟩
abbrev cX6_wallPlace : ByteArray := prog_8_method_7_code
def yX6_wallPlace : MethodName := ⟨RX6, "wallPlace", "(I)I"⟩
abbrev cX6_toldPlace : ByteArray := prog_8_method_8_code
def yX6_toldPlace : MethodName := ⟨RX6, "toldPlace", "(I)I"⟩
abbrev cX6_isAtPeace : ByteArray := prog_8_method_9_code
def yX6_isAtPeace : MethodName := ⟨RX6, "isAtPeace", "(I)Z"⟩
abbrev cX6_sharedWall : ByteArray := prog_8_method_10_code
def yX6_sharedWall : MethodName := ⟨RX6, "sharedWall", "(II)I"⟩
abbrev cX6_neighbourSet : ByteArray := prog_8_method_11_code
def yX6_neighbourSet : MethodName := ⟨RX6, "neighbourSet", "(I)I"⟩
abbrev cX6_hearerSet : ByteArray := prog_8_method_12_code
def yX6_hearerSet : MethodName := ⟨RX6, "hearerSet", "(I)I"⟩
abbrev cX6_livingIn : ByteArray := prog_8_method_13_code
def yX6_livingIn : MethodName := ⟨RX6, "livingIn", "(I)I"⟩
abbrev cX6_angrySet : ByteArray := prog_8_method_14_code
def yX6_angrySet : MethodName := ⟨RX6, "angrySet", "()I"⟩
abbrev cX6_landlessSet : ByteArray := prog_8_method_15_code
def yX6_landlessSet : MethodName := ⟨RX6, "landlessSet", "()I"⟩
abbrev cX6_loudness : ByteArray := prog_8_method_16_code
def yX6_loudness : MethodName := ⟨RX6, "loudness", "(I)I"⟩
abbrev cX6_loudnessOf : ByteArray := prog_8_method_17_code
def yX6_loudnessOf : MethodName := ⟨RX6, "loudnessOf", "(I)I"⟩
abbrev cX6_wouldProvoke : ByteArray := prog_8_method_18_code
def yX6_wouldProvoke : MethodName := ⟨RX6, "wouldProvoke", "(II)Z"⟩
abbrev cX6_tryOut : ByteArray := prog_8_method_19_code
def yX6_tryOut : MethodName := ⟨RX6, "tryOut", "(II)LFootQuarrel$Spat;"⟩
abbrev cX6_gain : ByteArray := prog_8_method_20_code
def yX6_gain : MethodName := ⟨RX6, "gain", "(II)I"⟩
abbrev cX6_utter : ByteArray := prog_8_method_21_code
def yX6_utter : MethodName := ⟨RX6, "utter", "(II)I"⟩
abbrev cX6_settleSide : ByteArray := prog_8_method_22_code
def yX6_settleSide : MethodName := ⟨RX6, "settleSide", "(II)V"⟩
abbrev cX6_keepQuarrel : ByteArray := prog_8_method_23_code
def yX6_keepQuarrel : MethodName := ⟨RX6, "keepQuarrel", "(IIIII)V"⟩
abbrev cX6_latest : ByteArray := prog_8_method_24_code
def yX6_latest : MethodName := ⟨RX6, "latest", "(I)LFootQuarrel$Quarrel;"⟩
abbrev cX6_canRegret : ByteArray := prog_8_method_25_code
def yX6_canRegret : MethodName := ⟨RX6, "canRegret", "(I)Z"⟩
abbrev cX6_regret : ByteArray := prog_8_method_26_code
def yX6_regret : MethodName := ⟨RX6, "regret", "(I)I"⟩
abbrev cX6_push : ByteArray := prog_8_method_27_code
def yX6_push : MethodName := ⟨RX6, "push", "(II)I"⟩
abbrev cX6_sleep : ByteArray := prog_8_method_28_code
def yX6_sleep : MethodName := ⟨RX6, "sleep", "(I)V"⟩
abbrev cX6_angerBehind : ByteArray := prog_8_method_29_code
def yX6_angerBehind : MethodName := ⟨RX6, "angerBehind", "(II)I"⟩
abbrev cX6_cheapestSet : ByteArray := prog_8_method_30_code
def yX6_cheapestSet : MethodName := ⟨RX6, "cheapestSet", "(I)I"⟩
abbrev cX6_wouldProvokeTogether : ByteArray := prog_8_method_31_code
def yX6_wouldProvokeTogether : MethodName := ⟨RX6, "wouldProvokeTogether", "(II)Z"⟩
abbrev cX6_isCheaper : ByteArray := prog_8_method_32_code
def yX6_isCheaper : MethodName := ⟨RX6, "isCheaper", "(II)Z"⟩
abbrev cX6_payOf : ByteArray := prog_8_method_33_code
def yX6_payOf : MethodName := ⟨RX6, "payOf", "(I)I"⟩
def RX7 : String := "FootQuarrel$StreetText"
def TX7 : u_T := fun k => match k with
  | 0 => ("FootQuarrel$StreetText", "reader", "LFootQuarrel$Reader;", true)
  | 1 => ("FootQuarrel$StreetText", "street", "LFootQuarrel$Street;", true)
  | 2 => ("FootQuarrel$StreetText", "footTold", "Z", false)
  | 3 => ("FootQuarrel$StreetText", "calmTold", "Z", false)
  | _ => ("FootQuarrel$StreetText", "oddsTold", "Z", false)
def tyX7 : Nat → FieldType := fun k => match k with
  | 0 => .object "FootQuarrel$Reader"
  | 1 => .object "FootQuarrel$Street"
  | 2 => .boolean
  | 3 => .boolean
  | _ => .boolean
abbrev wsX70 : List Cond := u_ws RX7 TX7 5
theorem nmX7 : ∀ a, a < 5 → ∀ b, b < 5 → a ≠ b → (TX7 a).2.1 ≠ (TX7 b).2.1 := by decide +kernel
theorem tyX7_ok : ∀ k, k < 5 → parseFieldDescriptor (TX7 k).2.2.1 = some (tyX7 k) := by decide +kernel
abbrev cX7_init : ByteArray := prog_9_method_1_code
def yX7_init : MethodName := ⟨RX7, "<init>", "(LFootQuarrel$Reader;LFootQuarrel$Street;)V"⟩
abbrev cX7_take : ByteArray := prog_9_method_2_code
def yX7_take : MethodName := ⟨RX7, "take", "(I)Z"⟩
abbrev cX7_takeFoot : ByteArray := prog_9_method_3_code
def yX7_takeFoot : MethodName := ⟨RX7, "takeFoot", "()Z"⟩
abbrev cX7_takeCalm : ByteArray := prog_9_method_4_code
def yX7_takeCalm : MethodName := ⟨RX7, "takeCalm", "()Z"⟩
abbrev cX7_takeOdds : ByteArray := prog_9_method_5_code
def yX7_takeOdds : MethodName := ⟨RX7, "takeOdds", "()Z"⟩
abbrev cX7_takeHouse : ByteArray := prog_9_method_6_code
def yX7_takeHouse : MethodName := ⟨RX7, "takeHouse", "()Z"⟩
abbrev cX7_takePerson : ByteArray := prog_9_method_7_code
def yX7_takePerson : MethodName := ⟨RX7, "takePerson", "()Z"⟩
abbrev cX7_takeTrait : ByteArray := prog_9_method_8_code
def yX7_takeTrait : MethodName := ⟨RX7, "takeTrait", "(LFootQuarrel$Person;I)Z"⟩
abbrev cX7_takePeace : ByteArray := prog_9_method_9_code
def yX7_takePeace : MethodName := ⟨RX7, "takePeace", "()Z"⟩
def RX8 : String := "FootQuarrel$Tray"
def TX8 : u_T := fun k => match k with
  | 0 => ("FootQuarrel$Tray", "cells", "[J", true)
  | 1 => ("FootQuarrel$Tray", "size", "I", false)
  | _ => ("FootQuarrel$Tray", "sort", "I", false)
def tyX8 : Nat → FieldType := fun k => match k with
  | 0 => .array .long
  | 1 => .int
  | _ => .int
abbrev wsX80 : List Cond := u_ws RX8 TX8 3
theorem nmX8 : ∀ a, a < 3 → ∀ b, b < 3 → a ≠ b → (TX8 a).2.1 ≠ (TX8 b).2.1 := by decide +kernel
theorem tyX8_ok : ∀ k, k < 3 → parseFieldDescriptor (TX8 k).2.2.1 = some (tyX8 k) := by decide +kernel
abbrev cX8_init : ByteArray := prog_10_method_1_code
def yX8_init : MethodName := ⟨RX8, "<init>", "()V"⟩
abbrev cX8_isMissing : ByteArray := prog_10_method_2_code
def yX8_isMissing : MethodName := ⟨RX8, "isMissing", "()Z"⟩
abbrev cX8_renew : ByteArray := prog_10_method_3_code
def yX8_renew : MethodName := ⟨RX8, "renew", "(II)V"⟩
abbrev cX8_spans : ByteArray := prog_10_method_4_code
def yX8_spans : MethodName := ⟨RX8, "spans", "(II)Z"⟩
abbrev cX8_put : ByteArray := prog_10_method_5_code
def yX8_put : MethodName := ⟨RX8, "put", "(IJ)V"⟩
def RX9 : String := "FootQuarrel$Years"
def TX9 : u_T := fun k => match k with
  | 0 => ("FootQuarrel$Years", "deed", "[I", true)
  | 1 => ("FootQuarrel$Years", "test", "[I", true)
  | 2 => ("FootQuarrel$Years", "one", "[I", true)
  | 3 => ("FootQuarrel$Years", "other", "[I", true)
  | 4 => ("FootQuarrel$Years", "sign", "[I", true)
  | 5 => ("FootQuarrel$Years", "number", "[I", true)
  | 6 => ("FootQuarrel$Years", "partner", "[I", true)
  | 7 => ("FootQuarrel$Years", "entries", "I", false)
  | 8 => ("FootQuarrel$Years", "steps", "I", false)
  | _ => ("FootQuarrel$Years", "areTold", "Z", false)
def tyX9 : Nat → FieldType := fun k => match k with
  | 0 => .array .int
  | 1 => .array .int
  | 2 => .array .int
  | 3 => .array .int
  | 4 => .array .int
  | 5 => .array .int
  | 6 => .array .int
  | 7 => .int
  | 8 => .int
  | _ => .boolean
abbrev wsX90 : List Cond := u_ws RX9 TX9 10
theorem nmX9 : ∀ a, a < 10 → ∀ b, b < 10 → a ≠ b → (TX9 a).2.1 ≠ (TX9 b).2.1 := by decide +kernel
theorem tyX9_ok : ∀ k, k < 10 → parseFieldDescriptor (TX9 k).2.2.1 = some (tyX9 k) := by decide +kernel
abbrev cX9_init : ByteArray := prog_11_method_1_code
def yX9_init : MethodName := ⟨RX9, "<init>", "()V"⟩
abbrev cX9_clear : ByteArray := prog_11_method_2_code
def yX9_clear : MethodName := ⟨RX9, "clear", "()V"⟩
abbrev cX9_copyFrom : ByteArray := prog_11_method_3_code
def yX9_copyFrom : MethodName := ⟨RX9, "copyFrom", "(LFootQuarrel$Years;)V"⟩
def RX10 : String := "FootQuarrel$YearsText"
def TX10 : u_T := fun k => match k with
  | 0 => ("FootQuarrel$YearsText", "reader", "LFootQuarrel$Reader;", true)
  | 1 => ("FootQuarrel$YearsText", "street", "LFootQuarrel$Street;", true)
  | 2 => ("FootQuarrel$YearsText", "years", "LFootQuarrel$Years;", true)
  | 3 => ("FootQuarrel$YearsText", "open", "[I", true)
  | _ => ("FootQuarrel$YearsText", "openCount", "I", false)
def tyX10 : Nat → FieldType := fun k => match k with
  | 0 => .object "FootQuarrel$Reader"
  | 1 => .object "FootQuarrel$Street"
  | 2 => .object "FootQuarrel$Years"
  | 3 => .array .int
  | _ => .int
abbrev wsX100 : List Cond := u_ws RX10 TX10 5
theorem nmX10 : ∀ a, a < 5 → ∀ b, b < 5 → a ≠ b → (TX10 a).2.1 ≠ (TX10 b).2.1 := by decide +kernel
theorem tyX10_ok : ∀ k, k < 5 → parseFieldDescriptor (TX10 k).2.2.1 = some (tyX10 k) := by decide +kernel
abbrev cX10_init : ByteArray := prog_12_method_1_code
def yX10_init : MethodName := ⟨RX10, "<init>", "(LFootQuarrel$Reader;LFootQuarrel$Street;LFootQuarrel$Years;)V"⟩
abbrev cX10_take : ByteArray := prog_12_method_2_code
def yX10_take : MethodName := ⟨RX10, "take", "(I)Z"⟩
abbrev cX10_takeEnd : ByteArray := prog_12_method_3_code
def yX10_takeEnd : MethodName := ⟨RX10, "takeEnd", "()Z"⟩
abbrev cX10_mayBegin : ByteArray := prog_12_method_4_code
def yX10_mayBegin : MethodName := ⟨RX10, "mayBegin", "(I)Z"⟩
abbrev cX10_takeStep : ByteArray := prog_12_method_5_code
def yX10_takeStep : MethodName := ⟨RX10, "takeStep", "(I)Z"⟩
abbrev cX10_beginPart : ByteArray := prog_12_method_6_code
def yX10_beginPart : MethodName := ⟨RX10, "beginPart", "(I)V"⟩
abbrev cX10_takeSpeakers : ByteArray := prog_12_method_7_code
def yX10_takeSpeakers : MethodName := ⟨RX10, "takeSpeakers", "(I)Z"⟩
abbrev cX10_takeTest : ByteArray := prog_12_method_8_code
def yX10_takeTest : MethodName := ⟨RX10, "takeTest", "(I)Z"⟩
def RX11 : String := "FootQuarrel"
def TX11 : u_T := fun k => match k with
  | 0 => ("FootQuarrel", "trays", "[LFootQuarrel$Tray;", true)
  | 1 => ("FootQuarrel", "tape", "[B", true)
  | 2 => ("FootQuarrel", "reader", "LFootQuarrel$Reader;", true)
  | 3 => ("FootQuarrel", "marks", "[LFootQuarrel$Street;", true)
  | 4 => ("FootQuarrel", "life", "LFootQuarrel$Life;", true)
  | 5 => ("FootQuarrel", "trial", "LFootQuarrel$Life;", true)
  | 6 => ("FootQuarrel", "street", "LFootQuarrel$Street;", false)
  | 7 => ("FootQuarrel", "spare", "LFootQuarrel$Street;", false)
  | 8 => ("FootQuarrel", "tapeLength", "I", false)
  | 9 => ("FootQuarrel", "markCount", "I", false)
  | 10 => ("FootQuarrel", "status", "I", false)
  | 11 => ("FootQuarrel", "faultKind", "I", false)
  | 12 => ("FootQuarrel", "faultPlace", "I", false)
  | 13 => ("FootQuarrel", "top", "J", false)
  | _ => ("FootQuarrel", "bottom", "J", false)
def tyX11 : Nat → FieldType := fun k => match k with
  | 0 => .array (.object "FootQuarrel$Tray")
  | 1 => .array .byte
  | 2 => .object "FootQuarrel$Reader"
  | 3 => .array (.object "FootQuarrel$Street")
  | 4 => .object "FootQuarrel$Life"
  | 5 => .object "FootQuarrel$Life"
  | 6 => .object "FootQuarrel$Street"
  | 7 => .object "FootQuarrel$Street"
  | 8 => .int
  | 9 => .int
  | 10 => .int
  | 11 => .int
  | 12 => .int
  | 13 => .long
  | _ => .long
abbrev wsX110 : List Cond := u_ws RX11 TX11 15
theorem nmX11 : ∀ a, a < 15 → ∀ b, b < 15 → a ≠ b → (TX11 a).2.1 ≠ (TX11 b).2.1 := by decide +kernel
theorem tyX11_ok : ∀ k, k < 15 → parseFieldDescriptor (TX11 k).2.2.1 = some (tyX11 k) := by decide +kernel
abbrev cX11_init : ByteArray := prog_1_method_1_code
def yX11_init : MethodName := ⟨RX11, "<init>", "()V"⟩
abbrev cX11_status : ByteArray := prog_1_method_2_code
def yX11_status : MethodName := ⟨RX11, "status", "()I"⟩
abbrev cX11_top : ByteArray := prog_1_method_3_code
def yX11_top : MethodName := ⟨RX11, "top", "()J"⟩
abbrev cX11_bottom : ByteArray := prog_1_method_4_code
def yX11_bottom : MethodName := ⟨RX11, "bottom", "()J"⟩
abbrev cX11_tray : ByteArray := prog_1_method_5_code
def yX11_tray : MethodName := ⟨RX11, "tray", "(III)Z"⟩
abbrev cX11_write : ByteArray := prog_1_method_6_code
def yX11_write : MethodName := ⟨RX11, "write", "(IIJ)Z"⟩
abbrev cX11_read : ByteArray := prog_1_method_7_code
def yX11_read : MethodName := ⟨RX11, "read", "(II)J"⟩
abbrev cX11_pour : ByteArray := prog_1_method_8_code
def yX11_pour : MethodName := ⟨RX11, "pour", "(IIIII)Z"⟩
abbrev cX11_feed : ByteArray := prog_1_method_9_code
def yX11_feed : MethodName := ⟨RX11, "feed", "(IIIII)I"⟩
abbrev cX11_street : ByteArray := prog_1_method_10_code
def yX11_street : MethodName := ⟨RX11, "street", "(I)I"⟩
abbrev cX11_years : ByteArray := prog_1_method_11_code
def yX11_years : MethodName := ⟨RX11, "years", "(I)I"⟩
abbrev cX11_fault : ByteArray := prog_1_method_12_code
def yX11_fault : MethodName := ⟨RX11, "fault", "(I)I"⟩
abbrev cX11_told : ByteArray := prog_1_method_13_code
def yX11_told : MethodName := ⟨RX11, "told", "(I)I"⟩
abbrev cX11_house : ByteArray := prog_1_method_14_code
def yX11_house : MethodName := ⟨RX11, "house", "(II)I"⟩
abbrev cX11_wall : ByteArray := prog_1_method_15_code
def yX11_wall : MethodName := ⟨RX11, "wall", "(I)I"⟩
abbrev cX11_person : ByteArray := prog_1_method_16_code
def yX11_person : MethodName := ⟨RX11, "person", "(II)I"⟩
abbrev cX11_quarrel : ByteArray := prog_1_method_17_code
def yX11_quarrel : MethodName := ⟨RX11, "quarrel", "(II)I"⟩
abbrev cX11_near : ByteArray := prog_1_method_18_code
def yX11_near : MethodName := ⟨RX11, "near", "(II)I"⟩
abbrev cX11_neighbours : ByteArray := prog_1_method_19_code
def yX11_neighbours : MethodName := ⟨RX11, "neighbours", "(I)I"⟩
abbrev cX11_say : ByteArray := prog_1_method_20_code
def yX11_say : MethodName := ⟨RX11, "say", "(II)I"⟩
abbrev cX11_sorry : ByteArray := prog_1_method_21_code
def yX11_sorry : MethodName := site_914
abbrev cX11_night : ByteArray := prog_1_method_22_code
def yX11_night : MethodName := ⟨RX11, "night", "(I)I"⟩
abbrev cX11_rain : ByteArray := prog_1_method_23_code
def yX11_rain : MethodName := ⟨RX11, "rain", "(Z)Z"⟩
abbrev cX11_peace : ByteArray := prog_1_method_24_code
def yX11_peace : MethodName := ⟨RX11, "peace", "(IZ)Z"⟩
abbrev cX11_move : ByteArray := prog_1_method_25_code
def yX11_move : MethodName := ⟨RX11, "move", "(II)I"⟩
abbrev cX11_change : ByteArray := prog_1_method_26_code
def yX11_change : MethodName := ⟨RX11, "change", "(III)Z"⟩
abbrev cX11_rule : ByteArray := prog_1_method_27_code
def yX11_rule : MethodName := ⟨RX11, "rule", "(I)Z"⟩
abbrev cX11_survey : ByteArray := prog_1_method_28_code
def yX11_survey : MethodName := ⟨RX11, "survey", "(I)I"⟩
abbrev cX11_soothe : ByteArray := prog_1_method_29_code
def yX11_soothe : MethodName := ⟨RX11, "soothe", "(I)I"⟩
abbrev cX11_loud : ByteArray := prog_1_method_30_code
def yX11_loud : MethodName := ⟨RX11, "loud", "(I)I"⟩
abbrev cX11_hears : ByteArray := prog_1_method_31_code
def yX11_hears : MethodName := ⟨RX11, "hears", "(II)I"⟩
abbrev cX11_heardBy : ByteArray := prog_1_method_32_code
def yX11_heardBy : MethodName := ⟨RX11, "heardBy", "(I)I"⟩
abbrev cX11_shoutsBy : ByteArray := prog_1_method_33_code
def yX11_shoutsBy : MethodName := ⟨RX11, "shoutsBy", "(II)I"⟩
abbrev cX11_gainBy : ByteArray := prog_1_method_34_code
def yX11_gainBy : MethodName := ⟨RX11, "gainBy", "(II)I"⟩
abbrev cX11_bestTo : ByteArray := prog_1_method_35_code
def yX11_bestTo : MethodName := ⟨RX11, "bestTo", "(I)I"⟩
abbrev cX11_dangers : ByteArray := prog_1_method_36_code
def yX11_dangers : MethodName := ⟨RX11, "dangers", "(I)I"⟩
abbrev cX11_quiet : ByteArray := prog_1_method_37_code
def yX11_quiet : MethodName := ⟨RX11, "quiet", "(I)I"⟩
abbrev cX11_bait : ByteArray := prog_1_method_38_code
def yX11_bait : MethodName := ⟨RX11, "bait", "(II)I"⟩
abbrev cX11_leastVoice : ByteArray := prog_1_method_39_code
def yX11_leastVoice : MethodName := ⟨RX11, "leastVoice", "(II)I"⟩
abbrev cX11_angerIn : ByteArray := prog_1_method_40_code
def yX11_angerIn : MethodName := ⟨RX11, "angerIn", "(II)I"⟩
abbrev cX11_calmIn : ByteArray := prog_1_method_41_code
def yX11_calmIn : MethodName := ⟨RX11, "calmIn", "()I"⟩
abbrev cX11_hire : ByteArray := prog_1_method_42_code
def yX11_hire : MethodName := ⟨RX11, "hire", "(I)I"⟩
abbrev cX11_hireSet : ByteArray := prog_1_method_43_code
def yX11_hireSet : MethodName := ⟨RX11, "hireSet", "(I)I"⟩
abbrev cX11_game : ByteArray := prog_1_method_44_code
def yX11_game : MethodName := ⟨RX11, "game", "(III)I"⟩
abbrev cX11_moveOf : ByteArray := prog_1_method_45_code
def yX11_moveOf : MethodName := ⟨RX11, "moveOf", "(III)I"⟩
abbrev cX11_widest : ByteArray := prog_1_method_46_code
def yX11_widest : MethodName := ⟨RX11, "widest", "()I"⟩
abbrev cX11_loser : ByteArray := prog_1_method_47_code
def yX11_loser : MethodName := ⟨RX11, "loser", "()I"⟩
abbrev cX11_loudest : ByteArray := prog_1_method_48_code
def yX11_loudest : MethodName := ⟨RX11, "loudest", "()I"⟩
abbrev cX11_share : ByteArray := prog_1_method_49_code
def yX11_share : MethodName := ⟨RX11, "share", "(I)Z"⟩
abbrev cX11_began : ByteArray := prog_1_method_50_code
def yX11_began : MethodName := ⟨RX11, "began", "(I)I"⟩
abbrev cX11_quarrelsAt : ByteArray := prog_1_method_51_code
def yX11_quarrelsAt : MethodName := ⟨RX11, "quarrelsAt", "(I)I"⟩
abbrev cX11_ways : ByteArray := prog_1_method_52_code
def yX11_ways : MethodName := ⟨RX11, "ways", "(II)J"⟩
abbrev cX11_fewest : ByteArray := prog_1_method_53_code
def yX11_fewest : MethodName := ⟨RX11, "fewest", "(II)I"⟩
abbrev cX11_blame : ByteArray := prog_1_method_54_code
def yX11_blame : MethodName := ⟨RX11, "blame", "(II)J"⟩
abbrev cX11_copyWalls : ByteArray := prog_1_method_55_code
def yX11_copyWalls : MethodName := ⟨RX11, "copyWalls", "(I)I"⟩
abbrev cX11_wet : ByteArray := prog_1_method_56_code
def yX11_wet : MethodName := ⟨RX11, "wet", "(II)Z"⟩
abbrev cX11_live : ByteArray := prog_1_method_57_code
def yX11_live : MethodName := ⟨RX11, "live", "(I)I"⟩
abbrev cX11_lived : ByteArray := prog_1_method_58_code
def yX11_lived : MethodName := ⟨RX11, "lived", "(I)I"⟩
abbrev cX11_mean : ByteArray := prog_1_method_59_code
def yX11_mean : MethodName := ⟨RX11, "mean", "(III)Z"⟩
abbrev cX11_mark : ByteArray := prog_1_method_60_code
def yX11_mark : MethodName := ⟨RX11, "mark", "()I"⟩
abbrev cX11_undo : ByteArray := prog_1_method_61_code
def yX11_undo : MethodName := ⟨RX11, "undo", "()I"⟩
abbrev cX11_answer : ByteArray := prog_1_method_62_code
def yX11_answer : MethodName := ⟨RX11, "answer", "(I)I"⟩
abbrev cX11_refuse : ByteArray := prog_1_method_63_code
def yX11_refuse : MethodName := ⟨RX11, "refuse", "(I)I"⟩
abbrev cX11_grant : ByteArray := prog_1_method_64_code
def yX11_grant : MethodName := ⟨RX11, "grant", "()Z"⟩
abbrev cX11_deny : ByteArray := prog_1_method_65_code
def yX11_deny : MethodName := ⟨RX11, "deny", "(I)Z"⟩
abbrev cX11_isWithin : ByteArray := prog_1_method_66_code
def yX11_isWithin : MethodName := ⟨RX11, "isWithin", "(III)Z"⟩
abbrev cX11_oneIf : ByteArray := prog_1_method_67_code
def yX11_oneIf : MethodName := ⟨RX11, "oneIf", "(Z)I"⟩
abbrev cX11_isTray : ByteArray := prog_1_method_68_code
def yX11_isTray : MethodName := ⟨RX11, "isTray", "(I)Z"⟩
abbrev cX11_isHouse : ByteArray := prog_1_method_69_code
def yX11_isHouse : MethodName := ⟨RX11, "isHouse", "(I)Z"⟩
abbrev cX11_isWall : ByteArray := prog_1_method_70_code
def yX11_isWall : MethodName := ⟨RX11, "isWall", "(I)Z"⟩
abbrev cX11_isPerson : ByteArray := prog_1_method_71_code
def yX11_isPerson : MethodName := ⟨RX11, "isPerson", "(I)Z"⟩
abbrev cX11_areTwo : ByteArray := prog_1_method_72_code
def yX11_areTwo : MethodName := ⟨RX11, "areTwo", "(II)Z"⟩
abbrev cX11_pairStatus : ByteArray := prog_1_method_73_code
def yX11_pairStatus : MethodName := ⟨RX11, "pairStatus", "(II)I"⟩
abbrev cX11_gameStatus : ByteArray := prog_1_method_74_code
def yX11_gameStatus : MethodName := ⟨RX11, "gameStatus", "(IIII)I"⟩
abbrev cX11_cellStatus : ByteArray := prog_1_method_75_code
def yX11_cellStatus : MethodName := ⟨RX11, "cellStatus", "(II)I"⟩
abbrev cX11_placesStatus : ByteArray := prog_1_method_76_code
def yX11_placesStatus : MethodName := ⟨RX11, "placesStatus", "(II)I"⟩
abbrev cX11_shoutsBetween : ByteArray := prog_1_method_77_code
def yX11_shoutsBetween : MethodName := ⟨RX11, "shoutsBetween", "(LFootQuarrel$Tray;I)I"⟩
abbrev cX11_rowsFor : ByteArray := prog_1_method_78_code
def yX11_rowsFor : MethodName := ⟨RX11, "rowsFor", "(I)J"⟩
abbrev cX11_leftFirstFor : ByteArray := prog_1_method_79_code
def yX11_leftFirstFor : MethodName := ⟨RX11, "leftFirstFor", "(I)J"⟩
abbrev cX11_bestPlay : ByteArray := prog_1_method_80_code
def yX11_bestPlay : MethodName := ⟨RX11, "bestPlay", "(LFootQuarrel$Spat;II)I"⟩
abbrev cX11_feedOne : ByteArray := prog_1_method_81_code
def yX11_feedOne : MethodName := ⟨RX11, "feedOne", "(I)V"⟩
abbrev cX11_endText : ByteArray := prog_1_method_82_code
def yX11_endText : MethodName := ⟨RX11, "endText", "()V"⟩
abbrev cX11_tellFraction : ByteArray := prog_1_method_83_code
def yX11_tellFraction : MethodName := ⟨RX11, "tellFraction", "(JJ)V"⟩
abbrev cX11_commonDivisor : ByteArray := prog_1_method_84_code
def yX11_commonDivisor : MethodName := ⟨RX11, "commonDivisor", "(JJ)J"⟩
abbrev cX11_power : ByteArray := prog_1_method_85_code
def yX11_power : MethodName := ⟨RX11, "power", "(II)J"⟩
def RX12 : String := "FootQuarrelModel"
def TX12 : u_T := fun k => match k with
  | 0 => ("FootQuarrelModel", "at", "[I", true)
  | 1 => ("FootQuarrelModel", "names", "[J", true)
  | 2 => ("FootQuarrelModel", "status", "I", false)
  | 3 => ("FootQuarrelModel", "top", "J", false)
  | 4 => ("FootQuarrelModel", "bottom", "J", false)
  | 5 => ("FootQuarrelModel", "sort", "[I", true)
  | 6 => ("FootQuarrelModel", "trayMany", "[I", true)
  | 7 => ("FootQuarrelModel", "trays", "[J", true)
  | 8 => ("FootQuarrelModel", "tape", "[B", true)
  | 9 => ("FootQuarrelModel", "text", "[B", true)
  | 10 => ("FootQuarrelModel", "taped", "I", false)
  | 11 => ("FootQuarrelModel", "size", "I", false)
  | 12 => ("FootQuarrelModel", "token", "I", false)
  | 13 => ("FootQuarrelModel", "from", "I", false)
  | 14 => ("FootQuarrelModel", "end", "I", false)
  | 15 => ("FootQuarrelModel", "value", "I", false)
  | 16 => ("FootQuarrelModel", "faultKind", "I", false)
  | 17 => ("FootQuarrelModel", "faultPlace", "I", false)
  | 18 => ("FootQuarrelModel", "faults", "I", false)
  | 19 => ("FootQuarrelModel", "seen", "I", false)
  | 20 => ("FootQuarrelModel", "toldParts", "I", false)
  | 21 => ("FootQuarrelModel", "opened", "[I", true)
  | 22 => ("FootQuarrelModel", "depth", "I", false)
  | 23 => ("FootQuarrelModel", "counted", "I", false)
  | 24 => ("FootQuarrelModel", "feetWon", "I", false)
  | 25 => ("FootQuarrelModel", "tried", "[I", true)
  | 26 => ("FootQuarrelModel", "comes", "[I", true)
  | 27 => ("FootQuarrelModel", "triedFirst", "I", false)
  | 28 => ("FootQuarrelModel", "rainyBy", "[J", true)
  | 29 => ("FootQuarrelModel", "drawn", "I", false)
  | 30 => ("FootQuarrelModel", "ranSteps", "I", false)
  | 31 => ("FootQuarrelModel", "loops", "[I", true)
  | 32 => ("FootQuarrelModel", "ran", "[I", true)
  | 33 => ("FootQuarrelModel", "told1", "[I", true)
  | 34 => ("FootQuarrelModel", "isTold", "Z", false)
  | _ => ("FootQuarrelModel", "marks", "I", false)
def tyX12 : Nat → FieldType := fun k => match k with
  | 0 => .array .int
  | 1 => .array .long
  | 2 => .int
  | 3 => .long
  | 4 => .long
  | 5 => .array .int
  | 6 => .array .int
  | 7 => .array .long
  | 8 => .array .byte
  | 9 => .array .byte
  | 10 => .int
  | 11 => .int
  | 12 => .int
  | 13 => .int
  | 14 => .int
  | 15 => .int
  | 16 => .int
  | 17 => .int
  | 18 => .int
  | 19 => .int
  | 20 => .int
  | 21 => .array .int
  | 22 => .int
  | 23 => .int
  | 24 => .int
  | 25 => .array .int
  | 26 => .array .int
  | 27 => .int
  | 28 => .array .long
  | 29 => .int
  | 30 => .int
  | 31 => .array .int
  | 32 => .array .int
  | 33 => .array .int
  | 34 => .boolean
  | _ => .int
abbrev wsX120 : List Cond := u_ws RX12 TX12 36
theorem nmX12 : ∀ a, a < 36 → ∀ b, b < 36 → a ≠ b → (TX12 a).2.1 ≠ (TX12 b).2.1 := by decide +kernel
theorem tyX12_ok : ∀ k, k < 36 → parseFieldDescriptor (TX12 k).2.2.1 = some (tyX12 k) := by decide +kernel
abbrev cX12_init : ByteArray := prog_14_method_1_code
def yX12_init : MethodName := ⟨RX12, "<init>", "()V"⟩
abbrev cX12_plain : ByteArray := prog_14_method_2_code
def yX12_plain : MethodName := ⟨RX12, "plain", "(I)V"⟩
abbrev cX12_status : ByteArray := prog_14_method_3_code
def yX12_status : MethodName := ⟨RX12, "status", "()I"⟩
abbrev cX12_top : ByteArray := prog_14_method_4_code
def yX12_top : MethodName := ⟨RX12, "top", "()J"⟩
abbrev cX12_bottom : ByteArray := prog_14_method_5_code
def yX12_bottom : MethodName := ⟨RX12, "bottom", "()J"⟩
abbrev cX12_is : ByteArray := prog_14_method_6_code
def yX12_is : MethodName := ⟨RX12, "is", "(I)Z"⟩
abbrev cX12_refuse : ByteArray := prog_14_method_7_code
def yX12_refuse : MethodName := ⟨RX12, "refuse", "(I)I"⟩
abbrev cX12_gives : ByteArray := prog_14_method_8_code
def yX12_gives : MethodName := ⟨RX12, "gives", "(I)I"⟩
abbrev cX12_orNone : ByteArray := prog_14_method_9_code
def yX12_orNone : MethodName := ⟨RX12, "orNone", "(I)I"⟩
abbrev cX12_tellsBy : ByteArray := prog_14_method_10_code
def yX12_tellsBy : MethodName := ⟨RX12, "tellsBy", "(JJ)Z"⟩
abbrev cX12_isTray : ByteArray := prog_14_method_11_code
def yX12_isTray : MethodName := ⟨RX12, "isTray", "(I)Z"⟩
abbrev cX12_cut : ByteArray := prog_14_method_12_code
def yX12_cut : MethodName := ⟨RX12, "cut", "(JI)J"⟩
abbrev cX12_tray : ByteArray := prog_14_method_13_code
def yX12_tray : MethodName := ⟨RX12, "tray", "(III)Z"⟩
abbrev cX12_wrongPlace : ByteArray := prog_14_method_14_code
def yX12_wrongPlace : MethodName := ⟨RX12, "wrongPlace", "(II)I"⟩
abbrev cX12_write : ByteArray := prog_14_method_15_code
def yX12_write : MethodName := ⟨RX12, "write", "(IIJ)Z"⟩
abbrev cX12_read : ByteArray := prog_14_method_16_code
def yX12_read : MethodName := ⟨RX12, "read", "(II)J"⟩
abbrev cX12_pour : ByteArray := prog_14_method_17_code
def yX12_pour : MethodName := ⟨RX12, "pour", "(IIIII)Z"⟩
abbrev cX12_isFrom : ByteArray := prog_14_method_18_code
def yX12_isFrom : MethodName := ⟨RX12, "isFrom", "(JJJ)Z"⟩
abbrev cX12_feed : ByteArray := prog_14_method_19_code
def yX12_feed : MethodName := ⟨RX12, "feed", "(IIIII)I"⟩
abbrev cX12_four : ByteArray := prog_14_method_20_code
def yX12_four : MethodName := ⟨RX12, "four", "(I)V"⟩
abbrev cX12_byteAt : ByteArray := prog_14_method_21_code
def yX12_byteAt : MethodName := ⟨RX12, "byteAt", "(I)I"⟩
abbrev cX12_isSmall : ByteArray := prog_14_method_22_code
def yX12_isSmall : MethodName := ⟨RX12, "isSmall", "(I)Z"⟩
abbrev cX12_isDigit : ByteArray := prog_14_method_23_code
def yX12_isDigit : MethodName := ⟨RX12, "isDigit", "(I)Z"⟩
abbrev cX12_ahead : ByteArray := prog_14_method_24_code
def yX12_ahead : MethodName := ⟨RX12, "ahead", "()V"⟩
abbrev cX12_isSign : ByteArray := prog_14_method_25_code
def yX12_isSign : MethodName := ⟨RX12, "isSign", "(I)Z"⟩
abbrev cX12_inWords : ByteArray := prog_14_method_26_code
def yX12_inWords : MethodName := ⟨RX12, "inWords", "(Ljava/lang/String;)I"⟩
abbrev cX12_fails : ByteArray := prog_14_method_27_code
def yX12_fails : MethodName := ⟨RX12, "fails", "(I)Z"⟩
abbrev cX12_begins : ByteArray := prog_14_method_28_code
def yX12_begins : MethodName := ⟨RX12, "begins", "(II)Z"⟩
abbrev cX12_wantSign : ByteArray := prog_14_method_29_code
def yX12_wantSign : MethodName := ⟨RX12, "wantSign", "(I)Z"⟩
abbrev cX12_wantWord : ByteArray := prog_14_method_30_code
def yX12_wantWord : MethodName := ⟨RX12, "wantWord", "(Ljava/lang/String;I)Z"⟩
abbrev cX12_number : ByteArray := prog_14_method_31_code
def yX12_number : MethodName := ⟨RX12, "number", "(III)Z"⟩
abbrev cX12_isName : ByteArray := prog_14_method_32_code
def yX12_isName : MethodName := ⟨RX12, "isName", "(Ljava/lang/String;)Z"⟩
abbrev cX12_nameHere : ByteArray := prog_14_method_33_code
def yX12_nameHere : MethodName := ⟨RX12, "nameHere", "()J"⟩
abbrev cX12_findHere : ByteArray := prog_14_method_34_code
def yX12_findHere : MethodName := ⟨RX12, "findHere", "(II)I"⟩
abbrev cX12_fault : ByteArray := prog_14_method_35_code
def yX12_fault : MethodName := ⟨RX12, "fault", "(I)I"⟩
abbrev cX12_taken : ByteArray := prog_14_method_36_code
def yX12_taken : MethodName := ⟨RX12, "taken", "(I)I"⟩
abbrev cX12_isThere : ByteArray := prog_14_method_37_code
def yX12_isThere : MethodName := ⟨RX12, "isThere", "(I)Z"⟩
abbrev cX12_newOne : ByteArray := prog_14_method_38_code
def yX12_newOne : MethodName := ⟨RX12, "newOne", "(III)Z"⟩
abbrev cX12_houseTo : ByteArray := prog_14_method_39_code
def yX12_houseTo : MethodName := ⟨RX12, "houseTo", "(I)Z"⟩
abbrev cX12_aHouse : ByteArray := prog_14_method_40_code
def yX12_aHouse : MethodName := ⟨RX12, "aHouse", "()Z"⟩
abbrev cX12_aPerson : ByteArray := prog_14_method_41_code
def yX12_aPerson : MethodName := ⟨RX12, "aPerson", "()Z"⟩
abbrev cX12_aPeace : ByteArray := prog_14_method_42_code
def yX12_aPeace : MethodName := ⟨RX12, "aPeace", "()Z"⟩
abbrev cX12_streetPart : ByteArray := prog_14_method_43_code
def yX12_streetPart : MethodName := ⟨RX12, "streetPart", "()Z"⟩
abbrev cX12_street : ByteArray := prog_14_method_44_code
def yX12_street : MethodName := ⟨RX12, "street", "(I)I"⟩
abbrev cX12_oldOne : ByteArray := prog_14_method_45_code
def yX12_oldOne : MethodName := ⟨RX12, "oldOne", "(III)Z"⟩
abbrev cX12_oldPerson : ByteArray := prog_14_method_46_code
def yX12_oldPerson : MethodName := ⟨RX12, "oldPerson", "(I)Z"⟩
abbrev cX12_test : ByteArray := prog_14_method_47_code
def yX12_test : MethodName := ⟨RX12, "test", "(I)Z"⟩
abbrev cX12_yearOrder : ByteArray := prog_14_method_48_code
def yX12_yearOrder : MethodName := ⟨RX12, "yearOrder", "(II)Z"⟩
abbrev cX12_yearStep : ByteArray := prog_14_method_49_code
def yX12_yearStep : MethodName := ⟨RX12, "yearStep", "()Z"⟩
abbrev cX12_years : ByteArray := prog_14_method_50_code
def yX12_years : MethodName := ⟨RX12, "years", "(I)I"⟩
abbrev cX12_houseRow : ByteArray := prog_14_method_51_code
def yX12_houseRow : MethodName := ⟨RX12, "houseRow", "(I)I"⟩
abbrev cX12_personRow : ByteArray := prog_14_method_52_code
def yX12_personRow : MethodName := ⟨RX12, "personRow", "(I)I"⟩
abbrev cX12_quarrelRow : ByteArray := prog_14_method_53_code
def yX12_quarrelRow : MethodName := ⟨RX12, "quarrelRow", "(I)I"⟩
abbrev cX12_isHouse : ByteArray := prog_14_method_54_code
def yX12_isHouse : MethodName := ⟨RX12, "isHouse", "(I)Z"⟩
abbrev cX12_isWall : ByteArray := prog_14_method_55_code
def yX12_isWall : MethodName := ⟨RX12, "isWall", "(I)Z"⟩
abbrev cX12_isPerson : ByteArray := prog_14_method_56_code
def yX12_isPerson : MethodName := ⟨RX12, "isPerson", "(I)Z"⟩
abbrev cX12_areTwo : ByteArray := prog_14_method_57_code
def yX12_areTwo : MethodName := ⟨RX12, "areTwo", "(II)Z"⟩
abbrev cX12_isIn : ByteArray := prog_14_method_58_code
def yX12_isIn : MethodName := ⟨RX12, "isIn", "(II)Z"⟩
abbrev cX12_bits : ByteArray := prog_14_method_59_code
def yX12_bits : MethodName := ⟨RX12, "bits", "(I)I"⟩
abbrev cX12_wideOf : ByteArray := prog_14_method_60_code
def yX12_wideOf : MethodName := ⟨RX12, "wideOf", "(I)I"⟩
abbrev cX12_personOf : ByteArray := prog_14_method_61_code
def yX12_personOf : MethodName := ⟨RX12, "personOf", "(II)I"⟩
abbrev cX12_homeOf : ByteArray := prog_14_method_62_code
def yX12_homeOf : MethodName := ⟨RX12, "homeOf", "(I)I"⟩
abbrev cX12_areNear : ByteArray := prog_14_method_63_code
def yX12_areNear : MethodName := ⟨RX12, "areNear", "(II)Z"⟩
abbrev cX12_setOf : ByteArray := prog_14_method_64_code
def yX12_setOf : MethodName := ⟨RX12, "setOf", "(I)I"⟩
abbrev cX12_told : ByteArray := prog_14_method_65_code
def yX12_told : MethodName := ⟨RX12, "told", "(I)I"⟩
abbrev cX12_peopleIn : ByteArray := prog_14_method_66_code
def yX12_peopleIn : MethodName := ⟨RX12, "peopleIn", "(I)I"⟩
abbrev cX12_house : ByteArray := prog_14_method_67_code
def yX12_house : MethodName := ⟨RX12, "house", "(II)I"⟩
abbrev cX12_placeOf : ByteArray := prog_14_method_68_code
def yX12_placeOf : MethodName := ⟨RX12, "placeOf", "(II)I"⟩
abbrev cX12_wall : ByteArray := prog_14_method_69_code
def yX12_wall : MethodName := ⟨RX12, "wall", "(I)I"⟩
abbrev cX12_person : ByteArray := prog_14_method_70_code
def yX12_person : MethodName := ⟨RX12, "person", "(II)I"⟩
abbrev cX12_isQuarrel : ByteArray := prog_14_method_71_code
def yX12_isQuarrel : MethodName := ⟨RX12, "isQuarrel", "(I)Z"⟩
abbrev cX12_quarrel : ByteArray := prog_14_method_72_code
def yX12_quarrel : MethodName := ⟨RX12, "quarrel", "(II)I"⟩
abbrev cX12_near : ByteArray := prog_14_method_73_code
def yX12_near : MethodName := ⟨RX12, "near", "(II)I"⟩
abbrev cX12_nearTo : ByteArray := prog_14_method_74_code
def yX12_nearTo : MethodName := ⟨RX12, "nearTo", "(I)I"⟩
abbrev cX12_neighbours : ByteArray := prog_14_method_75_code
def yX12_neighbours : MethodName := ⟨RX12, "neighbours", "(I)I"⟩
abbrev cX12_loudBy : ByteArray := prog_14_method_76_code
def yX12_loudBy : MethodName := ⟨RX12, "loudBy", "(I)I"⟩
abbrev cX12_doesHear : ByteArray := prog_14_method_77_code
def yX12_doesHear : MethodName := ⟨RX12, "doesHear", "(II)Z"⟩
abbrev cX12_shouts : ByteArray := prog_14_method_78_code
def yX12_shouts : MethodName := ⟨RX12, "shouts", "(II)Z"⟩
abbrev cX12_goesInto : ByteArray := prog_14_method_79_code
def yX12_goesInto : MethodName := ⟨RX12, "goesInto", "(III)I"⟩
abbrev cX12_keepsQuarrel : ByteArray := prog_14_method_80_code
def yX12_keepsQuarrel : MethodName := ⟨RX12, "keepsQuarrel", "(IIII)V"⟩
abbrev cX12_says : ByteArray := prog_14_method_81_code
def yX12_says : MethodName := ⟨RX12, "says", "(II)I"⟩
abbrev cX12_say : ByteArray := prog_14_method_82_code
def yX12_say : MethodName := ⟨RX12, "say", "(II)I"⟩
abbrev cX12_canHalve : ByteArray := prog_14_method_83_code
def yX12_canHalve : MethodName := ⟨RX12, "canHalve", "(I)Z"⟩
abbrev cX12_halves : ByteArray := prog_14_method_84_code
def yX12_halves : MethodName := ⟨RX12, "halves", "(I)I"⟩
abbrev cX12_sorry : ByteArray := prog_14_method_85_code
def yX12_sorry : MethodName := site_923
abbrev cX12_nightFalls : ByteArray := prog_14_method_86_code
def yX12_nightFalls : MethodName := ⟨RX12, "nightFalls", "()V"⟩
abbrev cX12_nights : ByteArray := prog_14_method_87_code
def yX12_nights : MethodName := ⟨RX12, "nights", "(I)V"⟩
abbrev cX12_night : ByteArray := prog_14_method_88_code
def yX12_night : MethodName := ⟨RX12, "night", "(I)I"⟩
abbrev cX12_isWeather : ByteArray := prog_14_method_89_code
def yX12_isWeather : MethodName := ⟨RX12, "isWeather", "(I)Z"⟩
abbrev cX12_rain : ByteArray := prog_14_method_90_code
def yX12_rain : MethodName := ⟨RX12, "rain", "(Z)Z"⟩
abbrev cX12_peace : ByteArray := prog_14_method_91_code
def yX12_peace : MethodName := ⟨RX12, "peace", "(IZ)Z"⟩
abbrev cX12_move : ByteArray := prog_14_method_92_code
def yX12_move : MethodName := ⟨RX12, "move", "(II)I"⟩
abbrev cX12_isChange : ByteArray := prog_14_method_93_code
def yX12_isChange : MethodName := ⟨RX12, "isChange", "(II)Z"⟩
abbrev cX12_change : ByteArray := prog_14_method_94_code
def yX12_change : MethodName := ⟨RX12, "change", "(III)Z"⟩
abbrev cX12_rule : ByteArray := prog_14_method_95_code
def yX12_rule : MethodName := ⟨RX12, "rule", "(I)Z"⟩
abbrev cX12_survey : ByteArray := prog_14_method_96_code
def yX12_survey : MethodName := ⟨RX12, "survey", "(I)I"⟩
abbrev cX12_soothe : ByteArray := prog_14_method_97_code
def yX12_soothe : MethodName := ⟨RX12, "soothe", "(I)I"⟩
abbrev cX12_keeps : ByteArray := prog_14_method_98_code
def yX12_keeps : MethodName := ⟨RX12, "keeps", "(I)V"⟩
abbrev cX12_restores : ByteArray := prog_14_method_99_code
def yX12_restores : MethodName := ⟨RX12, "restores", "(I)V"⟩
abbrev cX12_loud : ByteArray := prog_14_method_100_code
def yX12_loud : MethodName := ⟨RX12, "loud", "(I)I"⟩
abbrev cX12_hearsOf : ByteArray := prog_14_method_101_code
def yX12_hearsOf : MethodName := ⟨RX12, "hearsOf", "(II)Z"⟩
abbrev cX12_hears : ByteArray := prog_14_method_102_code
def yX12_hears : MethodName := ⟨RX12, "hears", "(II)I"⟩
abbrev cX12_heardBy : ByteArray := prog_14_method_103_code
def yX12_heardBy : MethodName := ⟨RX12, "heardBy", "(I)I"⟩
abbrev cX12_triesSaying : ByteArray := prog_14_method_104_code
def yX12_triesSaying : MethodName := ⟨RX12, "triesSaying", "(II)I"⟩
abbrev cX12_shoutsBy : ByteArray := prog_14_method_105_code
def yX12_shoutsBy : MethodName := ⟨RX12, "shoutsBy", "(II)I"⟩
abbrev cX12_gainBy : ByteArray := prog_14_method_106_code
def yX12_gainBy : MethodName := ⟨RX12, "gainBy", "(II)I"⟩
abbrev cX12_bestTo : ByteArray := prog_14_method_107_code
def yX12_bestTo : MethodName := ⟨RX12, "bestTo", "(I)I"⟩
abbrev cX12_dangers : ByteArray := prog_14_method_108_code
def yX12_dangers : MethodName := ⟨RX12, "dangers", "(I)I"⟩
abbrev cX12_quiet : ByteArray := prog_14_method_109_code
def yX12_quiet : MethodName := ⟨RX12, "quiet", "(I)I"⟩
abbrev cX12_bait : ByteArray := prog_14_method_110_code
def yX12_bait : MethodName := ⟨RX12, "bait", "(II)I"⟩
abbrev cX12_leastVoice : ByteArray := prog_14_method_111_code
def yX12_leastVoice : MethodName := ⟨RX12, "leastVoice", "(II)I"⟩
abbrev cX12_angerIn : ByteArray := prog_14_method_112_code
def yX12_angerIn : MethodName := ⟨RX12, "angerIn", "(II)I"⟩
abbrev cX12_calmIn : ByteArray := prog_14_method_113_code
def yX12_calmIn : MethodName := ⟨RX12, "calmIn", "()I"⟩
abbrev cX12_paysOf : ByteArray := prog_14_method_114_code
def yX12_paysOf : MethodName := ⟨RX12, "paysOf", "(I)I"⟩
abbrev cX12_doesShoutBy : ByteArray := prog_14_method_115_code
def yX12_doesShoutBy : MethodName := ⟨RX12, "doesShoutBy", "(II)Z"⟩
abbrev cX12_hiring : ByteArray := prog_14_method_116_code
def yX12_hiring : MethodName := ⟨RX12, "hiring", "(I)I"⟩
abbrev cX12_hire : ByteArray := prog_14_method_117_code
def yX12_hire : MethodName := ⟨RX12, "hire", "(I)I"⟩
abbrev cX12_hireSet : ByteArray := prog_14_method_118_code
def yX12_hireSet : MethodName := ⟨RX12, "hireSet", "(I)I"⟩
abbrev cX12_levelAt : ByteArray := prog_14_method_119_code
def yX12_levelAt : MethodName := ⟨RX12, "levelAt", "(I)I"⟩
abbrev cX12_weighs : ByteArray := prog_14_method_120_code
def yX12_weighs : MethodName := ⟨RX12, "weighs", "(II)V"⟩
abbrev cX12_playing : ByteArray := prog_14_method_121_code
def yX12_playing : MethodName := ⟨RX12, "playing", "(III)I"⟩
abbrev cX12_wrongGame : ByteArray := prog_14_method_122_code
def yX12_wrongGame : MethodName := ⟨RX12, "wrongGame", "(IIII)I"⟩
abbrev cX12_game : ByteArray := prog_14_method_123_code
def yX12_game : MethodName := ⟨RX12, "game", "(III)I"⟩
abbrev cX12_moveOf : ByteArray := prog_14_method_124_code
def yX12_moveOf : MethodName := ⟨RX12, "moveOf", "(III)I"⟩
abbrev cX12_widest : ByteArray := prog_14_method_125_code
def yX12_widest : MethodName := ⟨RX12, "widest", "()I"⟩
abbrev cX12_mostOf : ByteArray := prog_14_method_126_code
def yX12_mostOf : MethodName := ⟨RX12, "mostOf", "(III)I"⟩
abbrev cX12_loser : ByteArray := prog_14_method_127_code
def yX12_loser : MethodName := ⟨RX12, "loser", "()I"⟩
abbrev cX12_loudest : ByteArray := prog_14_method_128_code
def yX12_loudest : MethodName := ⟨RX12, "loudest", "()I"⟩
abbrev cX12_share : ByteArray := prog_14_method_129_code
def yX12_share : MethodName := ⟨RX12, "share", "(I)Z"⟩
abbrev cX12_began : ByteArray := prog_14_method_130_code
def yX12_began : MethodName := ⟨RX12, "began", "(I)I"⟩
abbrev cX12_quarrelsAt : ByteArray := prog_14_method_131_code
def yX12_quarrelsAt : MethodName := ⟨RX12, "quarrelsAt", "(I)I"⟩
abbrev cX12_wrongPlaces : ByteArray := prog_14_method_132_code
def yX12_wrongPlaces : MethodName := ⟨RX12, "wrongPlaces", "(II)I"⟩
abbrev cX12_shoutsTo : ByteArray := prog_14_method_133_code
def yX12_shoutsTo : MethodName := ⟨RX12, "shoutsTo", "(II)I"⟩
abbrev cX12_waysBy : ByteArray := prog_14_method_134_code
def yX12_waysBy : MethodName := ⟨RX12, "waysBy", "(I)I"⟩
abbrev cX12_leftBy : ByteArray := prog_14_method_135_code
def yX12_leftBy : MethodName := ⟨RX12, "leftBy", "(I)I"⟩
abbrev cX12_waysFrom : ByteArray := prog_14_method_136_code
def yX12_waysFrom : MethodName := ⟨RX12, "waysFrom", "(III)J"⟩
abbrev cX12_ways : ByteArray := prog_14_method_137_code
def yX12_ways : MethodName := ⟨RX12, "ways", "(II)J"⟩
abbrev cX12_fewest : ByteArray := prog_14_method_138_code
def yX12_fewest : MethodName := ⟨RX12, "fewest", "(II)I"⟩
abbrev cX12_blame : ByteArray := prog_14_method_139_code
def yX12_blame : MethodName := ⟨RX12, "blame", "(II)J"⟩
abbrev cX12_copyWalls : ByteArray := prog_14_method_140_code
def yX12_copyWalls : MethodName := ⟨RX12, "copyWalls", "(I)I"⟩
abbrev cX12_wet : ByteArray := prog_14_method_141_code
def yX12_wet : MethodName := ⟨RX12, "wet", "(II)Z"⟩
abbrev cX12_draw : ByteArray := prog_14_method_142_code
def yX12_draw : MethodName := ⟨RX12, "draw", "(I)I"⟩
abbrev cX12_saysBy : ByteArray := prog_14_method_143_code
def yX12_saysBy : MethodName := ⟨RX12, "saysBy", "(II)Z"⟩
abbrev cX12_sorries : ByteArray := prog_14_method_144_code
def yX12_sorries : MethodName := ⟨RX12, "sorries", "()Z"⟩
abbrev cX12_nightsBy : ByteArray := prog_14_method_145_code
def yX12_nightsBy : MethodName := ⟨RX12, "nightsBy", "(I)Z"⟩
abbrev cX12_saysAny : ByteArray := prog_14_method_146_code
def yX12_saysAny : MethodName := ⟨RX12, "saysAny", "()Z"⟩
abbrev cX12_does : ByteArray := prog_14_method_147_code
def yX12_does : MethodName := ⟨RX12, "does", "(I)Z"⟩
abbrev cX12_holds : ByteArray := prog_14_method_148_code
def yX12_holds : MethodName := ⟨RX12, "holds", "(I)Z"⟩
abbrev cX12_behindEnds : ByteArray := prog_14_method_149_code
def yX12_behindEnds : MethodName := ⟨RX12, "behindEnds", "(I)I"⟩
abbrev cX12_lives : ByteArray := prog_14_method_150_code
def yX12_lives : MethodName := ⟨RX12, "lives", "(I)V"⟩
abbrev cX12_live : ByteArray := prog_14_method_151_code
def yX12_live : MethodName := ⟨RX12, "live", "(I)I"⟩
abbrev cX12_lived : ByteArray := prog_14_method_152_code
def yX12_lived : MethodName := ⟨RX12, "lived", "(I)I"⟩
abbrev cX12_mean : ByteArray := prog_14_method_153_code
def yX12_mean : MethodName := ⟨RX12, "mean", "(III)Z"⟩
abbrev cX12_copies : ByteArray := prog_14_method_154_code
def yX12_copies : MethodName := ⟨RX12, "copies", "(II)V"⟩
abbrev cX12_mark : ByteArray := prog_14_method_155_code
def yX12_mark : MethodName := ⟨RX12, "mark", "()I"⟩
abbrev cX12_undo : ByteArray := prog_14_method_156_code
def yX12_undo : MethodName := ⟨RX12, "undo", "()I"⟩
def RJ6 : String := "java/lang/Integer"
abbrev cJ6_bitCount_0f7a4 : ByteArray := prog_15_method_49_code
def yJ6_bitCount_0f7a4 : MethodName := ⟨RJ6, "bitCount", "(I)I"⟩
def RJ9 : String := "java/lang/Math"
abbrev cJ9_floorMod_7cf53 : ByteArray := prog_16_method_50_code
def yJ9_floorMod_7cf53 : MethodName := ⟨RJ9, "floorMod", "(II)I"⟩
abbrev cJ9_abs_0f7a4 : ByteArray := prog_16_method_59_code
def yJ9_abs_0f7a4 : MethodName := ⟨RJ9, "abs", "(I)I"⟩
abbrev cJ9_max_7cf53 : ByteArray := prog_16_method_65_code
def yJ9_max_7cf53 : MethodName := ⟨RJ9, "max", "(II)I"⟩
abbrev cJ9_min_7cf53 : ByteArray := prog_16_method_69_code
def yJ9_min_7cf53 : MethodName := ⟨RJ9, "min", "(II)I"⟩
def RJ0 : String := "java/lang/String"
abbrev cJ0_length_8abf5 : ByteArray := prog_17_method_54_code
def yJ0_length_8abf5 : MethodName := ⟨RJ0, "length", "()I"⟩
abbrev cJ0_charAt_5068e : ByteArray := prog_17_method_56_code
def yJ0_charAt_5068e : MethodName := ⟨RJ0, "charAt", "(I)C"⟩
abbrev cJ0_coder_7d493 : ByteArray := prog_17_method_152_code
def yJ0_coder_7d493 : MethodName := ⟨RJ0, "coder", "()B"⟩
abbrev cJ0_isLatin1_aae02 : ByteArray := prog_17_method_154_code
def yJ0_isLatin1_aae02 : MethodName := ⟨RJ0, "isLatin1", "()Z"⟩
abbrev cJ0_checkIndex_df160 : ByteArray := prog_17_method_155_code
def yJ0_checkIndex_df160 : MethodName := ⟨RJ0, "checkIndex", "(II)V"⟩
def RJ1 : String := "java/lang/StringLatin1"
abbrev cJ1_charAt_3b067 : ByteArray := prog_18_method_2_code
def yJ1_charAt_3b067 : MethodName := ⟨RJ1, "charAt", "([BI)C"⟩
def RJ2 : String := "java/lang/StringUTF16"
abbrev cJ2_getChar_3b067 : ByteArray := prog_19_method_5_code
def yJ2_getChar_3b067 : MethodName := ⟨RJ2, "getChar", "([BI)C"⟩
abbrev cJ2_length_9d52b : ByteArray := prog_19_method_6_code
def yJ2_length_9d52b : MethodName := ⟨RJ2, "length", "([B)I"⟩
abbrev cJ2_charAt_3b067 : ByteArray := prog_19_method_83_code
def yJ2_charAt_3b067 : MethodName := ⟨RJ2, "charAt", "([BI)C"⟩
abbrev cJ2_checkIndex_2214a : ByteArray := prog_19_method_91_code
def yJ2_checkIndex_2214a : MethodName := ⟨RJ2, "checkIndex", "(I[B)V"⟩
def RJ10 : String := "java/lang/System"
def RJ3 : String := "jdk/internal/util/Preconditions"
abbrev cJ3_checkIndex_8e157 : ByteArray := prog_21_method_11_code
def yJ3_checkIndex_8e157 : MethodName := ⟨RJ3, "checkIndex", "(IILjava/util/function/BiFunction;)I"⟩
def RL : String := "FootQuarrelLaw"
abbrev cL_law : ByteArray := code
abbrev vwCl : List vw_C := [(RX0, TX0, 4), (RX1, TX1, 11), (RX2, TX2, 8), (RX3, TX3, 7), (RX4, TX4, 12), (RX5, TX5, 5), (RX6, TX6, 17), (RX7, TX7, 5), (RX8, TX8, 3), (RX9, TX9, 10), (RX10, TX10, 5), (RX11, TX11, 15), (RX12, TX12, 36)]
